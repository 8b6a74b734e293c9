/-! ===== the merger: changes are remembered; settings ===== -/
set_option maxHeartbeats 4000000 in
set_option maxRecDepth 100000 in
theorem m_X9_remember_a {G : jG} {M : jM} {c v : Nat} {S : aSet} {P : List aSet} {V : Option aSet} {b : List Nat} {e : Option Nat} {u : Option aRun} {Z : jH}  (hs : (gL G).stackTraces = false) (h : cJ G M Z c v S P V b e u) (hn8 : P.length < 8) : JMet G jX9_remember [.ref c] (M) 0 0 2 (fun w M' => w = none ∧ cJ G M' Z c v S (keepP P S) V b e u ∧ kept M M' (fun a => a = c ∨ a = c + 13 ∨ (c + 80 ≤ a ∧ a < c + 119))) jNo := by
  refine jMet_of [some (.ref (c))] (by decide) rfl (Nat.le_of_ble_eq_true rfl) (rfl) hs ?_
  intro C hC9 hG
  have hC := hC9.z
  have hs9 := jOK0_tr hC
  refine j_lt (fun hlt => ?_)
  have hBg : jB C = gB G := by rw [jB, hG]
  subst hG
  obtain ⟨⟨a1, za⟩, ⟨⟨cap, hbu⟩, zb1, zbv, hv, hb120, hbc⟩, ⟨hS, zs3, zs4⟩, ⟨hVX, zv8, zv9, hVs⟩, ⟨pa, hPa⟩, ⟨ho, zo, hon⟩, ⟨⟨dX, dk, dr, dl, dch, hd⟩, zd⟩, ⟨⟨od, hod⟩, zn79⟩, ⟨hz, hkr, hBc, ⟨mk, hmk⟩⟩, hP8, hE⟩ := id h
  obtain ⟨p1, zp13, p3, p4, p5, p6⟩ := id hPa
  obtain ⟨⟨mb, bu, hb1, hb2, hb3, hb4, hb5⟩, hb6, hb7⟩ := id hbu
  obtain ⟨⟨lay, home, ff, xe, u1, u2, u5, u3, u6, u7⟩, u4⟩ := id hS
  obtain ⟨ho1, ho2, ho3, ho4, ho5⟩ := id ho
  have hn20 : (sRecs S).length ≤ 20 := u4.1.1
  have hk32 : sKeys S < 32 := u4.1.2.1
  have hp3 : sPol S < 3 := u4.1.2.2.1
  have ho10 : sOut S < 1024 := u4.1.2.2.2.1
  have hl2 : sLim S ≤ 200 := u4.1.2.2.2.2.1.2
  have hl1 : 1 ≤ sLim S := u4.1.2.2.2.2.1.1
  have hmk9 := hlt _ _ hmk
  refine j_aload_n hC dX9_remember_0 rfl (jrf_ref _) ?_
  refine j_get (v := .int (nI (P.length))) hC kf_X9_48 dX9_remember_1 (a1) (rfl) ?_
  refine j_aload_n hC dX9_remember_4 rfl (jrf_ref _) ?_
  refine j_get (v := .ref (c + 13)) hC kf_X9_26 dX9_remember_5 (a1) (rfl) ?_
  refine c_alen hC dX9_remember_8 (p1) ?_
  refine n_icmp_lt (tgt := 16) hC dX9_remember_9 (by decide) (by omega) (by omega) (fun c1 => ?_) (fun c1 => ?_)
  · have hn7 : P.length < 8 := by exact hn8
    obtain ⟨w1, w2, w3, w4, w5, w6, w7, wf, wx, wy⟩ := (p5 _ hn7).1
    have hpn := hPa.get hn7
    refine j_aload_n hC dX9_remember_16 rfl (jrf_ref _) ?_
    refine j_get (v := .ref (c + 13)) hC kf_X9_26 dX9_remember_17 (a1) (rfl) ?_
    refine j_aload_n hC dX9_remember_20 rfl (jrf_ref _) ?_
    refine j_get (v := .int (nI (P.length))) hC kf_X9_48 dX9_remember_21 (a1) (rfl) ?_
    refine c_aald (i := P.length) (v := .ref (pa P.length)) hC dX9_remember_24 (p1) rfl (by omega) (by omega) (rfl) ?_
    refine j_aload_n hC dX9_remember_25 rfl (jrf_ref _) ?_
    refine j_get (v := .ref (c + 3)) hC kf_X9_19 dX9_remember_26 (a1) (rfl) ?_
    refine c_Pv (kc := 0) (ks := 0) hC kv_X9_352 dX9_remember_29 (m_X5_copyFrom (s := pa P.length) (z := c + 3) hs9 hS (p5 _ hn7).1 hz ⟨by omega, by omega, by omega⟩ (by omega) (by omega)) (wx) rfl rfl rfl rfl (by decide) (Nat.le_of_ble_eq_true rfl) ?_
    intro v9 M2 h9
    obtain ⟨rfl, f1, f2⟩ := h9
    refine j_aload_n hC dX9_remember_32 rfl (jrf_ref _) ?_
    refine j_dup hC dX9_remember_33 rfl ?_
    refine j_get (v := .int (nI (P.length))) hC kf_X9_48 dX9_remember_34 ((f2 _ (by omega) (by omega)).trans (a1)) (rfl) ?_
    refine j_iconst (v := nI 1) hC dX9_remember_37 (by decide) ?_
    refine n_iadd hC dX9_remember_38 ?_
    refine c_put (fs' := [.ref (c + 1), .ref (c + 3), .ref (c + 8), .ref (c + 13), .ref (c + 14), .ref (c + 76), .ref (c + 79), .int (nI ((P.length) + (1))), .int (zI (optZ e)), .int (jb (V.isSome = true))]) hC kp_X9_48 dX9_remember_39 ((f2 _ (by omega) (by omega)).trans (a1)) (by omega) (rfl) (rfl) rfl ?_
    have f3 : kept M (jput (M2) (c) (.inr (13, [.ref (c + 1), .ref (c + 3), .ref (c + 8), .ref (c + 13), .ref (c + 14), .ref (c + 76), .ref (c + 79), .int (nI ((P.length) + (1))), .int (zI (optZ e)), .int (jb (V.isSome = true))]))) (fun a => a = c ∨ a = pa P.length ∨ a = pa P.length + 1) := fun a o ha hn => (jput_ne (fun e9 => hn (Or.inl e9))).trans ((f2 _ (fun e9 => hn (Or.inr (Or.inl e9))) (fun e9 => hn (Or.inr (Or.inr e9)))).trans ha)
    have f4 : suR (jput (M2) (c) (.inr (13, [.ref (c + 1), .ref (c + 3), .ref (c + 8), .ref (c + 13), .ref (c + 14), .ref (c + 76), .ref (c + 79), .int (nI ((P.length) + (1))), .int (zI (optZ e)), .int (jb (V.isSome = true))]))).1 Z (pa P.length) S := f1.up sub_refl (W := fun a => a = c) (fun a o ha hn => (jput_ne hn).trans ha) (by omega) (by omega)
    have hlen : (P ++ [S]).length = P.length + 1 := by rw [List.length_append, List.length_singleton]
    have hJ9 := h.past (P' := P ++ [S]) (M' := jput (M2) (c) (.inr (13, [.ref (c + 1), .ref (c + 3), .ref (c + 8), .ref (c + 13), .ref (c + 14), .ref (c + 76), .ref (c + 79), .int (nI ((P.length) + (1))), .int (zI (optZ e)), .int (jb (V.isSome = true))]))) (by rw [hlen]; exact jput_at) (hPa.push hn7 f4 f3) (by rw [hlen]; omega) f3 (fun a (e9 : a = c ∨ a = pa P.length ∨ a = pa P.length + 1) => by omega) (kept.sub f3 hz (fun a e9 => by rcases e9 with e9 | e9 | e9 <;> rw [e9] <;> first | assumption | exact (p5 _ hn7).2.1 | exact (p5 _ hn7).2.2))
    have hkp : keepP P S = P ++ [S] := by rw [keepP, if_neg (by omega)]
    exact j_vret hC9 rfl dX9_remember_42 (⟨rfl, by rw [hkp]; exact hJ9, f3.wk (fun a (e9 : a = c ∨ a = pa P.length ∨ a = pa P.length + 1) => (show _ ∨ _ ∨ _ from by omega))⟩)
  · exact (show False by omega).elim
set_option maxHeartbeats 4000000 in
set_option maxRecDepth 100000 in
theorem m_X9_remember_b {G : jG} {M : jM} {c v : Nat} {S : aSet} {P : List aSet} {V : Option aSet} {b : List Nat} {e : Option Nat} {u : Option aRun} {Z : jH}  (hs : (gL G).stackTraces = false) (h : cJ G M Z c v S P V b e u) (hn8 : P.length = 8) : JMet G jX9_remember [.ref c] (M) 0 0 2 (fun w M' => w = none ∧ cJ G M' Z c v S (keepP P S) V b e u ∧ kept M M' (fun a => a = c ∨ a = c + 13 ∨ (c + 80 ≤ a ∧ a < c + 119))) jNo := by
  refine jMet_of [some (.ref (c))] (by decide) rfl (Nat.le_of_ble_eq_true rfl) (rfl) hs ?_
  intro C hC9 hG
  have hC := hC9.z
  have hs9 := jOK0_tr hC
  refine j_lt (fun hlt => ?_)
  have hBg : jB C = gB G := by rw [jB, hG]
  subst hG
  obtain ⟨⟨a1, za⟩, ⟨⟨cap, hbu⟩, zb1, zbv, hv, hb120, hbc⟩, ⟨hS, zs3, zs4⟩, ⟨hVX, zv8, zv9, hVs⟩, ⟨pa, hPa⟩, ⟨ho, zo, hon⟩, ⟨⟨dX, dk, dr, dl, dch, hd⟩, zd⟩, ⟨⟨od, hod⟩, zn79⟩, ⟨hz, hkr, hBc, ⟨mk, hmk⟩⟩, hP8, hE⟩ := id h
  obtain ⟨p1, zp13, p3, p4, p5, p6⟩ := id hPa
  obtain ⟨⟨mb, bu, hb1, hb2, hb3, hb4, hb5⟩, hb6, hb7⟩ := id hbu
  obtain ⟨⟨lay, home, ff, xe, u1, u2, u5, u3, u6, u7⟩, u4⟩ := id hS
  obtain ⟨ho1, ho2, ho3, ho4, ho5⟩ := id ho
  have hn20 : (sRecs S).length ≤ 20 := u4.1.1
  have hk32 : sKeys S < 32 := u4.1.2.1
  have hp3 : sPol S < 3 := u4.1.2.2.1
  have ho10 : sOut S < 1024 := u4.1.2.2.2.1
  have hl2 : sLim S ≤ 200 := u4.1.2.2.2.2.1.2
  have hl1 : 1 ≤ sLim S := u4.1.2.2.2.2.1.1
  have hmk9 := hlt _ _ hmk
  refine j_aload_n hC dX9_remember_0 rfl (jrf_ref _) ?_
  refine j_get (v := .int (nI (P.length))) hC kf_X9_48 dX9_remember_1 (a1) (rfl) ?_
  refine j_aload_n hC dX9_remember_4 rfl (jrf_ref _) ?_
  refine j_get (v := .ref (c + 13)) hC kf_X9_26 dX9_remember_5 (a1) (rfl) ?_
  refine c_alen hC dX9_remember_8 (p1) ?_
  refine n_icmp_lt (tgt := 16) hC dX9_remember_9 (by decide) (by omega) (by omega) (fun c1 => ?_) (fun c1 => ?_)
  · exact (show False by omega).elim
  · refine j_aload_n hC dX9_remember_12 rfl (jrf_ref _) ?_
    refine c_Pv (kc := 0) (ks := 0) hC kv_X9_393 dX9_remember_13 (m_X9_forgetOldest hs9 h hPa hn8) (a1) rfl rfl rfl rfl (by decide) (Nat.le_of_ble_eq_true rfl) ?_
    intro v9 M1 h9
    obtain ⟨rfl, g1, g2, g3⟩ := h9
    have hJ1 : cJ (jCG C) M1 Z c v S P.tail V b e u := h.past (P' := P.tail) (by rw [List.length_tail, hn8]; exact g2) g1 (by rw [List.length_tail]; omega) g3 (fun a (e9 : a = c ∨ a = c + 13) => by omega) (kept.sub g3 hz (fun a e9 => by rcases e9 with e9 | e9 <;> rw [e9] <;> assumption))
    have hPl : P.tail.length = 7 := by rw [List.length_tail, hn8]
    refine j_lt (fun hlt1 => ?_)
    obtain ⟨⟨a1, za⟩, ⟨⟨cap, hbu⟩, zb1, zbv, hv, hb120, hbc⟩, ⟨hS, zs3, zs4⟩, ⟨hVX, zv8, zv9, hVs⟩, ⟨pa, hPa⟩, ⟨ho, zo, hon⟩, ⟨⟨dX, dk, dr, dl, dch, hd⟩, zd⟩, ⟨⟨od, hod⟩, zn79⟩, ⟨hz, hkr, hBc, ⟨mk, hmk⟩⟩, hP8, hE⟩ := id hJ1
    obtain ⟨p1, zp13, p3, p4, p5, p6⟩ := id hPa
    obtain ⟨⟨mb, bu, hb1, hb2, hb3, hb4, hb5⟩, hb6, hb7⟩ := id hbu
    obtain ⟨⟨lay, home, ff, xe, u1, u2, u5, u3, u6, u7⟩, u4⟩ := id hS
    obtain ⟨ho1, ho2, ho3, ho4, ho5⟩ := id ho
    have hn20 : (sRecs S).length ≤ 20 := u4.1.1
    have hk32 : sKeys S < 32 := u4.1.2.1
    have hp3 : sPol S < 3 := u4.1.2.2.1
    have ho10 : sOut S < 1024 := u4.1.2.2.2.1
    have hl2 : sLim S ≤ 200 := u4.1.2.2.2.2.1.2
    have hl1 : 1 ≤ sLim S := u4.1.2.2.2.2.1.1
    have hmk9 := hlt1 _ _ hmk
    have hn7 : P.tail.length < 8 := by omega
    obtain ⟨w1, w2, w3, w4, w5, w6, w7, wf, wx, wy⟩ := (p5 _ hn7).1
    have hpn := hPa.get hn7
    refine j_aload_n hC dX9_remember_16 rfl (jrf_ref _) ?_
    refine j_get (v := .ref (c + 13)) hC kf_X9_26 dX9_remember_17 (a1) (rfl) ?_
    refine j_aload_n hC dX9_remember_20 rfl (jrf_ref _) ?_
    refine j_get (v := .int (nI (P.tail.length))) hC kf_X9_48 dX9_remember_21 (a1) (rfl) ?_
    refine c_aald (i := P.tail.length) (v := .ref (pa P.tail.length)) hC dX9_remember_24 (p1) rfl (by omega) (by omega) (rfl) ?_
    refine j_aload_n hC dX9_remember_25 rfl (jrf_ref _) ?_
    refine j_get (v := .ref (c + 3)) hC kf_X9_19 dX9_remember_26 (a1) (rfl) ?_
    refine c_Pv (kc := 0) (ks := 0) hC kv_X9_352 dX9_remember_29 (m_X5_copyFrom (s := pa P.tail.length) (z := c + 3) hs9 hS (p5 _ hn7).1 hz ⟨by omega, by omega, by omega⟩ (by omega) (by omega)) (wx) rfl rfl rfl rfl (by decide) (Nat.le_of_ble_eq_true rfl) ?_
    intro v9 M2 h9
    obtain ⟨rfl, f1, f2⟩ := h9
    refine j_aload_n hC dX9_remember_32 rfl (jrf_ref _) ?_
    refine j_dup hC dX9_remember_33 rfl ?_
    refine j_get (v := .int (nI (P.tail.length))) hC kf_X9_48 dX9_remember_34 ((f2 _ (by omega) (by omega)).trans (a1)) (rfl) ?_
    refine j_iconst (v := nI 1) hC dX9_remember_37 (by decide) ?_
    refine n_iadd hC dX9_remember_38 ?_
    refine c_put (fs' := [.ref (c + 1), .ref (c + 3), .ref (c + 8), .ref (c + 13), .ref (c + 14), .ref (c + 76), .ref (c + 79), .int (nI ((P.tail.length) + (1))), .int (zI (optZ e)), .int (jb (V.isSome = true))]) hC kp_X9_48 dX9_remember_39 ((f2 _ (by omega) (by omega)).trans (a1)) (by omega) (rfl) (rfl) rfl ?_
    have f3 : kept M1 (jput (M2) (c) (.inr (13, [.ref (c + 1), .ref (c + 3), .ref (c + 8), .ref (c + 13), .ref (c + 14), .ref (c + 76), .ref (c + 79), .int (nI ((P.tail.length) + (1))), .int (zI (optZ e)), .int (jb (V.isSome = true))]))) (fun a => a = c ∨ a = pa P.tail.length ∨ a = pa P.tail.length + 1) := fun a o ha hn => (jput_ne (fun e9 => hn (Or.inl e9))).trans ((f2 _ (fun e9 => hn (Or.inr (Or.inl e9))) (fun e9 => hn (Or.inr (Or.inr e9)))).trans ha)
    have f4 : suR (jput (M2) (c) (.inr (13, [.ref (c + 1), .ref (c + 3), .ref (c + 8), .ref (c + 13), .ref (c + 14), .ref (c + 76), .ref (c + 79), .int (nI ((P.tail.length) + (1))), .int (zI (optZ e)), .int (jb (V.isSome = true))]))).1 Z (pa P.tail.length) S := f1.up sub_refl (W := fun a => a = c) (fun a o ha hn => (jput_ne hn).trans ha) (by omega) (by omega)
    have hlen : (P.tail ++ [S]).length = P.tail.length + 1 := by rw [List.length_append, List.length_singleton]
    have hJ9 := hJ1.past (P' := P.tail ++ [S]) (M' := jput (M2) (c) (.inr (13, [.ref (c + 1), .ref (c + 3), .ref (c + 8), .ref (c + 13), .ref (c + 14), .ref (c + 76), .ref (c + 79), .int (nI ((P.tail.length) + (1))), .int (zI (optZ e)), .int (jb (V.isSome = true))]))) (by rw [hlen]; exact jput_at) (hPa.push hn7 f4 f3) (by rw [hlen]; omega) f3 (fun a (e9 : a = c ∨ a = pa P.tail.length ∨ a = pa P.tail.length + 1) => by omega) (kept.sub f3 hz (fun a e9 => by rcases e9 with e9 | e9 | e9 <;> rw [e9] <;> first | assumption | exact (p5 _ hn7).2.1 | exact (p5 _ hn7).2.2))
    have hkp : keepP P S = P.tail ++ [S] := by rw [keepP, if_pos hn8]
    exact j_vret hC9 rfl dX9_remember_42 (⟨rfl, by rw [hkp]; exact hJ9, fun a o ha hn => f3 _ _ (g3 _ _ ha (fun (e9 : a = c ∨ a = c + 13) => hn (show _ ∨ _ ∨ _ from by omega))) (fun (e9 : a = c ∨ a = pa P.tail.length ∨ a = pa P.tail.length + 1) => hn (show _ ∨ _ ∨ _ from by omega))⟩)
theorem m_X9_remember {G : jG} {M : jM} {c v : Nat} {S : aSet} {P : List aSet} {V : Option aSet} {b : List Nat} {e : Option Nat} {u : Option aRun} {Z : jH} (hs : (gL G).stackTraces = false) (h : cJ G M Z c v S P V b e u) : JMet G jX9_remember [.ref c] (M) 0 0 2 (fun w M' => w = none ∧ cJ G M' Z c v S (keepP P S) V b e u ∧ kept M M' (fun a => a = c ∨ a = c + 13 ∨ (c + 80 ≤ a ∧ a < c + 119))) jNo := by
  have h8 := h.2.2.2.2.2.2.2.2.2.1
  rcases Nat.lt_or_ge P.length 8 with h9 | h9
  · exact m_X9_remember_a hs h h9
  · exact m_X9_remember_b hs h (by omega)
