/-! ===== the merger: the buffer is taken, changes are remembered ===== -/
set_option maxHeartbeats 4000000 in
set_option maxRecDepth 100000 in
theorem m_X9_takeBuffer {G : jG} {M : jM} {c v : Nat} {S : aSet} {P : List aSet} {V : Option aSet} {b : List Nat} {e : Option Nat} {u : Option aRun} {Z : jH}  (hs : (gL G).stackTraces = false) (h : cJ G M Z c v S P V b e u)  : JMet G jX9_takeBuffer [.ref c] (M) 2 124 6 (fun w M' => ∃ p Z', w = some (.ref p) ∧ cJ G M' Z' c v S P V [] e u ∧ zg M Z Z' ∧ Z' p = some (.inr (0, [.ref (p + 1), .int (nI 0), .int 0, .int 0])) ∧ strR Z' p b ∧ kept M M' (fun a => a = c + 1) ∧ p = M.2 ∧ M'.2 = M.2 + 2 ∧ (∀ a, Z' a ≠ Z a → a = M.2 ∨ a = M.2 + 1)) jNo := by
  refine jMet_of [some (.ref (c)), none] (by decide) rfl (Nat.le_of_ble_eq_true rfl) (rfl) hs ?_
  intro C hC9 hG
  have hC := hC9.z
  have hs9 := jOK0_tr hC
  refine j_lt (fun hlt => ?_)
  have hBg : jB C = gB G := by rw [jB, hG]
  subst hG
  obtain ⟨⟨a1, za⟩, ⟨⟨cap, hbu⟩, zb1, zbv, hv, hb120, hbc⟩, ⟨hS, zs3, zs4⟩, ⟨hVX, zv8, zv9, hVs⟩, ⟨pa, hPa⟩, ⟨ho, zo, hon⟩, ⟨⟨dX, dk, dr, dl, dch, hd⟩, zd⟩, ⟨⟨od, hod⟩, zn79⟩, ⟨hz, hkr, hBc, ⟨mk, hmk⟩⟩, hP8, hE⟩ := id h
  obtain ⟨p1, zp13, p3, p4, p5, p6⟩ := id hPa
  obtain ⟨⟨mb, bu, hb1, hb2, hb3, hb4, hb5⟩, hb6, hb7⟩ := id hbu
  obtain ⟨⟨lay, home, ff, xe, u1, u2, u5, u3, u6, u7⟩, u4⟩ := id hS
  obtain ⟨ho1, ho2, ho3, ho4, ho5⟩ := id ho
  have hn20 : (sRecs S).length ≤ 20 := u4.1.1
  have hk32 : sKeys S < 32 := u4.1.2.1
  have hp3 : sPol S < 3 := u4.1.2.2.1
  have ho10 : sOut S < 1024 := u4.1.2.2.2.1
  have hl2 : sLim S ≤ 200 := u4.1.2.2.2.2.1.2
  have hl1 : 1 ≤ sLim S := u4.1.2.2.2.2.1.1
  have hmk9 := hlt _ _ hmk
  refine j_aload_n hC dX9_takeBuffer_0 rfl (jrf_ref _) ?_
  refine j_get (v := .ref (c + 1)) hC kf_X9_10 dX9_takeBuffer_1 (a1) (rfl) ?_
  refine j_less (kc' := 0 + 2) (ks' := 0 + (b.length + 4)) (by omega) (by omega) ?_
  refine c_Pv (kc := 0) (ks := 0) hC kv_X9_374 dX9_takeBuffer_4 (m_J4_toString_0e30d hs9 hbu (by omega) (by omega)) (hb1) rfl rfl rfl rfl (by decide) (Nat.le_of_ble_eq_true rfl) ?_
  intro v9 M1 h9
  obtain ⟨rfl, e1, e2, e3, e4⟩ := h9
  have hz1 : sub Z M1.1 := fun a o ha => e3 _ _ (hz a o ha)
  have hbu1 : bufR M1.1 (c + 1) v cap b := hbu.up (fun a o _ ho => e3 _ _ ho)
  refine j_astore_n1 hC dX9_takeBuffer_7 (jrf_ref _) (by decide) rfl ?_
  refine j_aload_n hC dX9_takeBuffer_8 rfl (jrf_ref _) ?_
  refine j_get (v := .ref (c + 1)) hC kf_X9_10 dX9_takeBuffer_9 ((e3 _ _ (a1))) (rfl) ?_
  refine j_iconst (v := nI 0) hC dX9_takeBuffer_12 (by decide) ?_
  refine c_Pv (kc := 0) (ks := 0) hC kv_X9_377 dX9_takeBuffer_13 (m_J4_setLength_d00df hs9 hbu1 (by omega) (by omega) (by omega)) ((e3 _ _ (hb1))) rfl rfl rfl rfl (by decide) (Nat.le_of_ble_eq_true rfl) ?_
  intro v9 M2 h9
  obtain ⟨rfl, f1, f2, f3⟩ := h9
  refine j_aload_n hC dX9_takeBuffer_16 rfl (jrf_ref _) ?_
  have q1 := zadd_N (H := M1.1) (k := 2) hz hlt
  have q2 : zg M Z (zadd Z M1.1 M.2 2) := ⟨(q1.ex hlt).1, (q1.ex hlt).2⟩
  have q3 : sub (zadd Z M1.1 M.2 2) M1.1 := zadd_sub hz1
  have hk9 : kept M M2 (fun a => a = c + 1) := fun a o ha hn => f2 _ _ (e3 _ _ ha) hn
  have q4 : zadd Z M1.1 M.2 2 (c + 1) = none := q2.no zb1 hb1
  have q5 : sub (zadd Z M1.1 M.2 2) M2.1 := kept.sub f2 q3 (fun a e9 => by rw [show a = c + 1 from e9]; exact q4)
  exact j_aret hC9 rfl (by first | exact Or.inl ⟨_, rfl⟩ | exact Or.inr ⟨_, rfl⟩) dX9_takeBuffer_17 (⟨M.2, zadd Z M1.1 M.2 2, rfl, h.bufv f1 ⟨Nat.zero_le _, fun x hx => by cases hx⟩ q2 q5 (q2.no zbv hb2) hv (hk9.wk (fun a e9 => Or.inl e9)), q2, (zadd_in (by omega) (by omega)).trans e1, ⟨⟨M.2 + 1, _, (zadd_in (by omega) (by omega)).trans e1, rfl, rfl, (zadd_in (by omega) (by omega)).trans e2⟩, hbu.ok⟩, hk9, rfl, f3.trans e4, fun a ha => by
  by_cases e9 : M.2 ≤ a ∧ a < M.2 + 2
  · omega
  · exact absurd (zadd_out e9) ha⟩) (jrf_ref _)
theorem zg.tr {M M1 : jM} {Z Z1 Z2 : jH} {W : Nat → Prop} (h : zg M Z Z1) (hk : kept M M1 W) (h2 : zg M1 Z1 Z2) (hW : ∀ a, W a → ∃ o, M1.1 a = some o) : zg M Z Z2 := by
  refine ⟨fun a o ha => h2.1 a o (h.1 a o ha), fun a o ha => ?_⟩
  rcases h2.2 a o ha with h9 | h9
  · exact h.2 a o h9
  · cases e : M.1 a with
    | none => exact Or.inr rfl
    | some x =>
      by_cases hw : W a
      · obtain ⟨y, hy⟩ := hW a hw
        rw [hy] at h9; cases h9
      · rw [hk a x e hw] at h9; cases h9
set_option maxHeartbeats 4000000 in
set_option maxRecDepth 100000 in
theorem m_X9_takeFieldText {G : jG} {M : jM} {c v : Nat} {S : aSet} {P : List aSet} {V : Option aSet} {b : List Nat} {e : Option Nat} {u : Option aRun} {Z : jH}  (hs : (gL G).stackTraces = false) (h : cJ G M Z c v S P V b e u)  : JMet G jX9_takeFieldText [.ref c] (M) 3 131 7 (fun w M' => ∃ p Z', w = some (.ref p) ∧ wrongA b = none ∧ cJ G M' Z' c v S P V [] e u ∧ zg M Z Z' ∧ txtR Z' p b ∧ kept M M' (fun a => a = c + 1)) (fun E M' => E = "java/lang/IllegalArgumentException" ∧ ∃ k, wrongA b = some k ∧ ∃ Z', cJ G M' Z' c v S P V [] (some k) u ∧ zg M Z Z' ∧ kept M M' (fun a => a = c ∨ a = c + 1)) := by
  refine jMet_of [some (.ref (c)), none, none] (by decide) rfl (Nat.le_of_ble_eq_true rfl) (rfl) hs ?_
  intro C hC9 hG
  have hC := hC9.z
  have hs9 := jOK0_tr hC
  refine j_lt (fun hlt => ?_)
  have hBg : jB C = gB G := by rw [jB, hG]
  subst hG
  obtain ⟨⟨a1, za⟩, ⟨⟨cap, hbu⟩, zb1, zbv, hv, hb120, hbc⟩, ⟨hS, zs3, zs4⟩, ⟨hVX, zv8, zv9, hVs⟩, ⟨pa, hPa⟩, ⟨ho, zo, hon⟩, ⟨⟨dX, dk, dr, dl, dch, hd⟩, zd⟩, ⟨⟨od, hod⟩, zn79⟩, ⟨hz, hkr, hBc, ⟨mk, hmk⟩⟩, hP8, hE⟩ := id h
  obtain ⟨p1, zp13, p3, p4, p5, p6⟩ := id hPa
  obtain ⟨⟨mb, bu, hb1, hb2, hb3, hb4, hb5⟩, hb6, hb7⟩ := id hbu
  obtain ⟨⟨lay, home, ff, xe, u1, u2, u5, u3, u6, u7⟩, u4⟩ := id hS
  obtain ⟨ho1, ho2, ho3, ho4, ho5⟩ := id ho
  have hn20 : (sRecs S).length ≤ 20 := u4.1.1
  have hk32 : sKeys S < 32 := u4.1.2.1
  have hp3 : sPol S < 3 := u4.1.2.2.1
  have ho10 : sOut S < 1024 := u4.1.2.2.2.1
  have hl2 : sLim S ≤ 200 := u4.1.2.2.2.2.1.2
  have hl1 : 1 ≤ sLim S := u4.1.2.2.2.2.1.1
  have hmk9 := hlt _ _ hmk
  refine j_aload_n hC dX9_takeFieldText_0 rfl (jrf_ref _) ?_
  refine c_Pv (kc := 1) (ks := 7) hC kv_X9_194 dX9_takeFieldText_1 (m_X9_takeBuffer hs9 h) (a1) rfl rfl rfl rfl (by decide) (Nat.le_of_ble_eq_true rfl) ?_
  intro v9 M1 h9
  obtain ⟨p, Z1, rfl, hJ1, hg1, -, htx, hk1, -, -⟩ := h9
  have hb0 := hb120
  refine j_lt (fun hlt1 => ?_)
  obtain ⟨⟨a1, za⟩, ⟨⟨cap, hbu⟩, zb1, zbv, hv, hb120, hbc⟩, ⟨hS, zs3, zs4⟩, ⟨hVX, zv8, zv9, hVs⟩, ⟨pa, hPa⟩, ⟨ho, zo, hon⟩, ⟨⟨dX, dk, dr, dl, dch, hd⟩, zd⟩, ⟨⟨od, hod⟩, zn79⟩, ⟨hz, hkr, hBc, ⟨mk, hmk⟩⟩, hP8, hE⟩ := id hJ1
  obtain ⟨p1, zp13, p3, p4, p5, p6⟩ := id hPa
  obtain ⟨⟨mb, bu, hb1, hb2, hb3, hb4, hb5⟩, hb6, hb7⟩ := id hbu
  obtain ⟨⟨lay, home, ff, xe, u1, u2, u5, u3, u6, u7⟩, u4⟩ := id hS
  obtain ⟨ho1, ho2, ho3, ho4, ho5⟩ := id ho
  have hn20 : (sRecs S).length ≤ 20 := u4.1.1
  have hk32 : sKeys S < 32 := u4.1.2.1
  have hp3 : sPol S < 3 := u4.1.2.2.1
  have ho10 : sOut S < 1024 := u4.1.2.2.2.1
  have hl2 : sLim S ≤ 200 := u4.1.2.2.2.2.1.2
  have hl1 : 1 ≤ sLim S := u4.1.2.2.2.2.1.1
  have hmk9 := hlt1 _ _ hmk
  have hzw := optZ_zB (x := wrongA b) (n := 120) (fun m hm => Nat.lt_of_lt_of_le (wrong_lt hm) hb0)
  refine j_astore_n1 hC dX9_takeFieldText_4 (jrf_ref _) (by decide) rfl ?_
  refine j_aload_n hC dX9_takeFieldText_5 rfl (jrf_ref _) ?_
  refine c_S hC ks_X9_380 rfl dX9_takeFieldText_6 (m_X9_wrongPlaceOfField hs9 (htx.mono hz) hb0) rfl rfl (by decide) (Nat.le_of_ble_eq_true rfl) ?_
  refine j_istore_n2 hC dX9_takeFieldText_9 (by decide) rfl ?_
  refine j_iload_n hC dX9_takeFieldText_10 rfl ?_
  refine z_if_lt (a := (optZ (wrongA b))) (tgt := 30) hC dX9_takeFieldText_11 (by decide) (by unfold zB; omega) (fun c1 => ?_) (fun c1 => ?_)
  · refine c_new (kc := 0) (ks := 6) hC kn_X9_153 dX9_takeFieldText_30 rfl ?_
    refine j_dup hC dX9_takeFieldText_33 rfl ?_
    refine j_aload_n hC dX9_takeFieldText_34 rfl (jrf_ref _) ?_
    refine c_Ik (kc' := 0) (ks' := 0) (kc := 0) (ks := 6) hC ki_X9_386 dX9_takeFieldText_35 (m_X8_init (x := p) hs9 (jnew_at) (by show _ ≤ M1.2; omega)) rfl rfl (by decide) (Nat.le_of_ble_eq_true rfl) ?_
    have hno : wrongA b = none := optZ_none (by omega)
    have hz3 : sub Z1 (jput (jnew (M1) (.inr (12, [.null]))) (M1.2) (.inr (12, [.ref (p)]))).1 := fun a o ha => (jput_ne (by have := hlt1 _ _ (hz a o ha); omega)).trans ((jnew_ne (by have := hlt1 _ _ (hz a o ha); omega)).trans (hz a o ha))
    have q1 := zadd_N (M := M1) (Z := Z1) (H := (jput (jnew (M1) (.inr (12, [.null]))) (M1.2) (.inr (12, [.ref (p)]))).1) (k := 1) hz hlt1
    have q2 : zg M1 Z1 (zadd Z1 (jput (jnew (M1) (.inr (12, [.null]))) (M1.2) (.inr (12, [.ref (p)]))).1 M1.2 1) := ⟨(q1.ex hlt1).1, (q1.ex hlt1).2⟩
    have q3 : kept M1 (jput (jnew (M1) (.inr (12, [.null]))) (M1.2) (.inr (12, [.ref (p)]))) (fun _ => False) := fun a o ha _ => (jput_ne (by have := hlt1 _ _ ha; omega)).trans ((jnew_ne (by have := hlt1 _ _ ha; omega)).trans ha)
    exact j_aret hC9 rfl (by first | exact Or.inl ⟨_, rfl⟩ | exact Or.inr ⟨_, rfl⟩) dX9_takeFieldText_38 (⟨M1.2, _, rfl, hno, hJ1.more q2 (zadd_sub hz3) q3, hg1.tr hk1 q2 (fun a (e9 : a = c + 1) => by subst e9; exact ⟨_, hb1⟩), ⟨p, (zadd_in (by omega) (by omega)).trans jput_at, htx.mono q2.1⟩, fun a o ha hn => q3 _ _ (hk1 _ _ ha hn) id⟩) (jrf_ref _)
  · refine j_aload_n hC dX9_takeFieldText_14 rfl (jrf_ref _) ?_
    refine j_iload_n hC dX9_takeFieldText_15 rfl ?_
    refine c_put (fs' := [.ref (c + 1), .ref (c + 3), .ref (c + 8), .ref (c + 13), .ref (c + 14), .ref (c + 76), .ref (c + 79), .int (nI P.length), .int (zI (optZ (wrongA b))), .int (jb (V.isSome = true))]) hC kp_X9_52 dX9_takeFieldText_16 (a1) (by omega) (rfl) (rfl) rfl ?_
    obtain ⟨k, hk⟩ := optZ_some (x := wrongA b) (by omega)
    have hkb := wrong_lt hk
    exact j_throwSW hC9 (i := 14) rfl kt_X9_69 rfl dX9_takeFieldText_19 dX9_takeFieldText_22 dX9_takeFieldText_23 dX9_takeFieldText_26 dX9_takeFieldText_29 (by decide) (by decide) (by decide) (Nat.le_of_ble_eq_true rfl) (fun n9 => ⟨rfl, k, hk, Z1, cJ.err (M' := (_, n9)) (e' := some k) hJ1 (by rw [← hk]; exact jput_at) (fun k' e9 => by cases e9; omega) (fun a o ha hn => (jput_ne hn).trans ha), hg1, fun a o ha hn => (jput_ne (fun e9 => hn (Or.inl e9))).trans (hk1 a o ha (fun e9 => hn (Or.inr e9)))⟩)
set_option maxHeartbeats 4000000 in
set_option maxRecDepth 100000 in
theorem m_X9_forgetOldest {G : jG} {M : jM} {c v : Nat} {S : aSet} {P : List aSet} {V : Option aSet} {b : List Nat} {e : Option Nat} {u : Option aRun} {Z : jH} {qa : Nat → Nat} (hs : (gL G).stackTraces = false) (h : cJ G M Z c v S P V b e u) (hPa9 : cPa M Z c P qa) (hn8 : P.length = 8) : JMet G jX9_forgetOldest [.ref c] (M) 0 0 0 (fun w M' => w = none ∧ cPa M' Z c P.tail (fun j => if j < 7 then qa (j + 1) else if j = 7 then qa 0 else qa j) ∧ M'.1 c = some (.inr (13, cF c 7 (optZ e) V.isSome)) ∧ kept M M' (fun a => a = c ∨ a = c + 13)) jNo := by
  refine jMet_of [some (.ref (c)), none, none] (by decide) rfl (Nat.le_of_ble_eq_true rfl) (rfl) hs ?_
  intro C hC9 hG
  have hC := hC9.z
  have hs9 := jOK0_tr hC
  refine j_lt (fun hlt => ?_)
  have hBg : jB C = gB G := by rw [jB, hG]
  subst hG
  obtain ⟨⟨a1, za⟩, ⟨⟨cap, hbu⟩, zb1, zbv, hv, hb120, hbc⟩, ⟨hS, zs3, zs4⟩, ⟨hVX, zv8, zv9, hVs⟩, ⟨pa, hPa⟩, ⟨ho, zo, hon⟩, ⟨⟨dX, dk, dr, dl, dch, hd⟩, zd⟩, ⟨⟨od, hod⟩, zn79⟩, ⟨hz, hkr, hBc, ⟨mk, hmk⟩⟩, hP8, hE⟩ := id h
  obtain ⟨p1, zp13, p3, p4, p5, p6⟩ := id hPa
  obtain ⟨⟨mb, bu, hb1, hb2, hb3, hb4, hb5⟩, hb6, hb7⟩ := id hbu
  obtain ⟨⟨lay, home, ff, xe, u1, u2, u5, u3, u6, u7⟩, u4⟩ := id hS
  obtain ⟨ho1, ho2, ho3, ho4, ho5⟩ := id ho
  have hn20 : (sRecs S).length ≤ 20 := u4.1.1
  have hk32 : sKeys S < 32 := u4.1.2.1
  have hp3 : sPol S < 3 := u4.1.2.2.1
  have ho10 : sOut S < 1024 := u4.1.2.2.2.1
  have hl2 : sLim S ≤ 200 := u4.1.2.2.2.2.1.2
  have hl1 : 1 ≤ sLim S := u4.1.2.2.2.2.1.1
  have hmk9 := hlt _ _ hmk
  obtain ⟨q1, zq13, q3, q4, q5, q6⟩ := id hPa9
  obtain ⟨v1, v2, v3, v4, v5, v6, v7, vf, vx, -⟩ := (q5 0 (by omega)).1
  have hq0 := (hPa9.get (k := 0) (by omega)).1
  refine j_aload_n hC dX9_forgetOldest_0 rfl (jrf_ref _) ?_
  refine j_get (v := .ref (c + 13)) hC kf_X9_26 dX9_forgetOldest_1 (a1) (rfl) ?_
  refine j_iconst (v := nI 0) hC dX9_forgetOldest_4 (by decide) ?_
  refine c_aald (i := 0) (v := .ref (qa (0))) hC dX9_forgetOldest_5 (q1) rfl (by omega) (by omega) (rfl) ?_
  refine j_astore_n1 hC dX9_forgetOldest_6 (jrf_ref _) (by decide) rfl ?_
  refine j_iconst (v := nI 1) hC dX9_forgetOldest_7 (by decide) ?_
  refine j_istore_n2 hC dX9_forgetOldest_8 (by decide) rfl ?_
  suffices K : ∀ (n9 : Nat) (Mr : jM) (i : Nat), 8 - i < n9 → (Mr.1 (c + 13) = some (.inl (.object RX5, 8, fun j => Value.ref (if j + 1 < i then qa (j + 1) else qa j)))) → (∀ b9, b9 ≠ (c + 13) → Mr.1 b9 = (M).1 b9) → (Mr.2 = M.2) → (1 ≤ i ∧ i ≤ 8) → J C (Mr) 0 0 9 [some (.ref (c)), some (.ref (qa (0))), some (.int (nI (i)))] [] from (K _ (M) (1) (Nat.lt_succ_self _) (row_f (q1) (funext fun j => by rw [if_neg (by omega)])) (fun _ _ => rfl) rfl (by omega))
  intro n9
  induction n9 with
  | zero => intro Mr i hm; omega
  | succ n9 ih =>
    intro Mr i hm hrw0 hfr he2 hi
    have hqi : i < 8 → c + 80 ≤ qa i := fun h9 => (hPa9.get h9).1
    refine j_iload_n hC dX9_forgetOldest_9 rfl ?_
    refine j_aload_n hC dX9_forgetOldest_10 rfl (jrf_ref _) ?_
    refine j_get (v := .ref (c + 13)) hC kf_X9_26 dX9_forgetOldest_11 ((hfr _ (by show (c) ≠ (c + 13); omega)).trans (a1)) (rfl) ?_
    refine c_alen hC dX9_forgetOldest_14 (hrw0) ?_
    refine n_icmp_ge (tgt := 38) hC dX9_forgetOldest_15 (by decide) (by omega) (by omega) (fun c1 => ?_) (fun c1 => ?_)
    · refine j_aload_n hC dX9_forgetOldest_38 rfl (jrf_ref _) ?_
      refine j_get (v := .ref (c + 13)) hC kf_X9_26 dX9_forgetOldest_39 ((hfr _ (by show (c) ≠ (c + 13); omega)).trans (a1)) (rfl) ?_
      refine j_aload_n hC dX9_forgetOldest_42 rfl (jrf_ref _) ?_
      refine j_get (v := .ref (c + 13)) hC kf_X9_26 dX9_forgetOldest_43 ((hfr _ (by show (c) ≠ (c + 13); omega)).trans (a1)) (rfl) ?_
      refine c_alen hC dX9_forgetOldest_46 (hrw0) ?_
      refine j_iconst (v := nI 1) hC dX9_forgetOldest_47 (by decide) ?_
      refine n_isub hC dX9_forgetOldest_48 (by omega) ?_
      refine j_aload_n hC dX9_forgetOldest_49 rfl (jrf_ref _) ?_
      refine c_aast (i := 8 - 1) hC dX9_forgetOldest_50 (hrw0) (((hfr _ (by show (qa 0) ≠ (c + 13); omega)).trans (vx))) rfl (by omega) (by omega) (by omega) ?_
      refine j_aload_n hC dX9_forgetOldest_51 rfl (jrf_ref _) ?_
      refine j_aload_n hC dX9_forgetOldest_52 rfl (jrf_ref _) ?_
      refine j_get (v := .ref (c + 13)) hC kf_X9_26 dX9_forgetOldest_53 ((jput_ne (by show (c) ≠ (c + 13); omega)).trans ((hfr _ (by show (c) ≠ (c + 13); omega)).trans (a1))) (rfl) ?_
      refine c_alen hC dX9_forgetOldest_56 (jput_at) ?_
      refine j_iconst (v := nI 1) hC dX9_forgetOldest_57 (by decide) ?_
      refine n_isub hC dX9_forgetOldest_58 (by omega) ?_
      refine c_put (fs' := [.ref (c + 1), .ref (c + 3), .ref (c + 8), .ref (c + 13), .ref (c + 14), .ref (c + 76), .ref (c + 79), .int (nI (8 - 1)), .int (zI (optZ e)), .int (jb (V.isSome = true))]) hC kp_X9_48 dX9_forgetOldest_59 ((jput_ne (by show (c) ≠ (c + 13); omega)).trans ((hfr _ (by show (c) ≠ (c + 13); omega)).trans (a1))) (by omega) (rfl) (rfl) rfl ?_
      have hi8 : i = 8 := by omega
      have hrow9 : (jput (jput (Mr) (c + 13) (.inl (.object RX5, 8, (updV (fun j => Value.ref (if j + 1 < i then qa (j + 1) else qa j)) (8 - 1) (.ref (qa (0))))))) (c) (.inr (13, [.ref (c + 1), .ref (c + 3), .ref (c + 8), .ref (c + 13), .ref (c + 14), .ref (c + 76), .ref (c + 79), .int (nI (8 - 1)), .int (zI (optZ e)), .int (jb (V.isSome = true))]))).1 (c + 13) = some (.inl (.object RX5, 8, fun j => .ref (if j < 7 then qa (j + 1) else if j = 7 then qa 0 else qa j))) := (row_f ((jput_ne (by show (c + 13) ≠ (c); omega)).trans (jput_at)) (funext fun j => by
        by_cases e9 : j = 8 - 1
        · rw [e9, updV_at, if_neg (by omega), if_pos (by omega)]
        · rw [updV_ne e9]
          by_cases e8 : j + 1 < i
          · rw [if_pos e8, if_pos (by omega)]
          · rw [if_neg e8, if_neg (by omega), if_neg (by omega)]))
      have hk9 : kept M (jput (jput (Mr) (c + 13) (.inl (.object RX5, 8, (updV (fun j => Value.ref (if j + 1 < i then qa (j + 1) else qa j)) (8 - 1) (.ref (qa (0))))))) (c) (.inr (13, [.ref (c + 1), .ref (c + 3), .ref (c + 8), .ref (c + 13), .ref (c + 14), .ref (c + 76), .ref (c + 79), .int (nI (8 - 1)), .int (zI (optZ e)), .int (jb (V.isSome = true))]))) (fun a => a = c ∨ a = c + 13) := fun a9 o9 ha9 hn9 => by
        have hn1 : a9 ≠ c := fun e9 => hn9 (Or.inl e9)
        have hn2 : a9 ≠ c + 13 := fun e9 => hn9 (Or.inr e9)
        exact (jput_ne (by show (a9) ≠ (c); omega)).trans ((jput_ne (by show (a9) ≠ (c + 13); omega)).trans ((hfr _ (by show (a9) ≠ (c + 13); omega)).trans (ha9)))
      exact j_vret hC9 rfl dX9_forgetOldest_62 (⟨rfl, hPa9.turn hn8 hrow9 hk9, jput_at, hk9⟩)
    · refine j_aload_n hC dX9_forgetOldest_18 rfl (jrf_ref _) ?_
      refine j_get (v := .ref (c + 13)) hC kf_X9_26 dX9_forgetOldest_19 ((hfr _ (by show (c) ≠ (c + 13); omega)).trans (a1)) (rfl) ?_
      refine j_iload_n hC dX9_forgetOldest_22 rfl ?_
      refine j_iconst (v := nI 1) hC dX9_forgetOldest_23 (by decide) ?_
      refine n_isub hC dX9_forgetOldest_24 (by omega) ?_
      refine j_aload_n hC dX9_forgetOldest_25 rfl (jrf_ref _) ?_
      refine j_get (v := .ref (c + 13)) hC kf_X9_26 dX9_forgetOldest_26 ((hfr _ (by show (c) ≠ (c + 13); omega)).trans (a1)) (rfl) ?_
      refine j_iload_n hC dX9_forgetOldest_29 rfl ?_
      obtain ⟨w1, w2, w3, w4, w5, w6, w7, wf, wx, -⟩ := (q5 i (by omega)).1
      have hqi9 := hqi (by omega)
      refine c_aald (i := i) (v := .ref (qa (i))) hC dX9_forgetOldest_30 (hrw0) rfl (by omega) (by omega) (by rw [if_neg (by omega)]) ?_
      refine c_aast (i := i - 1) hC dX9_forgetOldest_31 (hrw0) (((hfr _ (by omega)).trans wx)) rfl (by omega) (by omega) (by omega) ?_
      refine j_iinc_2 (v := nI (i + 1)) hC dX9_forgetOldest_32 (nI_add _ _) (by decide) rfl ?_
      refine j_goto (tgt := 9) hC dX9_forgetOldest_35 (by decide) ?_
      exact (ih (jput (Mr) (c + 13) (.inl (.object RX5, 8, (updV (fun j => Value.ref (if j + 1 < i then qa (j + 1) else qa j)) (i - 1) (.ref (qa (i))))))) (i + 1) (by omega) (row_f (jput_at) (funext fun j => by
  by_cases e9 : j = i - 1
  · rw [e9, updV_at, if_pos (by omega), show i - 1 + 1 = i by omega]
  · rw [updV_ne e9]
    by_cases e8 : j + 1 < i
    · rw [if_pos e8, if_pos (by omega)]
    · rw [if_neg e8, if_neg (by omega)])) (fun b9 hb0 => (jput_ne (by show (b9) ≠ (c + 13); omega)).trans (hfr b9 hb0)) (he2) (by omega))
