/-! ===== the merger: calls that make records ===== -/
theorem zg.tr3 {M M1 : jM} {Z Z1 Z2 : jH} {k : Nat} {W : Nat → Prop} (h0 : zg M Z Z1) (h : zexN M1 Z1 Z2 k) (hlt : ∀ a o, M1.1 a = some o → a < M1.2) (hk : kept M M1 W) (hW : ∀ a, W a → a < M1.2) : zg M Z Z2 := by
  have h2 := zg.tr2 h hlt hk hW
  refine ⟨fun a o ha => h.1 a o (h0.1 a o ha), fun a o ha => ?_⟩
  rcases h2.2 a o ha with h9 | h9
  · exact h0.2 a o h9
  · exact Or.inr h9
set_option maxHeartbeats 4000000 in
set_option maxRecDepth 100000 in
theorem m_X9_addRecord {G : jG} {M : jM} {c v : Nat} {S : aSet} {P : List aSet} {V : Option aSet} {b : List Nat} {e : Option Nat} {u : Option aRun} {Z : jH} {q r : Int32} (hs : (gL G).stackTraces = false) (h : cJ G M Z c v S P V b e u)  : JMet G jX9_addRecord [.ref c, .int q, .int r] (M) 3 9 7 (COq G M Z c v (opAdd q r) (S, P, V, b, e, u)) (COx G M Z c v (opAdd q r) ["java/lang/IllegalArgumentException", "java/lang/IllegalStateException"] (S, P, V, b, e, u)) := by
  refine jMet_of [some (.ref (c)), some (.int (q)), some (.int (r))] (by decide) rfl (Nat.le_of_ble_eq_true rfl) (rfl) hs ?_
  intro C hC9 hG
  have hC := hC9.z
  have hs9 := jOK0_tr hC
  refine j_lt (fun hlt => ?_)
  have hBg : jB C = gB G := by rw [jB, hG]
  subst hG
  obtain ⟨⟨a1, za⟩, ⟨⟨cap, hbu⟩, zb1, zbv, hv, hb120, hbc⟩, ⟨hS, zs3, zs4⟩, ⟨hVX, zv8, zv9, hVs⟩, ⟨pa, hPa⟩, ⟨ho, zo, hon⟩, ⟨⟨dX, dk, dr, dl, dch, hd⟩, zd⟩, ⟨⟨od, hod⟩, zn79⟩, ⟨hz, hkr, hBc, ⟨mk, hmk⟩⟩, hP8, hE⟩ := id h
  obtain ⟨p1, zp13, p3, p4, p5, p6⟩ := id hPa
  obtain ⟨⟨mb, bu, hb1, hb2, hb3, hb4, hb5⟩, hb6, hb7⟩ := id hbu
  obtain ⟨⟨lay, home, ff, xe, u1, u2, u5, u3, u6, u7⟩, u4⟩ := id hS
  obtain ⟨ho1, ho2, ho3, ho4, ho5⟩ := id ho
  have hn20 : (sRecs S).length ≤ 20 := u4.1.1
  have hk32 : sKeys S < 32 := u4.1.2.1
  have hp3 : sPol S < 3 := u4.1.2.2.1
  have ho10 : sOut S < 1024 := u4.1.2.2.2.1
  have hl2 : sLim S ≤ 200 := u4.1.2.2.2.2.1.2
  have hl1 : 1 ≤ sLim S := u4.1.2.2.2.2.1.1
  have hmk9 := hlt _ _ hmk
  refine j_iload_n hC dX9_addRecord_0 rfl ?_
  refine c_S hC ks_X9_89 rfl dX9_addRecord_1 (m_X9_isGroup hs9) rfl rfl (by decide) (Nat.le_of_ble_eq_true rfl) ?_
  refine jb_if_eq (tgt := 14) hC dX9_addRecord_4 (by decide) (fun c1 => ?_) (fun c1 => ?_)
  · exact j_throwS hC9 (i := 3) rfl kt_X9_69 rfl dX9_addRecord_14 dX9_addRecord_17 dX9_addRecord_18 dX9_addRecord_20 dX9_addRecord_23 (by decide) (by decide) (by decide) (Nat.le_of_ble_eq_true rfl) (fun n9 => cx_of (k := 0) (x := nI 0) (T' := (S, P, V, b, e, u)) (add_1 (fun e8 => by first | exact absurd e8.1 (by assumption) | exact absurd e8.2 (by assumption))) rfl (cQ_same h rfl))
  · refine j_iload_n hC dX9_addRecord_7 rfl ?_
    refine c_S hC ks_X9_93 rfl dX9_addRecord_8 (m_X9_isCountInRange hs9) rfl rfl (by decide) (Nat.le_of_ble_eq_true rfl) ?_
    refine jb_if_ne (tgt := 24) hC dX9_addRecord_11 (by decide) (fun c2 => ?_) (fun c2 => ?_)
    · refine j_aload_n hC dX9_addRecord_24 rfl (jrf_ref _) ?_
      refine j_get (v := .ref (c + 3)) hC kf_X9_19 dX9_addRecord_25 (a1) (rfl) ?_
      refine j_get (v := .int (nI ((sRecs S).length))) hC kf_X9_59 dX9_addRecord_28 (u1) (rfl) ?_
      refine j_bipush (v := nI 20) hC dX9_addRecord_31 (by decide) ?_
      refine n_icmp_lt (tgt := 46) hC dX9_addRecord_33 (by decide) (by omega) (by omega) (fun c3 => ?_) (fun c3 => ?_)
      · have hn20s : (sRecs S).length < 20 := by omega
        obtain ⟨g9, hg9, rfl⟩ := jin_of (by assumption : jin q 10 = true) (by decide)
        obtain ⟨k9, hk9, rfl⟩ := jin_of (by assumption : jin r 100 = true) (by decide)
        refine j_aload_n hC dX9_addRecord_46 rfl (jrf_ref _) ?_
        refine c_Pv (kc := 3) (ks := 9) hC kv_X9_100 dX9_addRecord_47 (m_X9_remember hs9 h) (a1) rfl rfl rfl rfl (by decide) (Nat.le_of_ble_eq_true rfl) ?_
        intro v9 M1 h9
        obtain ⟨rfl, hJ1, hk1⟩ := h9
        refine j_lt (fun hlt1 => ?_)
        obtain ⟨⟨a1, za⟩, ⟨⟨cap, hbu⟩, zb1, zbv, hv, hb120, hbc⟩, ⟨hS, zs3, zs4⟩, ⟨hVX, zv8, zv9, hVs⟩, ⟨pa, hPa⟩, ⟨ho, zo, hon⟩, ⟨⟨dX, dk, dr, dl, dch, hd⟩, zd⟩, ⟨⟨od, hod⟩, zn79⟩, ⟨hz, hkr, hBc, ⟨mk, hmk⟩⟩, hP8, hE⟩ := id hJ1
        obtain ⟨p1, zp13, p3, p4, p5, p6⟩ := id hPa
        obtain ⟨⟨mb, bu, hb1, hb2, hb3, hb4, hb5⟩, hb6, hb7⟩ := id hbu
        obtain ⟨⟨lay, home, ff, xe, u1, u2, u5, u3, u6, u7⟩, u4⟩ := id hS
        obtain ⟨ho1, ho2, ho3, ho4, ho5⟩ := id ho
        have hn20 : (sRecs S).length ≤ 20 := u4.1.1
        have hk32 : sKeys S < 32 := u4.1.2.1
        have hp3 : sPol S < 3 := u4.1.2.2.1
        have ho10 : sOut S < 1024 := u4.1.2.2.2.1
        have hl2 : sLim S ≤ 200 := u4.1.2.2.2.2.1.2
        have hl1 : 1 ≤ sLim S := u4.1.2.2.2.2.1.1
        have hmk9 := hlt1 _ _ hmk
        have hmk1 := hmk9
        refine j_aload_n hC dX9_addRecord_50 rfl (jrf_ref _) ?_
        refine j_get (v := .ref (c + 3)) hC kf_X9_19 dX9_addRecord_51 (a1) (rfl) ?_
        refine c_new (kc := 2) (ks := 6) hC kn_X9_103 dX9_addRecord_54 rfl ?_
        refine j_dup hC dX9_addRecord_57 rfl ?_
        refine j_iload_n hC dX9_addRecord_58 rfl ?_
        refine j_iload_n hC dX9_addRecord_59 rfl ?_
        refine c_Pi (kc := 0) (ks := 0) hC ki_X9_105 dX9_addRecord_60 (m_X1_init (g := g9) (k := k9) hs9 jnew_at (by omega)) rfl rfl (by decide) (Nat.le_of_ble_eq_true rfl) ?_
        intro v9 M3 h9
        obtain ⟨rfl, x1, x2, x3, x4, x5⟩ := h9
        replace x1 : M3.1 M1.2 = some (.inr (5, [.int (nI g9), .int (nI k9), .ref (M1.2 + 1)])) := x1
        replace x2 : M3.1 (M1.2 + 1) = some (.inl (.object RX8, 5, fun _ => .ref (M1.2 + 1 + 1))) := x2
        replace x3 : M3.1 (M1.2 + 1 + 1) = some (.inr (12, [.ref (gK (jCG C) 5)])) := x3
        have hk3 : kept M1 M3 (fun _ => False) := fun a o ha _ => x4 a o ((jnew_ne (by have := hlt1 _ _ ha; omega)).trans ha) (by have := hlt1 _ _ ha; show ¬ _ = _; omega)
        have q1 := zadd_N (M := M1) (Z := Z) (H := M3.1) (k := 3) hz hlt1
        have q0 : zg M1 Z (zadd Z M3.1 M1.2 3) := ⟨(q1.ex hlt1).1, (q1.ex hlt1).2⟩
        have hz3 : sub (zadd Z M3.1 M1.2 3) M3.1 := zadd_sub (fun a o ha => hk3 a o (hz a o ha) id)
        have hJ3 := hJ1.more q0 hz3 hk3
        have hent : entR (zadd Z M3.1 M1.2 3) (M1.2) ((g9, k9, fun _ => [])) := ⟨⟨M1.2 + 1, fun _ => M1.2 + 1 + 1, (zadd_in (by omega) (by omega)).trans x1, (zadd_in (by omega) (by omega)).trans x2, fun f hf => ⟨gK (jCG C) 5, (zadd_in (a := M1.2 + 1 + 1) (by omega) (by omega)).trans x3, hkr.2.1.mono q0.1⟩⟩, ⟨hg9, hk9, fun f hf => ⟨Nat.zero_le _, fun x hx => by cases hx⟩⟩⟩
        generalize hZ2 : zadd Z M3.1 M1.2 3 = Z2 at q0 q1 hz3 hJ3 hent
        have hn20a := hn20s
        refine j_lt (fun hlt3 => ?_)
        obtain ⟨⟨a1, za⟩, ⟨⟨cap, hbu⟩, zb1, zbv, hv, hb120, hbc⟩, ⟨hS, zs3, zs4⟩, ⟨hVX, zv8, zv9, hVs⟩, ⟨pa, hPa⟩, ⟨ho, zo, hon⟩, ⟨⟨dX, dk, dr, dl, dch, hd⟩, zd⟩, ⟨⟨od, hod⟩, zn79⟩, ⟨hz, hkr, hBc, ⟨mk, hmk⟩⟩, hP8, hE⟩ := id hJ3
        obtain ⟨p1, zp13, p3, p4, p5, p6⟩ := id hPa
        obtain ⟨⟨mb, bu, hb1, hb2, hb3, hb4, hb5⟩, hb6, hb7⟩ := id hbu
        obtain ⟨⟨lay, home, ff, xe, u1, u2, u5, u3, u6, u7⟩, u4⟩ := id hS
        obtain ⟨ho1, ho2, ho3, ho4, ho5⟩ := id ho
        have hn20 : (sRecs S).length ≤ 20 := u4.1.1
        have hk32 : sKeys S < 32 := u4.1.2.1
        have hp3 : sPol S < 3 := u4.1.2.2.1
        have ho10 : sOut S < 1024 := u4.1.2.2.2.1
        have hl2 : sLim S ≤ 200 := u4.1.2.2.2.2.1.2
        have hl1 : 1 ≤ sLim S := u4.1.2.2.2.2.1.1
        have hmk9 := hlt3 _ _ hmk
        refine c_Pv (kc := 0) (ks := 0) hC kv_X9_108 dX9_addRecord_63 (m_X5_addLast (q := (g9, k9, fun _ => [])) hs9 hS hz (by omega) hent hn20s) (u1) rfl rfl rfl rfl (by decide) (Nat.le_of_ble_eq_true rfl) ?_
        intro v9 M4 h9
        obtain ⟨rfl, f1, f2⟩ := h9
        obtain ⟨⟨lay', home', ff', xe', u1', -⟩, -⟩ := id f1
        refine j_aload_n hC dX9_addRecord_66 rfl (jrf_ref _) ?_
        refine j_get (v := .ref (c + 3)) hC kf_X9_19 dX9_addRecord_67 ((f2 _ (by omega) (by omega)).trans (a1)) (rfl) ?_
        refine j_get (v := .int (nI ((sRecs (withRecs S (sRecs S ++ [(g9, k9, fun _ => [])]))).length))) hC kf_X9_59 dX9_addRecord_70 (u1') (rfl) ?_
        have hl9 : (sRecs (withRecs S (sRecs S ++ [(g9, k9, fun _ => [])]))).length = (sRecs S).length + 1 := List.length_append
        refine j_iconst (v := nI 1) hC dX9_addRecord_73 (by decide) ?_
        refine n_isub hC dX9_addRecord_74 (by omega) ?_
        have hkk : kept M3 (M4) (fun a => a = c + 3 ∨ a = c + 3 + 1) := fun a o ha hn => (f2 a (fun e9 => hn (Or.inl e9)) (fun e9 => hn (Or.inr e9))).trans ha
        have hz9 : sub Z2 (M4).1 := kept.sub hkk hz (fun a e9 => by rcases e9 with e9 | e9 <;> rw [e9] <;> assumption)
        have hJ9 := hJ3.set (Z' := Z2) (M' := M4) (S' := withRecs S (sRecs S ++ [(g9, k9, fun _ => [])])) f1 zg_refl hz9 hkk
        have hkf : kept M (M4) (fun a => a = v ∨ (c ≤ a ∧ a < c + 120)) := fun a o ha hn => hkk _ _ (hk3 _ _ (hk1 _ _ (ha) (fun (e9 : a = c ∨ a = c + 13 ∨ (c + 80 ≤ a ∧ a < c + 119)) => hn (show _ ∨ _ from by omega))) id) (fun (e9 : a = c + 3 ∨ a = c + 3 + 1) => hn (show _ ∨ _ from by omega))
        have hkz : kept M M1 (fun a => a < c + 120) := fun a o ha hn => hk1 _ _ (ha) (fun (e9 : a = c ∨ a = c + 13 ∨ (c + 80 ≤ a ∧ a < c + 119)) => hn (show _ from by omega))
        have hgf : zg M Z Z2 := zg.tr2 q1 hlt1 hkz (fun a (e9 : a < c + 120) => by omega)
        exact j_iret hC9 rfl (rfl) dX9_addRecord_75 (cr_of (T' := (withRecs S (sRecs S ++ [(g9, k9, fun _ => [])]), (keepP P S), V, b, e, u)) (by rw [show (sRecs (withRecs S (sRecs S ++ [(g9, k9, fun _ => [])]))).length - 1 = (sRecs S).length from by rw [show (sRecs (withRecs S (sRecs S ++ [(g9, k9, fun _ => [])]))).length = (sRecs S).length + 1 from List.length_append]; rfl]; exact add_0 (T := (S, P, V, b, e, u)) hg9 hk9 (show ¬ (sRecs S).length = 20 by omega)) (cQ_of hJ9 hkf hgf))
      · exact j_throwS hC9 (i := 4) rfl kt_X9_80 rfl dX9_addRecord_36 dX9_addRecord_39 dX9_addRecord_40 dX9_addRecord_42 dX9_addRecord_45 (by decide) (by decide) (by decide) (Nat.le_of_ble_eq_true rfl) (fun n9 => cx_of (k := 1) (x := nI 0) (T' := (S, P, V, b, e, u)) (add_2 (by assumption) (by assumption) (show (sRecs S).length = 20 by omega)) rfl (cQ_same h rfl))
    · exact j_throwS hC9 (i := 3) rfl kt_X9_69 rfl dX9_addRecord_14 dX9_addRecord_17 dX9_addRecord_18 dX9_addRecord_20 dX9_addRecord_23 (by decide) (by decide) (by decide) (Nat.le_of_ble_eq_true rfl) (fun n9 => cx_of (k := 0) (x := nI 0) (T' := (S, P, V, b, e, u)) (add_1 (fun e8 => by first | exact absurd e8.1 (by assumption) | exact absurd e8.2 (by assumption))) rfl (cQ_same h rfl))
set_option maxHeartbeats 4000000 in
set_option maxRecDepth 100000 in
theorem m_X9_setNumber {G : jG} {M : jM} {c v : Nat} {S : aSet} {P : List aSet} {V : Option aSet} {b : List Nat} {e : Option Nat} {u : Option aRun} {Z : jH} {q : Int32} {qb : Bool} {r : Int32} (hs : (gL G).stackTraces = false) (h : cJ G M Z c v S P V b e u)  : JMet G jX9_setNumber [.ref c, .int q, .int (jb (qb = true)), .int r] (M) 2 12 8 (COq G M Z c v (opNumber q qb r) (S, P, V, b, e, u)) (COx G M Z c v (opNumber q qb r) ["java/lang/IndexOutOfBoundsException", "java/lang/IllegalArgumentException"] (S, P, V, b, e, u)) := by
  refine jMet_of [some (.ref (c)), some (.int (q)), some (.int (jb (qb = true))), some (.int (r)), none] (by decide) rfl (Nat.le_of_ble_eq_true rfl) (rfl) hs ?_
  intro C hC9 hG
  have hC := hC9.z
  have hs9 := jOK0_tr hC
  refine j_lt (fun hlt => ?_)
  have hBg : jB C = gB G := by rw [jB, hG]
  subst hG
  obtain ⟨⟨a1, za⟩, ⟨⟨cap, hbu⟩, zb1, zbv, hv, hb120, hbc⟩, ⟨hS, zs3, zs4⟩, ⟨hVX, zv8, zv9, hVs⟩, ⟨pa, hPa⟩, ⟨ho, zo, hon⟩, ⟨⟨dX, dk, dr, dl, dch, hd⟩, zd⟩, ⟨⟨od, hod⟩, zn79⟩, ⟨hz, hkr, hBc, ⟨mk, hmk⟩⟩, hP8, hE⟩ := id h
  obtain ⟨p1, zp13, p3, p4, p5, p6⟩ := id hPa
  obtain ⟨⟨mb, bu, hb1, hb2, hb3, hb4, hb5⟩, hb6, hb7⟩ := id hbu
  obtain ⟨⟨lay, home, ff, xe, u1, u2, u5, u3, u6, u7⟩, u4⟩ := id hS
  obtain ⟨ho1, ho2, ho3, ho4, ho5⟩ := id ho
  have hn20 : (sRecs S).length ≤ 20 := u4.1.1
  have hk32 : sKeys S < 32 := u4.1.2.1
  have hp3 : sPol S < 3 := u4.1.2.2.1
  have ho10 : sOut S < 1024 := u4.1.2.2.2.1
  have hl2 : sLim S ≤ 200 := u4.1.2.2.2.2.1.2
  have hl1 : 1 ≤ sLim S := u4.1.2.2.2.2.1.1
  have hmk9 := hlt _ _ hmk
  refine j_aload_n hC dX9_setNumber_0 rfl (jrf_ref _) ?_
  refine j_iload_n hC dX9_setNumber_1 rfl ?_
  refine c_Tv (kc := 1) (ks := 6) hC9 rfl kv_X9_112 dX9_setNumber_2 (m_X9_existing (r := q) hs9 h) (a1) rfl rfl rfl rfl (by decide) (Nat.le_of_ble_eq_true rfl) (fun E9 M9 hx9 => ?_) ?_
  · obtain ⟨rfl, e9, hno⟩ := hx9
    exact cx_of (k := 0) (x := nI 0) (T' := (S, P, V, b, e, u)) (num_1 hno) rfl (cQ_same h e9)
  intro v9 M1 h9
  obtain ⟨i, rfl, hi, e9, p, rfl, ep⟩ := h9
  refine j_M e9 ?_
  clear e9
  obtain ⟨bp, op⟩ := ep.obj
  refine j_astore_4 hC dX9_setNumber_5 (jrf_ref _) (by decide) rfl ?_
  refine j_iload_n hC dX9_setNumber_7 rfl ?_
  refine jb_if_eq (tgt := 21) hC dX9_setNumber_8 (by decide) (fun c1 => ?_) (fun c1 => ?_)
  · refine j_iload_n hC dX9_setNumber_21 rfl ?_
    refine c_S hC ks_X9_89 rfl dX9_setNumber_22 (m_X9_isGroup hs9) rfl rfl (by decide) (Nat.le_of_ble_eq_true rfl) ?_
    refine jb_if_ne (tgt := 38) hC dX9_setNumber_25 (by decide) (fun c2 => ?_) (fun c2 => ?_)
    · obtain ⟨k9, hk9, rfl⟩ := jin_of (by assumption : jin r 10 = true) (by decide)
      refine j_aload_n hC dX9_setNumber_38 rfl (jrf_ref _) ?_
      refine c_Pv (kc := 1) (ks := 6) hC kv_X9_100 dX9_setNumber_39 (m_X9_remember hs9 h) (a1) rfl rfl rfl rfl (by decide) (Nat.le_of_ble_eq_true rfl) ?_
      intro v9 M1 h9
      obtain ⟨rfl, hJ1, hk1⟩ := h9
      obtain ⟨⟨b1, x1t, o1, o2, o3⟩, o4⟩ := id ep
      refine j_lt (fun hlt1 => ?_)
      obtain ⟨⟨a1, za⟩, ⟨⟨cap, hbu⟩, zb1, zbv, hv, hb120, hbc⟩, ⟨hS, zs3, zs4⟩, ⟨hVX, zv8, zv9, hVs⟩, ⟨pa, hPa⟩, ⟨ho, zo, hon⟩, ⟨⟨dX, dk, dr, dl, dch, hd⟩, zd⟩, ⟨⟨od, hod⟩, zn79⟩, ⟨hz, hkr, hBc, ⟨mk, hmk⟩⟩, hP8, hE⟩ := id hJ1
      obtain ⟨p1, zp13, p3, p4, p5, p6⟩ := id hPa
      obtain ⟨⟨mb, bu, hb1, hb2, hb3, hb4, hb5⟩, hb6, hb7⟩ := id hbu
      obtain ⟨⟨lay, home, ff, xe, u1, u2, u5, u3, u6, u7⟩, u4⟩ := id hS
      obtain ⟨ho1, ho2, ho3, ho4, ho5⟩ := id ho
      have hn20 : (sRecs S).length ≤ 20 := u4.1.1
      have hk32 : sKeys S < 32 := u4.1.2.1
      have hp3 : sPol S < 3 := u4.1.2.2.1
      have ho10 : sOut S < 1024 := u4.1.2.2.2.1
      have hl2 : sLim S ≤ 200 := u4.1.2.2.2.2.1.2
      have hl1 : 1 ≤ sLim S := u4.1.2.2.2.2.1.1
      have hmk9 := hlt1 _ _ hmk
      refine j_aload_n hC dX9_setNumber_42 rfl (jrf_ref _) ?_
      refine j_get (v := .ref (c + 3)) hC kf_X9_19 dX9_setNumber_43 (a1) (rfl) ?_
      refine j_iload_n hC dX9_setNumber_46 rfl ?_
      refine j_iload_n hC dX9_setNumber_47 rfl ?_
      refine jb_if_eq (tgt := 60) hC dX9_setNumber_48 (by decide) (fun c3 => ?_) (fun c3 => ?_)
      · refine j_aload hC dX9_setNumber_60 rfl (jrf_ref _) ?_
        refine j_iload_n hC dX9_setNumber_62 rfl ?_
        refine c_Pv (kc := 0) (ks := 3) hC kv_X9_160 dX9_setNumber_63 (m_X1_withGroup (g := k9) hs9 (hz _ _ o1) (by omega)) (hz _ _ o1) rfl rfl rfl rfl (by decide) (Nat.le_of_ble_eq_true rfl) ?_
        intro v9 M3 h9
        obtain ⟨rfl, x1, x4, x5⟩ := h9
        have hk3 : kept M1 M3 (fun _ => False) := fun a o ha _ => x4 a o ha
        have q1 := zadd_N (M := M1) (Z := Z) (H := M3.1) (k := 1) hz hlt1
        have q0 : zg M1 Z (zadd Z M3.1 M1.2 1) := ⟨(q1.ex hlt1).1, (q1.ex hlt1).2⟩
        have hz3 : sub (zadd Z M3.1 M1.2 1) M3.1 := zadd_sub (fun a o ha => hk3 a o (hz a o ha) id)
        have hJ3 := hJ1.more q0 hz3 hk3
        have hent : entR (zadd Z M3.1 M1.2 1) (M1.2) ((k9, (sAt S i).2)) := ⟨⟨b1, x1t, (zadd_in (by omega) (by omega)).trans x1, q0.1 _ _ o2, fun f hf => (o3 f hf).mono q0.1⟩, ⟨hk9, o4.2⟩⟩
        generalize hZ2 : zadd Z M3.1 M1.2 1 = Z2 at q0 q1 hz3 hJ3 hent
        refine j_lt (fun hlt3 => ?_)
        obtain ⟨⟨a1, za⟩, ⟨⟨cap, hbu⟩, zb1, zbv, hv, hb120, hbc⟩, ⟨hS, zs3, zs4⟩, ⟨hVX, zv8, zv9, hVs⟩, ⟨pa, hPa⟩, ⟨ho, zo, hon⟩, ⟨⟨dX, dk, dr, dl, dch, hd⟩, zd⟩, ⟨⟨od, hod⟩, zn79⟩, ⟨hz, hkr, hBc, ⟨mk, hmk⟩⟩, hP8, hE⟩ := id hJ3
        obtain ⟨p1, zp13, p3, p4, p5, p6⟩ := id hPa
        obtain ⟨⟨mb, bu, hb1, hb2, hb3, hb4, hb5⟩, hb6, hb7⟩ := id hbu
        obtain ⟨⟨lay, home, ff, xe, u1, u2, u5, u3, u6, u7⟩, u4⟩ := id hS
        obtain ⟨ho1, ho2, ho3, ho4, ho5⟩ := id ho
        have hn20 : (sRecs S).length ≤ 20 := u4.1.1
        have hk32 : sKeys S < 32 := u4.1.2.1
        have hp3 : sPol S < 3 := u4.1.2.2.1
        have ho10 : sOut S < 1024 := u4.1.2.2.2.1
        have hl2 : sLim S ≤ 200 := u4.1.2.2.2.2.1.2
        have hl1 : 1 ≤ sLim S := u4.1.2.2.2.2.1.1
        have hmk9 := hlt3 _ _ hmk
        have hpc3 : p ≠ c + 3 := fun e9 => by have h8 := q0.1 _ _ op; rw [e9, zs3] at h8; cases h8
        have hpc4 : p ≠ c + 3 + 1 := fun e9 => by have h8 := q0.1 _ _ op; rw [e9, zs4] at h8; cases h8
        refine c_Pv (kc := 0) (ks := 3) hC kv_X9_144 dX9_setNumber_66 (m_X5_replace (i := i) (q := (k9, (sAt S i).2)) hs9 hS hz (by omega) hent hi) (u1) rfl rfl rfl rfl (by decide) (Nat.le_of_ble_eq_true rfl) ?_
        intro v9 M4 h9
        obtain ⟨rfl, f1, f2⟩ := h9
        refine j_iload_n hC dX9_setNumber_69 rfl ?_
        refine jb_if_eq (tgt := 81) hC dX9_setNumber_70 (by decide) (fun c4 => ?_) (fun c4 => ?_)
        · refine j_aload hC dX9_setNumber_81 rfl (jrf_ref _) ?_
          refine j_get (v := .int (nI ((sAt S i).1))) hC kf_X9_166 dX9_setNumber_83 ((f2 _ (by omega) (by omega)).trans ((hz _ _ (q0.1 _ _ op)))) (rfl) ?_
          have hkk : kept M3 (M4) (fun a => a = c + 3 ∨ a = c + 3 + 1) := fun a o ha hn => (f2 a (fun e9 => hn (Or.inl e9)) (fun e9 => hn (Or.inr e9))).trans ha
          have hz9 : sub Z2 (M4).1 := kept.sub hkk hz (fun a e9 => by rcases e9 with e9 | e9 <;> rw [e9] <;> assumption)
          have hJ9 := hJ3.set (Z' := Z2) (M' := M4) (S' := setRec S i (k9, (sAt S i).2)) f1 zg_refl hz9 hkk
          have hkf : kept M (M4) (fun a => a = v ∨ (c ≤ a ∧ a < c + 120)) := fun a o ha hn => hkk _ _ (hk3 _ _ (hk1 _ _ (ha) (fun (e9 : a = c ∨ a = c + 13 ∨ (c + 80 ≤ a ∧ a < c + 119)) => hn (show _ ∨ _ from by omega))) id) (fun (e9 : a = c + 3 ∨ a = c + 3 + 1) => hn (show _ ∨ _ from by omega))
          have hkz : kept M M1 (fun a => a < c + 120) := fun a o ha hn => hk1 _ _ (ha) (fun (e9 : a = c ∨ a = c + 13 ∨ (c + 80 ≤ a ∧ a < c + 119)) => hn (show _ from by omega))
          have hgf : zg M Z Z2 := zg.tr2 q1 hlt1 hkz (fun a (e9 : a < c + 120) => by omega)
          exact j_iret hC9 rfl (rfl) dX9_setNumber_86 (cr_of (T' := (setRec S i (k9, (sAt S i).2), (keepP P S), V, b, e, u)) ((num_0 (T := (S, P, V, b, e, u)) (c := qb) (k := k9) hi hn20 (by rw [if_neg (by assumption)]; exact hk9)).trans (by rw [if_neg (by assumption), if_neg (by assumption)]; rfl)) (cQ_of hJ9 hkf hgf))
        · contradiction
      · contradiction
    · exact j_throwS hC9 (i := 15) rfl kt_X9_69 rfl dX9_setNumber_28 dX9_setNumber_31 dX9_setNumber_32 dX9_setNumber_34 dX9_setNumber_37 (by decide) (by decide) (by decide) (Nat.le_of_ble_eq_true rfl) (fun n9 => cx_of (k := 1) (x := nI 0) (T' := (S, P, V, b, e, u)) (num_2 (T := (S, P, V, b, e, u)) (by rw [jin_nI (by omega)]; exact decide_eq_true hi) (by rw [if_neg (by assumption)]; assumption)) rfl (cQ_same h rfl))
  · refine j_iload_n hC dX9_setNumber_11 rfl ?_
    refine c_S hC ks_X9_93 rfl dX9_setNumber_12 (m_X9_isCountInRange hs9) rfl rfl (by decide) (Nat.le_of_ble_eq_true rfl) ?_
    refine jb_if_ne (tgt := 38) hC dX9_setNumber_15 (by decide) (fun c5 => ?_) (fun c5 => ?_)
    · obtain ⟨k9, hk9, rfl⟩ := jin_of (by assumption : jin r 100 = true) (by decide)
      refine j_aload_n hC dX9_setNumber_38 rfl (jrf_ref _) ?_
      refine c_Pv (kc := 1) (ks := 6) hC kv_X9_100 dX9_setNumber_39 (m_X9_remember hs9 h) (a1) rfl rfl rfl rfl (by decide) (Nat.le_of_ble_eq_true rfl) ?_
      intro v9 M1 h9
      obtain ⟨rfl, hJ1, hk1⟩ := h9
      obtain ⟨⟨b1, x1t, o1, o2, o3⟩, o4⟩ := id ep
      refine j_lt (fun hlt1 => ?_)
      obtain ⟨⟨a1, za⟩, ⟨⟨cap, hbu⟩, zb1, zbv, hv, hb120, hbc⟩, ⟨hS, zs3, zs4⟩, ⟨hVX, zv8, zv9, hVs⟩, ⟨pa, hPa⟩, ⟨ho, zo, hon⟩, ⟨⟨dX, dk, dr, dl, dch, hd⟩, zd⟩, ⟨⟨od, hod⟩, zn79⟩, ⟨hz, hkr, hBc, ⟨mk, hmk⟩⟩, hP8, hE⟩ := id hJ1
      obtain ⟨p1, zp13, p3, p4, p5, p6⟩ := id hPa
      obtain ⟨⟨mb, bu, hb1, hb2, hb3, hb4, hb5⟩, hb6, hb7⟩ := id hbu
      obtain ⟨⟨lay, home, ff, xe, u1, u2, u5, u3, u6, u7⟩, u4⟩ := id hS
      obtain ⟨ho1, ho2, ho3, ho4, ho5⟩ := id ho
      have hn20 : (sRecs S).length ≤ 20 := u4.1.1
      have hk32 : sKeys S < 32 := u4.1.2.1
      have hp3 : sPol S < 3 := u4.1.2.2.1
      have ho10 : sOut S < 1024 := u4.1.2.2.2.1
      have hl2 : sLim S ≤ 200 := u4.1.2.2.2.2.1.2
      have hl1 : 1 ≤ sLim S := u4.1.2.2.2.2.1.1
      have hmk9 := hlt1 _ _ hmk
      refine j_aload_n hC dX9_setNumber_42 rfl (jrf_ref _) ?_
      refine j_get (v := .ref (c + 3)) hC kf_X9_19 dX9_setNumber_43 (a1) (rfl) ?_
      refine j_iload_n hC dX9_setNumber_46 rfl ?_
      refine j_iload_n hC dX9_setNumber_47 rfl ?_
      refine jb_if_eq (tgt := 60) hC dX9_setNumber_48 (by decide) (fun c6 => ?_) (fun c6 => ?_)
      · contradiction
      · refine j_aload hC dX9_setNumber_51 rfl (jrf_ref _) ?_
        refine j_iload_n hC dX9_setNumber_53 rfl ?_
        refine c_Pv (kc := 0) (ks := 3) hC kv_X9_157 dX9_setNumber_54 (m_X1_withCount (k := k9) hs9 (hz _ _ o1) (by omega)) (hz _ _ o1) rfl rfl rfl rfl (by decide) (Nat.le_of_ble_eq_true rfl) ?_
        intro v9 M3 h9
        obtain ⟨rfl, x1, x4, x5⟩ := h9
        refine j_goto (tgt := 66) hC dX9_setNumber_57 (by decide) ?_
        have hk3 : kept M1 M3 (fun _ => False) := fun a o ha _ => x4 a o ha
        have q1 := zadd_N (M := M1) (Z := Z) (H := M3.1) (k := 1) hz hlt1
        have q0 : zg M1 Z (zadd Z M3.1 M1.2 1) := ⟨(q1.ex hlt1).1, (q1.ex hlt1).2⟩
        have hz3 : sub (zadd Z M3.1 M1.2 1) M3.1 := zadd_sub (fun a o ha => hk3 a o (hz a o ha) id)
        have hJ3 := hJ1.more q0 hz3 hk3
        have hent : entR (zadd Z M3.1 M1.2 1) (M1.2) (((sAt S i).1, k9, (sAt S i).2.2)) := ⟨⟨b1, x1t, (zadd_in (by omega) (by omega)).trans x1, q0.1 _ _ o2, fun f hf => (o3 f hf).mono q0.1⟩, ⟨o4.1, hk9, o4.2.2⟩⟩
        generalize hZ2 : zadd Z M3.1 M1.2 1 = Z2 at q0 q1 hz3 hJ3 hent
        refine j_lt (fun hlt3 => ?_)
        obtain ⟨⟨a1, za⟩, ⟨⟨cap, hbu⟩, zb1, zbv, hv, hb120, hbc⟩, ⟨hS, zs3, zs4⟩, ⟨hVX, zv8, zv9, hVs⟩, ⟨pa, hPa⟩, ⟨ho, zo, hon⟩, ⟨⟨dX, dk, dr, dl, dch, hd⟩, zd⟩, ⟨⟨od, hod⟩, zn79⟩, ⟨hz, hkr, hBc, ⟨mk, hmk⟩⟩, hP8, hE⟩ := id hJ3
        obtain ⟨p1, zp13, p3, p4, p5, p6⟩ := id hPa
        obtain ⟨⟨mb, bu, hb1, hb2, hb3, hb4, hb5⟩, hb6, hb7⟩ := id hbu
        obtain ⟨⟨lay, home, ff, xe, u1, u2, u5, u3, u6, u7⟩, u4⟩ := id hS
        obtain ⟨ho1, ho2, ho3, ho4, ho5⟩ := id ho
        have hn20 : (sRecs S).length ≤ 20 := u4.1.1
        have hk32 : sKeys S < 32 := u4.1.2.1
        have hp3 : sPol S < 3 := u4.1.2.2.1
        have ho10 : sOut S < 1024 := u4.1.2.2.2.1
        have hl2 : sLim S ≤ 200 := u4.1.2.2.2.2.1.2
        have hl1 : 1 ≤ sLim S := u4.1.2.2.2.2.1.1
        have hmk9 := hlt3 _ _ hmk
        have hpc3 : p ≠ c + 3 := fun e9 => by have h8 := q0.1 _ _ op; rw [e9, zs3] at h8; cases h8
        have hpc4 : p ≠ c + 3 + 1 := fun e9 => by have h8 := q0.1 _ _ op; rw [e9, zs4] at h8; cases h8
        refine c_Pv (kc := 0) (ks := 3) hC kv_X9_144 dX9_setNumber_66 (m_X5_replace (i := i) (q := ((sAt S i).1, k9, (sAt S i).2.2)) hs9 hS hz (by omega) hent hi) (u1) rfl rfl rfl rfl (by decide) (Nat.le_of_ble_eq_true rfl) ?_
        intro v9 M4 h9
        obtain ⟨rfl, f1, f2⟩ := h9
        refine j_iload_n hC dX9_setNumber_69 rfl ?_
        refine jb_if_eq (tgt := 81) hC dX9_setNumber_70 (by decide) (fun c7 => ?_) (fun c7 => ?_)
        · contradiction
        · refine j_aload hC dX9_setNumber_73 rfl (jrf_ref _) ?_
          refine j_get (v := .int (nI ((sAt S i).2.1))) hC kf_X9_163 dX9_setNumber_75 ((f2 _ (by omega) (by omega)).trans ((hz _ _ (q0.1 _ _ op)))) (rfl) ?_
          refine j_goto (tgt := 86) hC dX9_setNumber_78 (by decide) ?_
          have hkk : kept M3 (M4) (fun a => a = c + 3 ∨ a = c + 3 + 1) := fun a o ha hn => (f2 a (fun e9 => hn (Or.inl e9)) (fun e9 => hn (Or.inr e9))).trans ha
          have hz9 : sub Z2 (M4).1 := kept.sub hkk hz (fun a e9 => by rcases e9 with e9 | e9 <;> rw [e9] <;> assumption)
          have hJ9 := hJ3.set (Z' := Z2) (M' := M4) (S' := setRec S i ((sAt S i).1, k9, (sAt S i).2.2)) f1 zg_refl hz9 hkk
          have hkf : kept M (M4) (fun a => a = v ∨ (c ≤ a ∧ a < c + 120)) := fun a o ha hn => hkk _ _ (hk3 _ _ (hk1 _ _ (ha) (fun (e9 : a = c ∨ a = c + 13 ∨ (c + 80 ≤ a ∧ a < c + 119)) => hn (show _ ∨ _ from by omega))) id) (fun (e9 : a = c + 3 ∨ a = c + 3 + 1) => hn (show _ ∨ _ from by omega))
          have hkz : kept M M1 (fun a => a < c + 120) := fun a o ha hn => hk1 _ _ (ha) (fun (e9 : a = c ∨ a = c + 13 ∨ (c + 80 ≤ a ∧ a < c + 119)) => hn (show _ from by omega))
          have hgf : zg M Z Z2 := zg.tr2 q1 hlt1 hkz (fun a (e9 : a < c + 120) => by omega)
          exact j_iret hC9 rfl (rfl) dX9_setNumber_86 (cr_of (T' := (setRec S i ((sAt S i).1, k9, (sAt S i).2.2), (keepP P S), V, b, e, u)) ((num_0 (T := (S, P, V, b, e, u)) (c := qb) (k := k9) hi hn20 (by rw [if_pos (by assumption)]; exact hk9)).trans (by rw [if_pos (by assumption), if_pos (by assumption)]; rfl)) (cQ_of hJ9 hkf hgf))
    · refine j_goto (tgt := 28) hC dX9_setNumber_18 (by decide) ?_
      exact j_throwS hC9 (i := 15) rfl kt_X9_69 rfl dX9_setNumber_28 dX9_setNumber_31 dX9_setNumber_32 dX9_setNumber_34 dX9_setNumber_37 (by decide) (by decide) (by decide) (Nat.le_of_ble_eq_true rfl) (fun n9 => cx_of (k := 1) (x := nI 0) (T' := (S, P, V, b, e, u)) (num_2 (T := (S, P, V, b, e, u)) (by rw [jin_nI (by omega)]; exact decide_eq_true hi) (by rw [if_pos (by assumption)]; assumption)) rfl (cQ_same h rfl))
