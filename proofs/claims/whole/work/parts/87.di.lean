/-! ===== the merger: calls that change the records ===== -/
section CK
variable {G : jG} {M M' M1 : jM} {Z Z' Z2 : jH} {c v k : Nat} {S S' : aSet} {P P' : List aSet} {V : Option aSet} {t : List Nat} {e : Option Nat} {u : Option aRun} {W : Nat → Prop}
theorem zg.tr2 (h : zexN M1 Z Z2 k) (hlt : ∀ a o, M1.1 a = some o → a < M1.2) (hk : kept M M1 W) (hW : ∀ a, W a → a < M1.2) : zg M Z Z2 := by
  refine ⟨h.1, fun a o ha => (h.2 a o ha).imp id (fun h9 => ?_)⟩
  cases e : M.1 a with
  | none => rfl
  | some x =>
    by_cases hw : W a
    · have := hW a hw; omega
    · have := hlt _ _ (hk a x e hw); omega
theorem cJ.sort (h : cJ G M Z c v S P V t e u) (hS : suR M'.1 Z (c + 3) S') (hN : cN M' Z c) (hk : kept M M' (fun a => a = c + 3 ∨ a = c + 3 + 1 ∨ a = c + 79)) (hz : sub Z M'.1) : cJ G M' Z c v S' P V t e u := by
  obtain ⟨hA, hB, hSS, hV, ⟨pa, hP⟩, hO, hD, -, hZ, h8, hE⟩ := h
  have hv := hB.2.2.2.1
  have hg : zg M Z Z := zg_refl
  exact ⟨hA.up hg hk (by omega), hB.up hg hk (by omega) (by omega), ⟨hS, hSS.1.zn hg hSS.2.1 hSS.2.2⟩, hV.up hg hk (by omega) (by omega), ⟨pa, hP.up h8 hg hk (by omega) (fun a _ _ => by omega)⟩, hO.up hg hk (fun a _ _ => by omega), hD.up hg hk (fun a _ _ => by omega), hN, hZ.up hg hz hk (by omega), h8, hE⟩
/-- fewer changes that can be undone -/
theorem cJ.fewer (h : cJ G M Z c v S P V t e u) (h1 : M'.1 c = some (.inr (13, cF c P'.length (optZ e) V.isSome))) (hP : ∀ (k : Nat) (S : aSet), P'[k]? = some S → P[k]? = some S) (h8 : P'.length ≤ 8) (hk : kept M M' (fun a => a = c)) : cJ G M' Z c v S P' V t e u := by
  obtain ⟨pa, hPa⟩ := h.2.2.2.2.1
  have hl := h.2.2.2.2.2.2.2.2.2.1
  exact h.past h1 ((hPa.up hl zg_refl hk (by omega) (fun a _ _ => by omega)).less hP) h8 hk (fun a e9 => Or.inl e9) (kept.sub hk h.2.2.2.2.2.2.2.2.1.1 (fun a e9 => by rw [show a = c from e9]; exact h.1.2))
theorem abs_z {i j : Nat} (hi : i < 1000) (hj : j < 1000) : (if 0 ≤ zI (((i : Nat) : Int) - ((j : Nat) : Int)) then zI (((i : Nat) : Int) - ((j : Nat) : Int)) else 0 - zI (((i : Nat) : Int) - ((j : Nat) : Int))) = nI (if i < j then j - i else i - j) := by
  have hb : zB (((i : Nat) : Int) - ((j : Nat) : Int)) := by unfold zB; omega
  have h0 : (0 ≤ zI (((i : Nat) : Int) - ((j : Nat) : Int))) ↔ (0 : Int) ≤ ((i : Nat) : Int) - ((j : Nat) : Int) := by
    rw [Int32.le_iff_toInt_le, zI_toInt hb]
    rfl
  by_cases h : i < j
  · rw [if_neg (fun e => by have := h0.mp e; omega), if_pos h]
    rw [show (((i : Nat) : Int) - ((j : Nat) : Int)) = -((j - i : Nat) : Int) by omega]
    show 0 - Int32.ofInt (-((j - i : Nat) : Int)) = nI (j - i)
    rw [Int32.ofInt_neg, Int32.sub_eq_add_neg, Int32.neg_neg, Int32.zero_add]
    rfl
  · rw [if_pos (h0.mpr (by omega)), if_neg h]
    rw [show (((i : Nat) : Int) - ((j : Nat) : Int)) = ((i - j : Nat) : Int) by omega]
    rfl
end CK
set_option maxHeartbeats 4000000 in
set_option maxRecDepth 100000 in
theorem m_X9_removeRecord {G : jG} {M : jM} {c v : Nat} {S : aSet} {P : List aSet} {V : Option aSet} {b : List Nat} {e : Option Nat} {u : Option aRun} {Z : jH} {q : Int32} (hs : (gL G).stackTraces = false) (h : cJ G M Z c v S P V b e u)  : JMet G jX9_removeRecord [.ref c, .int q] (M) 1 6 8 (COq G M Z c v (opRemove q) (S, P, V, b, e, u)) (COx G M Z c v (opRemove q) ["java/lang/IndexOutOfBoundsException"] (S, P, V, b, e, u)) := by
  refine jMet_of [some (.ref (c)), some (.int (q))] (by decide) rfl (Nat.le_of_ble_eq_true rfl) (rfl) hs ?_
  intro C hC9 hG
  have hC := hC9.z
  have hs9 := jOK0_tr hC
  refine j_lt (fun hlt => ?_)
  have hBg : jB C = gB G := by rw [jB, hG]
  subst hG
  obtain ⟨⟨a1, za⟩, ⟨⟨cap, hbu⟩, zb1, zbv, hv, hb120, hbc⟩, ⟨hS, zs3, zs4⟩, ⟨hVX, zv8, zv9, hVs⟩, ⟨pa, hPa⟩, ⟨ho, zo, hon⟩, ⟨⟨dX, dk, dr, dl, dch, hd⟩, zd⟩, ⟨⟨od, hod⟩, zn79⟩, ⟨hz, hkr, hBc, ⟨mk, hmk⟩⟩, hP8, hE⟩ := id h
  obtain ⟨p1, zp13, p3, p4, p5, p6⟩ := id hPa
  obtain ⟨⟨mb, bu, hb1, hb2, hb3, hb4, hb5⟩, hb6, hb7⟩ := id hbu
  obtain ⟨⟨lay, home, ff, xe, u1, u2, u5, u3, u6, u7⟩, u4⟩ := id hS
  obtain ⟨ho1, ho2, ho3, ho4, ho5⟩ := id ho
  have hn20 : (sRecs S).length ≤ 20 := u4.1.1
  have hk32 : sKeys S < 32 := u4.1.2.1
  have hp3 : sPol S < 3 := u4.1.2.2.1
  have ho10 : sOut S < 1024 := u4.1.2.2.2.1
  have hl2 : sLim S ≤ 200 := u4.1.2.2.2.2.1.2
  have hl1 : 1 ≤ sLim S := u4.1.2.2.2.2.1.1
  have hmk9 := hlt _ _ hmk
  refine j_aload_n hC dX9_removeRecord_0 rfl (jrf_ref _) ?_
  refine j_iload_n hC dX9_removeRecord_1 rfl ?_
  refine c_Tv (kc := 0) (ks := 0) hC9 rfl kv_X9_112 dX9_removeRecord_2 (m_X9_existing (r := q) hs9 h) (a1) rfl rfl rfl rfl (by decide) (Nat.le_of_ble_eq_true rfl) (fun E9 M9 hx9 => ?_) ?_
  · obtain ⟨rfl, e9, hno⟩ := hx9
    exact cx_of (k := 0) (x := nI 0) (T' := (S, P, V, b, e, u)) (rem_1 hno) rfl (cQ_same h e9)
  intro v9 M1 h9
  obtain ⟨i, rfl, hi, e9, p2, rfl, ep2⟩ := h9
  refine j_M e9 ?_
  clear e9
  obtain ⟨bp2, op2⟩ := ep2.obj
  have hi9 := hi
  refine j_pop hC dX9_removeRecord_5 rfl ?_
  refine j_aload_n hC dX9_removeRecord_6 rfl (jrf_ref _) ?_
  refine c_Pv (kc := 0) (ks := 0) hC kv_X9_100 dX9_removeRecord_7 (m_X9_remember hs9 h) (a1) rfl rfl rfl rfl (by decide) (Nat.le_of_ble_eq_true rfl) ?_
  intro v9 M1 h9
  obtain ⟨rfl, hJ1, hk1⟩ := h9
  refine j_lt (fun hlt1 => ?_)
  obtain ⟨⟨a1, za⟩, ⟨⟨cap, hbu⟩, zb1, zbv, hv, hb120, hbc⟩, ⟨hS, zs3, zs4⟩, ⟨hVX, zv8, zv9, hVs⟩, ⟨pa, hPa⟩, ⟨ho, zo, hon⟩, ⟨⟨dX, dk, dr, dl, dch, hd⟩, zd⟩, ⟨⟨od, hod⟩, zn79⟩, ⟨hz, hkr, hBc, ⟨mk, hmk⟩⟩, hP8, hE⟩ := id hJ1
  obtain ⟨p1, zp13, p3, p4, p5, p6⟩ := id hPa
  obtain ⟨⟨mb, bu, hb1, hb2, hb3, hb4, hb5⟩, hb6, hb7⟩ := id hbu
  obtain ⟨⟨lay, home, ff, xe, u1, u2, u5, u3, u6, u7⟩, u4⟩ := id hS
  obtain ⟨ho1, ho2, ho3, ho4, ho5⟩ := id ho
  have hn20 : (sRecs S).length ≤ 20 := u4.1.1
  have hk32 : sKeys S < 32 := u4.1.2.1
  have hp3 : sPol S < 3 := u4.1.2.2.1
  have ho10 : sOut S < 1024 := u4.1.2.2.2.1
  have hl2 : sLim S ≤ 200 := u4.1.2.2.2.2.1.2
  have hl1 : 1 ≤ sLim S := u4.1.2.2.2.2.1.1
  have hmk9 := hlt1 _ _ hmk
  refine j_aload_n hC dX9_removeRecord_10 rfl (jrf_ref _) ?_
  refine j_get (v := .ref (c + 3)) hC kf_X9_19 dX9_removeRecord_11 (a1) (rfl) ?_
  refine j_iload_n hC dX9_removeRecord_14 rfl ?_
  refine c_Pv (kc := 0) (ks := 0) hC kv_X9_116 dX9_removeRecord_15 (m_X5_removeAt (r := i) hs9 hS hz zs3 zs4 (by omega) hi9) (u1) rfl rfl rfl rfl (by decide) (Nat.le_of_ble_eq_true rfl) ?_
  intro v9 M2 h9
  obtain ⟨rfl, f1, f2⟩ := h9
  obtain ⟨⟨lay', home', ff', xe', u1', -⟩, -⟩ := id f1
  refine j_aload_n hC dX9_removeRecord_18 rfl (jrf_ref _) ?_
  refine j_get (v := .ref (c + 3)) hC kf_X9_19 dX9_removeRecord_19 ((f2 _ (by omega) (by omega)).trans (a1)) (rfl) ?_
  refine j_get (v := .int (nI ((sRecs (withRecs S ((sRecs S).eraseIdx i))).length))) hC kf_X9_59 dX9_removeRecord_22 (u1') (rfl) ?_
  have hS9 : suR (M2).1 Z (c + 3) (withRecs S ((sRecs S).eraseIdx i)) := f1
  have hk9 : kept M1 (M2) (fun a => a = c + 3 ∨ a = c + 3 + 1) := fun a o ha hn => (f2 a (fun e9 => hn (Or.inl e9)) (fun e9 => hn (Or.inr e9))).trans ha
  have hz9 : sub Z (M2).1 := kept.sub hk9 hz (fun a e9 => by rcases e9 with e9 | e9 <;> rw [e9] <;> assumption)
  have hJ9 := hJ1.set (Z' := Z) (M' := M2) (S' := withRecs S ((sRecs S).eraseIdx i)) hS9 zg_refl hz9 hk9
  have hkf : kept M (M2) (fun a => a = v ∨ (c ≤ a ∧ a < c + 120)) := fun a o ha hn => hk9 _ _ (hk1 _ _ ha (fun (e9 : a = c ∨ a = c + 13 ∨ (c + 80 ≤ a ∧ a < c + 119)) => hn (show _ ∨ _ from by omega))) (fun (e9 : a = c + 3 ∨ a = c + 3 + 1) => hn (show _ ∨ _ from by omega))
  exact j_iret hC9 rfl (rfl) dX9_removeRecord_25 (cr_of (T' := (withRecs S ((sRecs S).eraseIdx i), (keepP P S), V, b, e, u)) (by rw [show (sRecs (withRecs S ((sRecs S).eraseIdx i))).length = (sRecs S).length - 1 from List.length_eraseIdx_of_lt hi9]; exact rem_0 (T := (S, P, V, b, e, u)) hi9 hn20) (cQ_of hJ9 hkf zg_refl))
set_option maxHeartbeats 4000000 in
set_option maxRecDepth 100000 in
theorem m_X9_moveRecord {G : jG} {M : jM} {c v : Nat} {S : aSet} {P : List aSet} {V : Option aSet} {b : List Nat} {e : Option Nat} {u : Option aRun} {Z : jH} {q r : Int32} (hs : (gL G).stackTraces = false) (h : cJ G M Z c v S P V b e u)  : JMet G jX9_moveRecord [.ref c, .int q, .int r] (M) 2 12 8 (COq G M Z c v (opMove q r) (S, P, V, b, e, u)) (COx G M Z c v (opMove q r) ["java/lang/IndexOutOfBoundsException"] (S, P, V, b, e, u)) := by
  refine jMet_of [some (.ref (c)), some (.int (q)), some (.int (r))] (by decide) rfl (Nat.le_of_ble_eq_true rfl) (rfl) hs ?_
  intro C hC9 hG
  have hC := hC9.z
  have hs9 := jOK0_tr hC
  refine j_lt (fun hlt => ?_)
  have hBg : jB C = gB G := by rw [jB, hG]
  subst hG
  obtain ⟨⟨a1, za⟩, ⟨⟨cap, hbu⟩, zb1, zbv, hv, hb120, hbc⟩, ⟨hS, zs3, zs4⟩, ⟨hVX, zv8, zv9, hVs⟩, ⟨pa, hPa⟩, ⟨ho, zo, hon⟩, ⟨⟨dX, dk, dr, dl, dch, hd⟩, zd⟩, ⟨⟨od, hod⟩, zn79⟩, ⟨hz, hkr, hBc, ⟨mk, hmk⟩⟩, hP8, hE⟩ := id h
  obtain ⟨p1, zp13, p3, p4, p5, p6⟩ := id hPa
  obtain ⟨⟨mb, bu, hb1, hb2, hb3, hb4, hb5⟩, hb6, hb7⟩ := id hbu
  obtain ⟨⟨lay, home, ff, xe, u1, u2, u5, u3, u6, u7⟩, u4⟩ := id hS
  obtain ⟨ho1, ho2, ho3, ho4, ho5⟩ := id ho
  have hn20 : (sRecs S).length ≤ 20 := u4.1.1
  have hk32 : sKeys S < 32 := u4.1.2.1
  have hp3 : sPol S < 3 := u4.1.2.2.1
  have ho10 : sOut S < 1024 := u4.1.2.2.2.1
  have hl2 : sLim S ≤ 200 := u4.1.2.2.2.2.1.2
  have hl1 : 1 ≤ sLim S := u4.1.2.2.2.2.1.1
  have hmk9 := hlt _ _ hmk
  refine j_aload_n hC dX9_moveRecord_0 rfl (jrf_ref _) ?_
  refine j_iload_n hC dX9_moveRecord_1 rfl ?_
  refine c_Tv (kc := 1) (ks := 6) hC9 rfl kv_X9_112 dX9_moveRecord_2 (m_X9_existing (r := q) hs9 h) (a1) rfl rfl rfl rfl (by decide) (Nat.le_of_ble_eq_true rfl) (fun E9 M9 hx9 => ?_) ?_
  · obtain ⟨rfl, e9, hno⟩ := hx9
    exact cx_of (k := 0) (x := nI 0) (T' := (S, P, V, b, e, u)) (mov_1 (fun e8 => hno e8.1)) rfl (cQ_same h e9)
  intro v9 M1 h9
  obtain ⟨i, rfl, hi, e9, p2, rfl, ep2⟩ := h9
  refine j_M e9 ?_
  clear e9
  obtain ⟨bp2, op2⟩ := ep2.obj
  have hi9 := hi
  refine j_pop hC dX9_moveRecord_5 rfl ?_
  refine j_aload_n hC dX9_moveRecord_6 rfl (jrf_ref _) ?_
  refine j_iload_n hC dX9_moveRecord_7 rfl ?_
  refine c_Tv (kc := 0) (ks := 0) hC9 rfl kv_X9_112 dX9_moveRecord_8 (m_X9_existing (r := r) hs9 h) (a1) rfl rfl rfl rfl (by decide) (Nat.le_of_ble_eq_true rfl) (fun E9 M9 hx9 => ?_) ?_
  · obtain ⟨rfl, e9, hno⟩ := hx9
    exact cx_of (k := 0) (x := nI 0) (T' := (S, P, V, b, e, u)) (mov_1 (fun e8 => hno e8.2)) rfl (cQ_same h e9)
  intro v9 M1 h9
  obtain ⟨j, rfl, hj, e9, p8, rfl, ep8⟩ := h9
  refine j_M e9 ?_
  clear e9
  obtain ⟨bp8, op8⟩ := ep8.obj
  have hj9 := hj
  refine j_pop hC dX9_moveRecord_11 rfl ?_
  refine j_aload_n hC dX9_moveRecord_12 rfl (jrf_ref _) ?_
  refine c_Pv (kc := 0) (ks := 0) hC kv_X9_100 dX9_moveRecord_13 (m_X9_remember hs9 h) (a1) rfl rfl rfl rfl (by decide) (Nat.le_of_ble_eq_true rfl) ?_
  intro v9 M1 h9
  obtain ⟨rfl, hJ1, hk1⟩ := h9
  refine j_lt (fun hlt1 => ?_)
  obtain ⟨⟨a1, za⟩, ⟨⟨cap, hbu⟩, zb1, zbv, hv, hb120, hbc⟩, ⟨hS, zs3, zs4⟩, ⟨hVX, zv8, zv9, hVs⟩, ⟨pa, hPa⟩, ⟨ho, zo, hon⟩, ⟨⟨dX, dk, dr, dl, dch, hd⟩, zd⟩, ⟨⟨od, hod⟩, zn79⟩, ⟨hz, hkr, hBc, ⟨mk, hmk⟩⟩, hP8, hE⟩ := id hJ1
  obtain ⟨p1, zp13, p3, p4, p5, p6⟩ := id hPa
  obtain ⟨⟨mb, bu, hb1, hb2, hb3, hb4, hb5⟩, hb6, hb7⟩ := id hbu
  obtain ⟨⟨lay, home, ff, xe, u1, u2, u5, u3, u6, u7⟩, u4⟩ := id hS
  obtain ⟨ho1, ho2, ho3, ho4, ho5⟩ := id ho
  have hn20 : (sRecs S).length ≤ 20 := u4.1.1
  have hk32 : sKeys S < 32 := u4.1.2.1
  have hp3 : sPol S < 3 := u4.1.2.2.1
  have ho10 : sOut S < 1024 := u4.1.2.2.2.1
  have hl2 : sLim S ≤ 200 := u4.1.2.2.2.2.1.2
  have hl1 : 1 ≤ sLim S := u4.1.2.2.2.2.1.1
  have hmk9 := hlt1 _ _ hmk
  refine j_aload_n hC dX9_moveRecord_16 rfl (jrf_ref _) ?_
  refine j_get (v := .ref (c + 3)) hC kf_X9_19 dX9_moveRecord_17 (a1) (rfl) ?_
  refine j_iload_n hC dX9_moveRecord_20 rfl ?_
  refine j_iload_n hC dX9_moveRecord_21 rfl ?_
  refine c_Pv (kc := 0) (ks := 0) hC kv_X9_120 dX9_moveRecord_22 (m_X5_moveTo (r := i) (t := j) hs9 hS hz zs3 zs4 (by omega) hi9 hj9) (u1) rfl rfl rfl rfl (by decide) (Nat.le_of_ble_eq_true rfl) ?_
  intro v9 M2 h9
  obtain ⟨rfl, f1, f2⟩ := h9
  refine j_iload_n hC dX9_moveRecord_25 rfl ?_
  refine j_iload_n hC dX9_moveRecord_26 rfl ?_
  refine n_icmp_ne (tgt := 34) hC dX9_moveRecord_27 (by decide) (by omega) (by omega) (fun c1 => ?_) (fun c1 => ?_)
  · refine j_iload_n hC dX9_moveRecord_34 rfl ?_
    refine j_iload_n hC dX9_moveRecord_35 rfl ?_
    refine z_isub (a := ((i : Nat) : Int)) (b := ((j : Nat) : Int)) hC dX9_moveRecord_36 ?_
    refine j_abs hC ks_X9_123 dX9_moveRecord_37 (by decide) (Nat.le_of_ble_eq_true rfl) ?_
    refine j_top (abs_z (by omega) (by omega)) ?_
    have hab9 : (if i < j then j - i else i - j) < 1000 := by split <;> omega
    refine j_iconst (v := nI 1) hC dX9_moveRecord_40 (by decide) ?_
    refine n_iadd hC dX9_moveRecord_41 ?_
    have hS9 : suR (M2).1 Z (c + 3) (withRecs S (moveL (sRecs S) i j)) := f1
    have hk9 : kept M1 (M2) (fun a => a = c + 3 ∨ a = c + 3 + 1) := fun a o ha hn => (f2 a (fun e9 => hn (Or.inl e9)) (fun e9 => hn (Or.inr e9))).trans ha
    have hz9 : sub Z (M2).1 := kept.sub hk9 hz (fun a e9 => by rcases e9 with e9 | e9 <;> rw [e9] <;> assumption)
    have hJ9 := hJ1.set (Z' := Z) (M' := M2) (S' := withRecs S (moveL (sRecs S) i j)) hS9 zg_refl hz9 hk9
    have hkf : kept M (M2) (fun a => a = v ∨ (c ≤ a ∧ a < c + 120)) := fun a o ha hn => hk9 _ _ (hk1 _ _ ha (fun (e9 : a = c ∨ a = c + 13 ∨ (c + 80 ≤ a ∧ a < c + 119)) => hn (show _ ∨ _ from by omega))) (fun (e9 : a = c + 3 ∨ a = c + 3 + 1) => hn (show _ ∨ _ from by omega))
    exact j_iret hC9 rfl (rfl) dX9_moveRecord_42 (cr_of (T' := (withRecs S (moveL (sRecs S) i j), (keepP P S), V, b, e, u)) (mov_0 (T := (S, P, V, b, e, u)) hi9 hj9 hn20 (by
  rw [if_neg (by assumption)]
  by_cases h9 : i < j
  · rw [if_pos h9, if_pos h9]
  · rw [if_neg h9, if_neg h9])) (cQ_of hJ9 hkf zg_refl))
  · refine j_iconst (v := nI 0) hC dX9_moveRecord_30 (by decide) ?_
    refine j_goto (tgt := 42) hC dX9_moveRecord_31 (by decide) ?_
    have hS9 : suR (M2).1 Z (c + 3) (withRecs S (moveL (sRecs S) i j)) := f1
    have hk9 : kept M1 (M2) (fun a => a = c + 3 ∨ a = c + 3 + 1) := fun a o ha hn => (f2 a (fun e9 => hn (Or.inl e9)) (fun e9 => hn (Or.inr e9))).trans ha
    have hz9 : sub Z (M2).1 := kept.sub hk9 hz (fun a e9 => by rcases e9 with e9 | e9 <;> rw [e9] <;> assumption)
    have hJ9 := hJ1.set (Z' := Z) (M' := M2) (S' := withRecs S (moveL (sRecs S) i j)) hS9 zg_refl hz9 hk9
    have hkf : kept M (M2) (fun a => a = v ∨ (c ≤ a ∧ a < c + 120)) := fun a o ha hn => hk9 _ _ (hk1 _ _ ha (fun (e9 : a = c ∨ a = c + 13 ∨ (c + 80 ≤ a ∧ a < c + 119)) => hn (show _ ∨ _ from by omega))) (fun (e9 : a = c + 3 ∨ a = c + 3 + 1) => hn (show _ ∨ _ from by omega))
    exact j_iret hC9 rfl (rfl) dX9_moveRecord_42 (cr_of (T' := (withRecs S (moveL (sRecs S) i j), (keepP P S), V, b, e, u)) (mov_0 (T := (S, P, V, b, e, u)) hi9 hj9 hn20 (by rw [if_pos (by assumption)]; rfl)) (cQ_of hJ9 hkf zg_refl))
set_option maxHeartbeats 4000000 in
set_option maxRecDepth 100000 in
theorem m_X9_sort {G : jG} {M : jM} {c v : Nat} {S : aSet} {P : List aSet} {V : Option aSet} {b : List Nat} {e : Option Nat} {u : Option aRun} {Z : jH} {q : Int32} {r : Bool} (hs : (gL G).stackTraces = false) (h : cJ G M Z c v S P V b e u)  : JMet G jX9_sort [.ref c, .int q, .int (jb (r = true))] (M) 1 6 8 (COq G M Z c v (opSort q r) (S, P, V, b, e, u)) (COx G M Z c v (opSort q r) ["java/lang/IndexOutOfBoundsException"] (S, P, V, b, e, u)) := by
  refine jMet_of [some (.ref (c)), some (.int (q)), some (.int (jb (r = true)))] (by decide) rfl (Nat.le_of_ble_eq_true rfl) (rfl) hs ?_
  intro C hC9 hG
  have hC := hC9.z
  have hs9 := jOK0_tr hC
  refine j_lt (fun hlt => ?_)
  have hBg : jB C = gB G := by rw [jB, hG]
  subst hG
  obtain ⟨⟨a1, za⟩, ⟨⟨cap, hbu⟩, zb1, zbv, hv, hb120, hbc⟩, ⟨hS, zs3, zs4⟩, ⟨hVX, zv8, zv9, hVs⟩, ⟨pa, hPa⟩, ⟨ho, zo, hon⟩, ⟨⟨dX, dk, dr, dl, dch, hd⟩, zd⟩, ⟨⟨od, hod⟩, zn79⟩, ⟨hz, hkr, hBc, ⟨mk, hmk⟩⟩, hP8, hE⟩ := id h
  obtain ⟨p1, zp13, p3, p4, p5, p6⟩ := id hPa
  obtain ⟨⟨mb, bu, hb1, hb2, hb3, hb4, hb5⟩, hb6, hb7⟩ := id hbu
  obtain ⟨⟨lay, home, ff, xe, u1, u2, u5, u3, u6, u7⟩, u4⟩ := id hS
  obtain ⟨ho1, ho2, ho3, ho4, ho5⟩ := id ho
  have hn20 : (sRecs S).length ≤ 20 := u4.1.1
  have hk32 : sKeys S < 32 := u4.1.2.1
  have hp3 : sPol S < 3 := u4.1.2.2.1
  have ho10 : sOut S < 1024 := u4.1.2.2.2.1
  have hl2 : sLim S ≤ 200 := u4.1.2.2.2.2.1.2
  have hl1 : 1 ≤ sLim S := u4.1.2.2.2.2.1.1
  have hmk9 := hlt _ _ hmk
  refine j_iload_n hC dX9_sort_0 rfl ?_
  refine c_Ts (kc := 0) (ks := 0) hC9 rfl ks_X9_129 rfl dX9_sort_1 (m_X9_checkField (f := q) hs9) rfl rfl (by decide) (Nat.le_of_ble_eq_true rfl) (fun E9 M9 hx9 => ?_) ?_
  · obtain ⟨rfl, e9, hno⟩ := hx9
    exact cx_of (k := 0) (x := nI 0) (T' := (S, P, V, b, e, u)) (srt_1 hno) rfl (cQ_same h e9)
  intro v9 M1 h9
  obtain ⟨rfl, e9, hjf⟩ := h9
  refine j_M e9 ?_
  clear e9
  obtain ⟨f, hf, rfl⟩ := jin_of hjf (by decide)
  refine j_aload_n hC dX9_sort_4 rfl (jrf_ref _) ?_
  refine c_Pv (kc := 0) (ks := 0) hC kv_X9_100 dX9_sort_5 (m_X9_remember hs9 h) (a1) rfl rfl rfl rfl (by decide) (Nat.le_of_ble_eq_true rfl) ?_
  intro v9 M1 h9
  obtain ⟨rfl, hJ1, hk1⟩ := h9
  refine j_lt (fun hlt1 => ?_)
  obtain ⟨⟨a1, za⟩, ⟨⟨cap, hbu⟩, zb1, zbv, hv, hb120, hbc⟩, ⟨hS, zs3, zs4⟩, ⟨hVX, zv8, zv9, hVs⟩, ⟨pa, hPa⟩, ⟨ho, zo, hon⟩, ⟨⟨dX, dk, dr, dl, dch, hd⟩, zd⟩, ⟨⟨od, hod⟩, zn79⟩, ⟨hz, hkr, hBc, ⟨mk, hmk⟩⟩, hP8, hE⟩ := id hJ1
  obtain ⟨p1, zp13, p3, p4, p5, p6⟩ := id hPa
  obtain ⟨⟨mb, bu, hb1, hb2, hb3, hb4, hb5⟩, hb6, hb7⟩ := id hbu
  obtain ⟨⟨lay, home, ff, xe, u1, u2, u5, u3, u6, u7⟩, u4⟩ := id hS
  obtain ⟨ho1, ho2, ho3, ho4, ho5⟩ := id ho
  have hn20 : (sRecs S).length ≤ 20 := u4.1.1
  have hk32 : sKeys S < 32 := u4.1.2.1
  have hp3 : sPol S < 3 := u4.1.2.2.1
  have ho10 : sOut S < 1024 := u4.1.2.2.2.1
  have hl2 : sLim S ≤ 200 := u4.1.2.2.2.2.1.2
  have hl1 : 1 ≤ sLim S := u4.1.2.2.2.2.1.1
  have hmk9 := hlt1 _ _ hmk
  refine j_aload_n hC dX9_sort_8 rfl (jrf_ref _) ?_
  refine j_get (v := .ref (c + 3)) hC kf_X9_19 dX9_sort_9 (a1) (rfl) ?_
  refine j_iload_n hC dX9_sort_12 rfl ?_
  refine j_iload_n hC dX9_sort_13 rfl ?_
  refine j_aload_n hC dX9_sort_14 rfl (jrf_ref _) ?_
  refine j_get (v := .ref (c + 79)) hC kf_X9_44 dX9_sort_15 (a1) (rfl) ?_
  refine c_Pv (kc := 0) (ks := 0) hC kv_X9_132 dX9_sort_18 (m_X5_sortBy (f := f) (dsc := r) hs9 hS hz zs3 zs4 (by omega) hf hod (by omega) zn79 ⟨by omega, by omega⟩) (u1) rfl rfl rfl rfl (by decide) (Nat.le_of_ble_eq_true rfl) ?_
  intro v9 M2 h9
  obtain ⟨rfl, f1, f3, f2⟩ := h9
  have hk9 : kept M1 M2 (fun a => a = c + 3 ∨ a = c + 3 + 1 ∨ a = c + 79) := fun a o ha hn => (f2 a (fun e9 => hn (Or.inl e9)) (fun e9 => hn (Or.inr (Or.inl e9))) (fun e9 => hn (Or.inr (Or.inr e9)))).trans ha
  have hz9 : sub Z M2.1 := kept.sub hk9 hz (fun a e9 => by rcases e9 with e9 | e9 | e9 <;> rw [e9] <;> assumption)
  have hJ9 := hJ1.sort f1 ⟨f3, zn79⟩ hk9 hz9
  have hkf : kept M M2 (fun a => a = v ∨ (c ≤ a ∧ a < c + 120)) := fun a o ha hn => hk9 _ _ (hk1 _ _ ha (fun (e9 : a = c ∨ a = c + 13 ∨ (c + 80 ≤ a ∧ a < c + 119)) => hn (show _ ∨ _ from by omega))) (fun (e9 : a = c + 3 ∨ a = c + 3 + 1 ∨ a = c + 79) => hn (show _ ∨ _ from by omega))
  exact j_iret hC9 rfl (rfl) dX9_sort_21 (cr_of (T' := (withRecs S ((ordA S f r).map (sAt S)), (keepP P S), V, b, e, u)) (srt_0 (T := (S, P, V, b, e, u)) hf) (cQ_of hJ9 hkf zg_refl))
set_option maxHeartbeats 4000000 in
set_option maxRecDepth 100000 in
theorem m_X9_clear {G : jG} {M : jM} {c v : Nat} {S : aSet} {P : List aSet} {V : Option aSet} {b : List Nat} {e : Option Nat} {u : Option aRun} {Z : jH}  (hs : (gL G).stackTraces = false) (h : cJ G M Z c v S P V b e u)  : JMet G jX9_clear [.ref c] (M) 3 7 3 (COq G M Z c v opClear (S, P, V, b, e, u)) jNo := by
  refine jMet_of [some (.ref (c)), none] (by decide) rfl (Nat.le_of_ble_eq_true rfl) (rfl) hs ?_
  intro C hC9 hG
  have hC := hC9.z
  have hs9 := jOK0_tr hC
  refine j_lt (fun hlt => ?_)
  have hBg : jB C = gB G := by rw [jB, hG]
  subst hG
  obtain ⟨⟨a1, za⟩, ⟨⟨cap, hbu⟩, zb1, zbv, hv, hb120, hbc⟩, ⟨hS, zs3, zs4⟩, ⟨hVX, zv8, zv9, hVs⟩, ⟨pa, hPa⟩, ⟨ho, zo, hon⟩, ⟨⟨dX, dk, dr, dl, dch, hd⟩, zd⟩, ⟨⟨od, hod⟩, zn79⟩, ⟨hz, hkr, hBc, ⟨mk, hmk⟩⟩, hP8, hE⟩ := id h
  obtain ⟨p1, zp13, p3, p4, p5, p6⟩ := id hPa
  obtain ⟨⟨mb, bu, hb1, hb2, hb3, hb4, hb5⟩, hb6, hb7⟩ := id hbu
  obtain ⟨⟨lay, home, ff, xe, u1, u2, u5, u3, u6, u7⟩, u4⟩ := id hS
  obtain ⟨ho1, ho2, ho3, ho4, ho5⟩ := id ho
  have hn20 : (sRecs S).length ≤ 20 := u4.1.1
  have hk32 : sKeys S < 32 := u4.1.2.1
  have hp3 : sPol S < 3 := u4.1.2.2.1
  have ho10 : sOut S < 1024 := u4.1.2.2.2.1
  have hl2 : sLim S ≤ 200 := u4.1.2.2.2.2.1.2
  have hl1 : 1 ≤ sLim S := u4.1.2.2.2.2.1.1
  have hmk9 := hlt _ _ hmk
  refine j_aload_n hC dX9_clear_0 rfl (jrf_ref _) ?_
  refine j_get (v := .ref (c + 3)) hC kf_X9_19 dX9_clear_1 (a1) (rfl) ?_
  refine j_get (v := .int (nI ((sRecs S).length))) hC kf_X9_59 dX9_clear_4 (u1) (rfl) ?_
  refine j_istore_n1 hC dX9_clear_7 (by decide) rfl ?_
  refine j_aload_n hC dX9_clear_8 rfl (jrf_ref _) ?_
  refine j_get (v := .ref (c + 3)) hC kf_X9_19 dX9_clear_9 (a1) (rfl) ?_
  refine c_Pv (kc := 0) (ks := 0) hC kv_X9_62 dX9_clear_12 (m_X5_reset hs9 hS.E hz zs3 hkr.1 (by omega)) (u1) rfl rfl rfl rfl (by decide) (Nat.le_of_ble_eq_true rfl) ?_
  intro v9 M1 h9
  obtain ⟨rfl, Z1, g0, g1, g2, g3, g4⟩ := h9
  refine j_aload_n hC dX9_clear_15 rfl (jrf_ref _) ?_
  refine j_iconst (v := nI 0) hC dX9_clear_16 (by decide) ?_
  refine c_put (fs' := [.ref (c + 1), .ref (c + 3), .ref (c + 8), .ref (c + 13), .ref (c + 14), .ref (c + 76), .ref (c + 79), .int (nI (0)), .int (zI (optZ e)), .int (jb (V.isSome = true))]) hC kp_X9_48 dX9_clear_17 ((g3 _ _ (a1) (by show ¬ _ = _; omega))) (by omega) (rfl) (rfl) rfl ?_
  refine j_iload_n hC dX9_clear_20 rfl ?_
  have hk0 : kept M M1 (fun a => a = c + 3 ∨ a = c + 3 + 1) := fun a o ha hn => g3 a o ha (fun e9 => hn (Or.inl e9))
  have hJ1 := h.set (S' := set0) g2 ⟨(g0.ex hlt).1, (g0.ex hlt).2⟩ g1 hk0
  have hk9 : kept M1 (jput (M1) (c) (.inr (13, [.ref (c + 1), .ref (c + 3), .ref (c + 8), .ref (c + 13), .ref (c + 14), .ref (c + 76), .ref (c + 79), .int (nI (0)), .int (zI (optZ e)), .int (jb (V.isSome = true))]))) (fun a => a = c) := fun a o ha hn => (jput_ne hn).trans ha
  have hJ9 := hJ1.fewer (P' := []) (M' := jput (M1) (c) (.inr (13, [.ref (c + 1), .ref (c + 3), .ref (c + 8), .ref (c + 13), .ref (c + 14), .ref (c + 76), .ref (c + 79), .int (nI (0)), .int (zI (optZ e)), .int (jb (V.isSome = true))]))) jput_at (fun k S hk => by rw [List.getElem?_nil] at hk; cases hk) (Nat.zero_le _) hk9
  have hkf : kept M (jput (M1) (c) (.inr (13, [.ref (c + 1), .ref (c + 3), .ref (c + 8), .ref (c + 13), .ref (c + 14), .ref (c + 76), .ref (c + 79), .int (nI (0)), .int (zI (optZ e)), .int (jb (V.isSome = true))]))) (fun a => a = v ∨ (c ≤ a ∧ a < c + 120)) := fun a o ha hn => hk9 _ _ (hk0 _ _ ha (fun (e9 : a = c + 3 ∨ a = c + 3 + 1) => hn (show _ ∨ _ from by omega))) (fun (e9 : a = c) => hn (show _ ∨ _ from by omega))
  exact j_iret hC9 rfl (rfl) dX9_clear_21 (cr_of (T' := (set0, [], V, b, e, u)) rfl (cQ_of hJ9 hkf ⟨(g0.ex hlt).1, (g0.ex hlt).2⟩))
