/-! ===== the merger: undo, snapshot, runs ===== -/
section SV
variable {G : jG} {M M' : jM} {Z : jH} {c v : Nat} {S S0 : aSet} {P : List aSet} {V : Option aSet} {t : List Nat} {e : Option Nat} {u : Option aRun} {L : aRun}
theorem cJ.save (h : cJ G M Z c v S P V t e u) (h1 : M'.1 c = some (.inr (13, cF c P.length (optZ e) true))) (hV : suR M'.1 Z (c + 8) S0) (hk : kept M M' (fun a => a = c ∨ a = c + 8 ∨ a = c + 8 + 1)) : cJ G M' Z c v S P (some S0) t e u := by
  obtain ⟨hA, hB, hSS, hVV, ⟨pa, hP⟩, hO, hD, hN, hZ, h8, hE⟩ := h
  have hv := hB.2.2.2.1
  have hg : zg M Z Z := zg_refl
  have hz : sub Z M'.1 := kept.sub hk hZ.1 (fun a e9 => by rcases e9 with e9 | e9 | e9 <;> rw [e9]; exact hA.2; exact hVV.2.1; exact hVV.2.2.1)
  exact ⟨⟨h1, hA.2⟩, hB.up hg hk (by omega) (by omega), hSS.up hg hk (by omega) (by omega), ⟨hV.X, hVV.2.1, hVV.2.2.1, fun S9 e9 => by cases e9; exact hV⟩, ⟨pa, hP.up h8 hg hk (by omega) (fun a _ _ => by omega)⟩, hO.up hg hk (fun a _ _ => by omega), hD.up hg hk (fun a _ _ => by omega), hN.up hg hk (by omega), hZ.up hg hz hk (by omega), h8, hE⟩
theorem cJ.ran (h : cJ G M Z c v S P V t e u) (hO : outR M'.1 (c + 14) L) (hL : ¬ L.length = 0 ∧ ∀ r, r < L.length → (ranAt L r).2.2.length ≤ 5) (hk : onO M M' (c + 14)) : cJ G M' Z c v S P V t e (some L) := by
  obtain ⟨hA, hB, hSS, hVV, ⟨pa, hP⟩, hOO, hD, hN, hZ, h8, hE⟩ := h
  have hv := hB.2.2.2.1
  have hg : zg M Z Z := zg_refl
  have hk' : kept M M' (fun a => c + 14 ≤ a ∧ a < c + 76) := fun a o ha hn => (hk a (fun e9 => hn ⟨e9.1, by omega⟩)).trans ha
  exact ⟨hA.up hg hk' (by omega), hB.up hg hk' (by omega) (by omega), hSS.up hg hk' (by omega) (by omega), hVV.up hg hk' (by omega) (by omega), ⟨pa, hP.up h8 hg hk' (by omega) (fun a _ _ => by omega)⟩, ⟨hO, hOO.2.1, fun L9 e9 => by cases e9; exact hL⟩, hD.up hg hk' (fun a _ _ => by omega), hN.up hg hk' (by omega), hZ.up hg (hk.sub hZ.1 hOO.2.1) hk' (by omega), h8, hE⟩
theorem cJ.dra (h : cJ G M Z c v S P V t e u) (hD : ∃ (X : List Nat × Bool) (k r lim : Nat) (ch : Nat → Int32), shS M'.1 (c + 76) X k r lim ch) (hk : on3 M M' (c + 76)) : cJ G M' Z c v S P V t e u := by
  obtain ⟨hA, hB, hSS, hVV, ⟨pa, hP⟩, hOO, hDD, hN, hZ, h8, hE⟩ := h
  have hv := hB.2.2.2.1
  have hg : zg M Z Z := zg_refl
  have hk' : kept M M' (fun a => c + 76 ≤ a ∧ a < c + 79) := fun a o ha hn => (hk a (fun e9 => hn ⟨by omega, by omega⟩) (fun e9 => hn ⟨by omega, by omega⟩) (fun e9 => hn ⟨by omega, by omega⟩)).trans ha
  exact ⟨hA.up hg hk' (by omega), hB.up hg hk' (by omega) (by omega), hSS.up hg hk' (by omega) (by omega), hVV.up hg hk' (by omega) (by omega), ⟨pa, hP.up h8 hg hk' (by omega) (fun a _ _ => by omega)⟩, hOO.up hg hk' (fun a _ _ => by omega), ⟨hD, hDD.2⟩, hN.up hg hk' (by omega), hZ.up hg (hk.sub hZ.1 hDD.2) hk' (by omega), h8, hE⟩
theorem ran_let : ranN (runL S) 0 = lettersN S (sRecs S).length := by
  unfold ranN lettersN
  rw [runL_len]
  exact cntTo_eq _ (fun i hi => by rw [runL_at hi]; rfl)
theorem run_5 (hS : setG S) : ∀ r, r < (runL S).length → (ranAt (runL S) r).2.2.length ≤ 5 := fun r hr => by
  rw [runL_len] at hr
  rw [runL_at hr]
  simp only [rnX]
  split
  · rename_i h3
    have hm : rsnA S r (sPol S) false = (ltrA S r).1 := by
      unfold rsnA at h3 ⊢
      split at h3
      · omega
      · split at h3
        · rename_i g1 g2
          rw [if_neg g1, if_pos g2]
        · omega
    have hb := ltr_b hS hr
    exact (chnA_b (wf_end hS.2) (hb.2.2.2 (by omega)).2 hS.1.2.2.2.2.2.2.1.1).1
  · exact Nat.zero_le _
end SV
set_option maxHeartbeats 4000000 in
set_option maxRecDepth 100000 in
theorem m_X9_snapshot {G : jG} {M : jM} {c v : Nat} {S : aSet} {P : List aSet} {V : Option aSet} {b : List Nat} {e : Option Nat} {u : Option aRun} {Z : jH}  (hs : (gL G).stackTraces = false) (h : cJ G M Z c v S P V b e u)  : JMet G jX9_snapshot [.ref c] (M) 0 0 3 (COq G M Z c v opSnap (S, P, V, b, e, u)) jNo := by
  refine jMet_of [some (.ref (c))] (by decide) rfl (Nat.le_of_ble_eq_true rfl) (rfl) hs ?_
  intro C hC9 hG
  have hC := hC9.z
  have hs9 := jOK0_tr hC
  refine j_lt (fun hlt => ?_)
  have hBg : jB C = gB G := by rw [jB, hG]
  subst hG
  obtain ⟨⟨a1, za⟩, ⟨⟨cap, hbu⟩, zb1, zbv, hv, hb120, hbc⟩, ⟨hS, zs3, zs4⟩, ⟨hVX, zv8, zv9, hVs⟩, ⟨pa, hPa⟩, ⟨ho, zo, hon⟩, ⟨⟨dX, dk, dr, dl, dch, hd⟩, zd⟩, ⟨⟨od, hod⟩, zn79⟩, ⟨hz, hkr, hBc, ⟨mk, hmk⟩⟩, hP8, hE⟩ := id h
  obtain ⟨p1, zp13, p3, p4, p5, p6⟩ := id hPa
  obtain ⟨⟨mb, bu, hb1, hb2, hb3, hb4, hb5⟩, hb6, hb7⟩ := id hbu
  obtain ⟨⟨lay, home, ff, xe, u1, u2, u5, u3, u6, u7⟩, u4⟩ := id hS
  obtain ⟨ho1, ho2, ho3, ho4, ho5⟩ := id ho
  have hn20 : (sRecs S).length ≤ 20 := u4.1.1
  have hk32 : sKeys S < 32 := u4.1.2.1
  have hp3 : sPol S < 3 := u4.1.2.2.1
  have ho10 : sOut S < 1024 := u4.1.2.2.2.1
  have hl2 : sLim S ≤ 200 := u4.1.2.2.2.2.1.2
  have hl1 : 1 ≤ sLim S := u4.1.2.2.2.2.1.1
  have hmk9 := hlt _ _ hmk
  obtain ⟨v1, v2, v3, v4, v5, v6, v7, vf, vx, vy⟩ := id hVX
  refine j_aload_n hC dX9_snapshot_0 rfl (jrf_ref _) ?_
  refine j_get (v := .ref (c + 8)) hC kf_X9_23 dX9_snapshot_1 (a1) (rfl) ?_
  refine j_aload_n hC dX9_snapshot_4 rfl (jrf_ref _) ?_
  refine j_get (v := .ref (c + 3)) hC kf_X9_19 dX9_snapshot_5 (a1) (rfl) ?_
  refine c_Pv (kc := 0) (ks := 0) hC kv_X9_352 dX9_snapshot_8 (m_X5_copyFrom (s := c + 8) (z := c + 3) hs9 hS hVX hz ⟨by omega, by omega, by omega⟩ (by omega) (by omega)) (vx) rfl rfl rfl rfl (by decide) (Nat.le_of_ble_eq_true rfl) ?_
  intro v9 M1 h9
  obtain ⟨rfl, f1, f2⟩ := h9
  obtain ⟨⟨lay', home', ff', xe', u1', -⟩, -⟩ := id f1
  refine j_aload_n hC dX9_snapshot_11 rfl (jrf_ref _) ?_
  refine j_iconst (v := nI 1) hC dX9_snapshot_12 (by decide) ?_
  refine c_put (fs' := [.ref (c + 1), .ref (c + 3), .ref (c + 8), .ref (c + 13), .ref (c + 14), .ref (c + 76), .ref (c + 79), .int (nI P.length), .int (zI (optZ e)), .int (nI (1))]) hC kp_X9_55 dX9_snapshot_13 ((f2 _ (by omega) (by omega)).trans (a1)) (by omega) (by decide) (by decide) rfl ?_
  refine j_aload_n hC dX9_snapshot_16 rfl (jrf_ref _) ?_
  refine j_get (v := .ref (c + 8)) hC kf_X9_23 dX9_snapshot_17 (jput_at) (rfl) ?_
  refine j_get (v := .int (nI ((sRecs S).length))) hC kf_X9_59 dX9_snapshot_20 ((jput_ne (by show (c + 8) ≠ (c); omega)).trans (u1')) (rfl) ?_
  have hk9 : kept M (jput (M1) (c) (.inr (13, [.ref (c + 1), .ref (c + 3), .ref (c + 8), .ref (c + 13), .ref (c + 14), .ref (c + 76), .ref (c + 79), .int (nI P.length), .int (zI (optZ e)), .int (nI (1))]))) (fun a => a = c ∨ a = c + 8 ∨ a = c + 8 + 1) := fun a o ha hn => (jput_ne (fun e9 => hn (Or.inl e9))).trans ((f2 a (fun e9 => hn (Or.inr (Or.inl e9))) (fun e9 => hn (Or.inr (Or.inr e9)))).trans ha)
  have hJ9 := h.save (M' := jput (M1) (c) (.inr (13, [.ref (c + 1), .ref (c + 3), .ref (c + 8), .ref (c + 13), .ref (c + 14), .ref (c + 76), .ref (c + 79), .int (nI P.length), .int (zI (optZ e)), .int (nI (1))]))) jput_at (f1.up sub_refl (W := fun a => a = c) (fun a o ha hn => (jput_ne hn).trans ha) (by omega) (by omega)) hk9
  have hkf : kept M (jput (M1) (c) (.inr (13, [.ref (c + 1), .ref (c + 3), .ref (c + 8), .ref (c + 13), .ref (c + 14), .ref (c + 76), .ref (c + 79), .int (nI P.length), .int (zI (optZ e)), .int (nI (1))]))) (fun a => a = v ∨ (c ≤ a ∧ a < c + 120)) := hk9.wk (fun a (e9 : a = c ∨ a = c + 8 ∨ a = c + 8 + 1) => (show _ ∨ _ from by omega))
  exact j_iret hC9 rfl (rfl) dX9_snapshot_23 (cr_of (T' := (S, P, some S, b, e, u)) rfl (cQ_of hJ9 hkf zg_refl))
set_option maxHeartbeats 4000000 in
set_option maxRecDepth 100000 in
theorem m_X9_restore {G : jG} {M : jM} {c v : Nat} {S : aSet} {P : List aSet} {V : Option aSet} {b : List Nat} {e : Option Nat} {u : Option aRun} {Z : jH}  (hs : (gL G).stackTraces = false) (h : cJ G M Z c v S P V b e u)  : JMet G jX9_restore [.ref c] (M) 1 6 7 (COq G M Z c v opRestore (S, P, V, b, e, u)) (COx G M Z c v (opRestore) ["java/lang/IllegalStateException"] (S, P, V, b, e, u)) := by
  refine jMet_of [some (.ref (c))] (by decide) rfl (Nat.le_of_ble_eq_true rfl) (rfl) hs ?_
  intro C hC9 hG
  have hC := hC9.z
  have hs9 := jOK0_tr hC
  refine j_lt (fun hlt => ?_)
  have hBg : jB C = gB G := by rw [jB, hG]
  subst hG
  obtain ⟨⟨a1, za⟩, ⟨⟨cap, hbu⟩, zb1, zbv, hv, hb120, hbc⟩, ⟨hS, zs3, zs4⟩, ⟨hVX, zv8, zv9, hVs⟩, ⟨pa, hPa⟩, ⟨ho, zo, hon⟩, ⟨⟨dX, dk, dr, dl, dch, hd⟩, zd⟩, ⟨⟨od, hod⟩, zn79⟩, ⟨hz, hkr, hBc, ⟨mk, hmk⟩⟩, hP8, hE⟩ := id h
  obtain ⟨p1, zp13, p3, p4, p5, p6⟩ := id hPa
  obtain ⟨⟨mb, bu, hb1, hb2, hb3, hb4, hb5⟩, hb6, hb7⟩ := id hbu
  obtain ⟨⟨lay, home, ff, xe, u1, u2, u5, u3, u6, u7⟩, u4⟩ := id hS
  obtain ⟨ho1, ho2, ho3, ho4, ho5⟩ := id ho
  have hn20 : (sRecs S).length ≤ 20 := u4.1.1
  have hk32 : sKeys S < 32 := u4.1.2.1
  have hp3 : sPol S < 3 := u4.1.2.2.1
  have ho10 : sOut S < 1024 := u4.1.2.2.2.1
  have hl2 : sLim S ≤ 200 := u4.1.2.2.2.2.1.2
  have hl1 : 1 ≤ sLim S := u4.1.2.2.2.2.1.1
  have hmk9 := hlt _ _ hmk
  refine j_aload_n hC dX9_restore_0 rfl (jrf_ref _) ?_
  refine j_get (v := .int (jb (V.isSome = true))) hC kf_X9_55 dX9_restore_1 (a1) (rfl) ?_
  refine jb_if_ne (tgt := 18) hC dX9_restore_4 (by decide) (fun c1 => ?_) (fun c1 => ?_)
  · obtain ⟨S0, rfl⟩ : ∃ S0, V = some S0 := by
      cases V with
      | none => exact absurd (by assumption : (none : Option aSet).isSome = true) (by decide)
      | some S0 => exact ⟨S0, rfl⟩
    have hS0 := hVs S0 rfl
    refine j_aload_n hC dX9_restore_18 rfl (jrf_ref _) ?_
    refine j_get (v := .ref (c + 3)) hC kf_X9_19 dX9_restore_19 (a1) (rfl) ?_
    refine j_aload_n hC dX9_restore_22 rfl (jrf_ref _) ?_
    refine j_get (v := .ref (c + 8)) hC kf_X9_23 dX9_restore_23 (a1) (rfl) ?_
    refine c_Pv (kc := 1) (ks := 6) hC kv_X9_352 dX9_restore_26 (m_X5_copyFrom (s := c + 3) (z := c + 8) hs9 hS0 hS.X hz ⟨by omega, by omega, by omega⟩ (by omega) (by omega)) (u1) rfl rfl rfl rfl (by decide) (Nat.le_of_ble_eq_true rfl) ?_
    intro v9 M1 h9
    obtain ⟨rfl, f1, f2⟩ := h9
    obtain ⟨⟨lay', home', ff', xe', u1', -⟩, -⟩ := id f1
    refine j_aload_n hC dX9_restore_29 rfl (jrf_ref _) ?_
    refine j_iconst (v := nI 0) hC dX9_restore_30 (by decide) ?_
    refine c_put (fs' := [.ref (c + 1), .ref (c + 3), .ref (c + 8), .ref (c + 13), .ref (c + 14), .ref (c + 76), .ref (c + 79), .int (nI (0)), .int (zI (optZ e)), .int (jb ((some S0).isSome = true))]) hC kp_X9_48 dX9_restore_31 ((f2 _ (by omega) (by omega)).trans (a1)) (by omega) (rfl) (rfl) rfl ?_
    refine j_aload_n hC dX9_restore_34 rfl (jrf_ref _) ?_
    refine j_get (v := .ref (c + 3)) hC kf_X9_19 dX9_restore_35 (jput_at) (rfl) ?_
    refine j_get (v := .int (nI ((sRecs S0).length))) hC kf_X9_59 dX9_restore_38 ((jput_ne (by show (c + 3) ≠ (c); omega)).trans (u1')) (rfl) ?_
    have hk0 : kept M M1 (fun a => a = c + 3 ∨ a = c + 3 + 1) := fun a o ha hn => (f2 a (fun e9 => hn (Or.inl e9)) (fun e9 => hn (Or.inr e9))).trans ha
    have hJ1 := h.set f1 zg_refl (kept.sub hk0 hz (fun a e9 => by rcases e9 with e9 | e9 <;> rw [e9] <;> assumption)) hk0
    have hk9 : kept M1 (jput (M1) (c) (.inr (13, [.ref (c + 1), .ref (c + 3), .ref (c + 8), .ref (c + 13), .ref (c + 14), .ref (c + 76), .ref (c + 79), .int (nI (0)), .int (zI (optZ e)), .int (jb ((some S0).isSome = true))]))) (fun a => a = c) := fun a o ha hn => (jput_ne hn).trans ha
    have hJ9 := hJ1.fewer (P' := []) (M' := jput (M1) (c) (.inr (13, [.ref (c + 1), .ref (c + 3), .ref (c + 8), .ref (c + 13), .ref (c + 14), .ref (c + 76), .ref (c + 79), .int (nI (0)), .int (zI (optZ e)), .int (jb ((some S0).isSome = true))]))) jput_at (fun k S hk => by rw [List.getElem?_nil] at hk; cases hk) (Nat.zero_le _) hk9
    have hkf : kept M (jput (M1) (c) (.inr (13, [.ref (c + 1), .ref (c + 3), .ref (c + 8), .ref (c + 13), .ref (c + 14), .ref (c + 76), .ref (c + 79), .int (nI (0)), .int (zI (optZ e)), .int (jb ((some S0).isSome = true))]))) (fun a => a = v ∨ (c ≤ a ∧ a < c + 120)) := fun a o ha hn => hk9 _ _ (hk0 _ _ ha (fun (e9 : a = c + 3 ∨ a = c + 3 + 1) => hn (show _ ∨ _ from by omega))) (fun (e9 : a = c) => hn (show _ ∨ _ from by omega))
    exact j_iret hC9 rfl (rfl) dX9_restore_41 (cr_of (T' := (S0, [], some S0, b, e, u)) (rst_0 (T := (S, P, some S0, b, e, u)) rfl) (cQ_of hJ9 hkf zg_refl))
  · exact j_throwSW hC9 (i := 43) rfl kt_X9_80 rfl dX9_restore_7 dX9_restore_10 dX9_restore_11 dX9_restore_14 dX9_restore_17 (by decide) (by decide) (by decide) (Nat.le_of_ble_eq_true rfl) (fun n9 => cx_of (k := 0) (x := nI 0) (T' := (S, P, V, b, e, u)) (rst_1 (T := (S, P, V, b, e, u)) (by assumption)) rfl (cQ_same h rfl))
set_option maxHeartbeats 4000000 in
set_option maxRecDepth 100000 in
theorem m_X9_undo {G : jG} {M : jM} {c v : Nat} {S : aSet} {P : List aSet} {V : Option aSet} {b : List Nat} {e : Option Nat} {u : Option aRun} {Z : jH}  (hs : (gL G).stackTraces = false) (h : cJ G M Z c v S P V b e u)  : JMet G jX9_undo [.ref c] (M) 1 6 7 (COq G M Z c v opUndo (S, P, V, b, e, u)) (COx G M Z c v (opUndo) ["java/lang/IllegalStateException"] (S, P, V, b, e, u)) := by
  refine jMet_of [some (.ref (c))] (by decide) rfl (Nat.le_of_ble_eq_true rfl) (rfl) hs ?_
  intro C hC9 hG
  have hC := hC9.z
  have hs9 := jOK0_tr hC
  refine j_lt (fun hlt => ?_)
  have hBg : jB C = gB G := by rw [jB, hG]
  subst hG
  obtain ⟨⟨a1, za⟩, ⟨⟨cap, hbu⟩, zb1, zbv, hv, hb120, hbc⟩, ⟨hS, zs3, zs4⟩, ⟨hVX, zv8, zv9, hVs⟩, ⟨pa, hPa⟩, ⟨ho, zo, hon⟩, ⟨⟨dX, dk, dr, dl, dch, hd⟩, zd⟩, ⟨⟨od, hod⟩, zn79⟩, ⟨hz, hkr, hBc, ⟨mk, hmk⟩⟩, hP8, hE⟩ := id h
  obtain ⟨p1, zp13, p3, p4, p5, p6⟩ := id hPa
  obtain ⟨⟨mb, bu, hb1, hb2, hb3, hb4, hb5⟩, hb6, hb7⟩ := id hbu
  obtain ⟨⟨lay, home, ff, xe, u1, u2, u5, u3, u6, u7⟩, u4⟩ := id hS
  obtain ⟨ho1, ho2, ho3, ho4, ho5⟩ := id ho
  have hn20 : (sRecs S).length ≤ 20 := u4.1.1
  have hk32 : sKeys S < 32 := u4.1.2.1
  have hp3 : sPol S < 3 := u4.1.2.2.1
  have ho10 : sOut S < 1024 := u4.1.2.2.2.1
  have hl2 : sLim S ≤ 200 := u4.1.2.2.2.2.1.2
  have hl1 : 1 ≤ sLim S := u4.1.2.2.2.2.1.1
  have hmk9 := hlt _ _ hmk
  refine j_aload_n hC dX9_undo_0 rfl (jrf_ref _) ?_
  refine j_get (v := .int (nI (P.length))) hC kf_X9_48 dX9_undo_1 (a1) (rfl) ?_
  refine n_if_le (tgt := 19) hC dX9_undo_4 (by decide) (by omega) (fun c1 => ?_) (fun c1 => ?_)
  · exact j_throwSW hC9 (i := 42) rfl kt_X9_80 rfl dX9_undo_19 dX9_undo_22 dX9_undo_23 dX9_undo_26 dX9_undo_29 (by decide) (by decide) (by decide) (Nat.le_of_ble_eq_true rfl) (fun n9 => cx_of (k := 0) (x := nI 0) (T' := (S, P, V, b, e, u)) (und_1 (T := (S, P, V, b, e, u)) (show P.length = 0 by omega)) rfl (cQ_same h rfl))
  · refine j_aload_n hC dX9_undo_7 rfl (jrf_ref _) ?_
    refine j_get (v := .int (nI (P.length))) hC kf_X9_48 dX9_undo_8 (a1) (rfl) ?_
    refine j_aload_n hC dX9_undo_11 rfl (jrf_ref _) ?_
    refine j_get (v := .ref (c + 13)) hC kf_X9_26 dX9_undo_12 (a1) (rfl) ?_
    refine c_alen hC dX9_undo_15 (p1) ?_
    refine n_icmp_le (tgt := 30) hC dX9_undo_16 (by decide) (by omega) (by omega) (fun c2 => ?_) (fun c2 => ?_)
    · have hn0 : 0 < P.length := by omega
      obtain ⟨S0, hS0e⟩ : ∃ S0, P[P.length - 1]? = some S0 := ⟨_, List.getElem?_eq_getElem (by omega)⟩
      have hlast : P.getLast? = some S0 := by rw [List.getLast?_eq_getElem?]; exact hS0e
      have hS0 := p6 _ _ hS0e
      have hpn := hPa.get (k := P.length - 1) (by omega)
      have hzp := (p5 (P.length - 1) (by omega)).2
      refine j_aload_n hC dX9_undo_30 rfl (jrf_ref _) ?_
      refine j_dup hC dX9_undo_31 rfl ?_
      refine j_get (v := .int (nI (P.length))) hC kf_X9_48 dX9_undo_32 (a1) (rfl) ?_
      refine j_iconst (v := nI 1) hC dX9_undo_35 (by decide) ?_
      refine n_isub hC dX9_undo_36 (by omega) ?_
      refine c_put (fs' := [.ref (c + 1), .ref (c + 3), .ref (c + 8), .ref (c + 13), .ref (c + 14), .ref (c + 76), .ref (c + 79), .int (nI ((P.length) - (1))), .int (zI (optZ e)), .int (jb (V.isSome = true))]) hC kp_X9_48 dX9_undo_37 (a1) (by omega) (rfl) (rfl) rfl ?_
      have hk0 : kept M (jput (M) (c) (.inr (13, [.ref (c + 1), .ref (c + 3), .ref (c + 8), .ref (c + 13), .ref (c + 14), .ref (c + 76), .ref (c + 79), .int (nI ((P.length) - (1))), .int (zI (optZ e)), .int (jb (V.isSome = true))]))) (fun a => a = c) := fun a o ha hn => (jput_ne hn).trans ha
      have hz0 : sub Z (jput (M) (c) (.inr (13, [.ref (c + 1), .ref (c + 3), .ref (c + 8), .ref (c + 13), .ref (c + 14), .ref (c + 76), .ref (c + 79), .int (nI ((P.length) - (1))), .int (zI (optZ e)), .int (jb (V.isSome = true))]))).1 := kept.sub hk0 hz (fun a e9 => by rw [show a = c from e9]; exact za)
      have hS0b := hS0.up (Z' := Z) sub_refl hk0 (by omega) (by omega)
      have hSb := (hS.up (Z' := Z) sub_refl hk0 (by omega) (by omega)).X
      refine j_aload_n hC dX9_undo_40 rfl (jrf_ref _) ?_
      refine j_get (v := .ref (c + 3)) hC kf_X9_19 dX9_undo_41 (jput_at) (rfl) ?_
      refine j_aload_n hC dX9_undo_44 rfl (jrf_ref _) ?_
      refine j_get (v := .ref (c + 13)) hC kf_X9_26 dX9_undo_45 (jput_at) (rfl) ?_
      refine j_aload_n hC dX9_undo_48 rfl (jrf_ref _) ?_
      refine j_get (v := .int (nI ((P.length) - (1)))) hC kf_X9_48 dX9_undo_49 (jput_at) (rfl) ?_
      refine c_aald (i := (P.length) - (1)) (v := .ref (pa ((P.length) - (1)))) hC dX9_undo_52 ((jput_ne (by show (c + 13) ≠ (c); omega)).trans (p1)) rfl (by omega) (by omega) (rfl) ?_
      refine c_Pv (kc := 1) (ks := 6) hC kv_X9_352 dX9_undo_53 (m_X5_copyFrom (s := c + 3) (z := pa (P.length - 1)) hs9 hS0b hSb hz0 ⟨by omega, by omega, by omega⟩ (by omega) (by omega)) ((jput_ne (by show (c + 3) ≠ (c); omega)).trans (u1)) rfl rfl rfl rfl (by decide) (Nat.le_of_ble_eq_true rfl) ?_
      intro v9 M1 h9
      obtain ⟨rfl, f1, f2⟩ := h9
      obtain ⟨⟨lay', home', ff', xe', u1', -⟩, -⟩ := id f1
      refine j_aload_n hC dX9_undo_56 rfl (jrf_ref _) ?_
      refine j_get (v := .int (nI ((P.length) - (1)))) hC kf_X9_48 dX9_undo_57 ((f2 _ (by omega) (by omega)).trans (jput_at)) (rfl) ?_
      have hJ0 := h.fewer (P' := P.dropLast) (M' := jput (M) (c) (.inr (13, [.ref (c + 1), .ref (c + 3), .ref (c + 8), .ref (c + 13), .ref (c + 14), .ref (c + 76), .ref (c + 79), .int (nI ((P.length) - (1))), .int (zI (optZ e)), .int (jb (V.isSome = true))]))) (by rw [List.length_dropLast]; exact jput_at) (fun k S9 hk => by
        have hl : k < P.length - 1 := by
          by_cases h9 : k < P.length - 1
          · exact h9
          · rw [List.getElem?_eq_none (by rw [List.length_dropLast]; omega)] at hk; cases hk
        rw [List.getElem?_dropLast, if_pos hl] at hk
        exact hk) (by rw [List.length_dropLast]; omega) hk0
      have hk9 : kept (jput (M) (c) (.inr (13, [.ref (c + 1), .ref (c + 3), .ref (c + 8), .ref (c + 13), .ref (c + 14), .ref (c + 76), .ref (c + 79), .int (nI ((P.length) - (1))), .int (zI (optZ e)), .int (jb (V.isSome = true))]))) M1 (fun a => a = c + 3 ∨ a = c + 3 + 1) := fun a o ha hn => (f2 a (fun e9 => hn (Or.inl e9)) (fun e9 => hn (Or.inr e9))).trans ha
      have hJ9 := hJ0.set f1 zg_refl (kept.sub hk9 hz0 (fun a e9 => by rcases e9 with e9 | e9 <;> rw [e9] <;> assumption)) hk9
      have hkf : kept M M1 (fun a => a = v ∨ (c ≤ a ∧ a < c + 120)) := fun a o ha hn => hk9 _ _ (hk0 _ _ ha (fun (e9 : a = c) => hn (show _ ∨ _ from by omega))) (fun (e9 : a = c + 3 ∨ a = c + 3 + 1) => hn (show _ ∨ _ from by omega))
      exact j_iret hC9 rfl (rfl) dX9_undo_60 (cr_of (T' := (S0, P.dropLast, V, b, e, u)) (und_0 (T := (S, P, V, b, e, u)) hlast) (cQ_of hJ9 hkf zg_refl))
    · exact j_throwSW hC9 (i := 42) rfl kt_X9_80 rfl dX9_undo_19 dX9_undo_22 dX9_undo_23 dX9_undo_26 dX9_undo_29 (by decide) (by decide) (by decide) (Nat.le_of_ble_eq_true rfl) (fun n9 => cx_of (k := 0) (x := nI 0) (T' := (S, P, V, b, e, u)) (und_1 (T := (S, P, V, b, e, u)) (show P.length = 0 by omega)) rfl (cQ_same h rfl))
set_option maxHeartbeats 4000000 in
set_option maxRecDepth 100000 in
theorem m_X9_run {G : jG} {M : jM} {c v : Nat} {S : aSet} {P : List aSet} {V : Option aSet} {b : List Nat} {e : Option Nat} {u : Option aRun} {Z : jH}  (hs : (gL G).stackTraces = false) (h : cJ G M Z c v S P V b e u)  : JMet G jX9_run [.ref c] (M) 1 6 10 (COq G M Z c v opRun (S, P, V, b, e, u)) (COx G M Z c v (opRun) ["java/lang/IllegalStateException"] (S, P, V, b, e, u)) := by
  refine jMet_of [some (.ref (c))] (by decide) rfl (Nat.le_of_ble_eq_true rfl) (rfl) hs ?_
  intro C hC9 hG
  have hC := hC9.z
  have hs9 := jOK0_tr hC
  refine j_lt (fun hlt => ?_)
  have hBg : jB C = gB G := by rw [jB, hG]
  subst hG
  obtain ⟨⟨a1, za⟩, ⟨⟨cap, hbu⟩, zb1, zbv, hv, hb120, hbc⟩, ⟨hS, zs3, zs4⟩, ⟨hVX, zv8, zv9, hVs⟩, ⟨pa, hPa⟩, ⟨ho, zo, hon⟩, ⟨⟨dX, dk, dr, dl, dch, hd⟩, zd⟩, ⟨⟨od, hod⟩, zn79⟩, ⟨hz, hkr, hBc, ⟨mk, hmk⟩⟩, hP8, hE⟩ := id h
  obtain ⟨p1, zp13, p3, p4, p5, p6⟩ := id hPa
  obtain ⟨⟨mb, bu, hb1, hb2, hb3, hb4, hb5⟩, hb6, hb7⟩ := id hbu
  obtain ⟨⟨lay, home, ff, xe, u1, u2, u5, u3, u6, u7⟩, u4⟩ := id hS
  obtain ⟨ho1, ho2, ho3, ho4, ho5⟩ := id ho
  have hn20 : (sRecs S).length ≤ 20 := u4.1.1
  have hk32 : sKeys S < 32 := u4.1.2.1
  have hp3 : sPol S < 3 := u4.1.2.2.1
  have ho10 : sOut S < 1024 := u4.1.2.2.2.1
  have hl2 : sLim S ≤ 200 := u4.1.2.2.2.2.1.2
  have hl1 : 1 ≤ sLim S := u4.1.2.2.2.2.1.1
  have hmk9 := hlt _ _ hmk
  refine j_aload_n hC dX9_run_0 rfl (jrf_ref _) ?_
  refine j_get (v := .ref (c + 3)) hC kf_X9_19 dX9_run_1 (a1) (rfl) ?_
  refine j_get (v := .int (nI ((sRecs S).length))) hC kf_X9_59 dX9_run_4 (u1) (rfl) ?_
  refine n_if_ne (tgt := 21) hC dX9_run_7 (by decide) (by omega) (fun c1 => ?_) (fun c1 => ?_)
  · refine j_aload_n hC dX9_run_21 rfl (jrf_ref _) ?_
    refine j_get (v := .ref (c + 14)) hC kf_X9_33 dX9_run_22 (a1) (rfl) ?_
    refine j_aload_n hC dX9_run_25 rfl (jrf_ref _) ?_
    refine j_get (v := .ref (c + 3)) hC kf_X9_19 dX9_run_26 (a1) (rfl) ?_
    refine c_Pv (kc := 1) (ks := 6) hC kv_X9_289 dX9_run_29 (m_X3_makeFrom hs9 ho hS hz zo (by omega) (by omega)) (ho1) rfl rfl rfl rfl (by decide) (Nat.le_of_ble_eq_true rfl) ?_
    intro v9 M1 h9
    obtain ⟨rfl, f1, f2⟩ := h9
    refine j_aload_n hC dX9_run_32 rfl (jrf_ref _) ?_
    refine j_get (v := .ref (c + 14)) hC kf_X9_33 dX9_run_33 ((f2 _ (by omega)).trans (a1)) (rfl) ?_
    refine j_iconst (v := nI 0) hC dX9_run_36 (by decide) ?_
    refine c_V hC kv_X9_293 dX9_run_37 (m_X3_howMany (k := 0) hs9 f1 (by decide)) (f1.1) rfl rfl rfl rfl (by decide) (Nat.le_of_ble_eq_true rfl) ?_
    have hJ9 := h.ran f1 ⟨by rw [runL_len]; assumption, run_5 u4⟩ f2
    have hkf : kept M M1 (fun a => a = v ∨ (c ≤ a ∧ a < c + 120)) := fun a o ha hn => (f2 a (fun e9 => hn (show _ ∨ _ from by omega))).trans ha
    exact j_iret hC9 rfl (rfl) dX9_run_40 (cr_of (T' := (S, P, V, b, e, some (runL S))) (by rw [ran_let]; exact run_0 (T := (S, P, V, b, e, u)) (by assumption)) (cQ_of hJ9 hkf zg_refl))
  · exact j_throwSW hC9 (i := 33) rfl kt_X9_80 rfl dX9_run_10 dX9_run_13 dX9_run_14 dX9_run_17 dX9_run_20 (by decide) (by decide) (by decide) (Nat.le_of_ble_eq_true rfl) (fun n9 => cx_of (k := 0) (x := nI 0) (T' := (S, P, V, b, e, u)) (run_1 (T := (S, P, V, b, e, u)) (by assumption)) rfl (cQ_same h rfl))
set_option maxHeartbeats 4000000 in
set_option maxRecDepth 100000 in
theorem m_X9_preview {G : jG} {M : jM} {c v : Nat} {S : aSet} {P : List aSet} {V : Option aSet} {b : List Nat} {e : Option Nat} {u : Option aRun} {Z : jH} {q : Int32} (hs : (gL G).stackTraces = false) (h : cJ G M Z c v S P V b e u)  : JMet G jX9_preview [.ref c, .int q] (M) 1 6 9 (COq G M Z c v (opPreview q) (S, P, V, b, e, u)) (COx G M Z c v (opPreview q) ["java/lang/IndexOutOfBoundsException"] (S, P, V, b, e, u)) := by
  refine jMet_of [some (.ref (c)), some (.int (q))] (by decide) rfl (Nat.le_of_ble_eq_true rfl) (rfl) hs ?_
  intro C hC9 hG
  have hC := hC9.z
  have hs9 := jOK0_tr hC
  refine j_lt (fun hlt => ?_)
  have hBg : jB C = gB G := by rw [jB, hG]
  subst hG
  obtain ⟨⟨a1, za⟩, ⟨⟨cap, hbu⟩, zb1, zbv, hv, hb120, hbc⟩, ⟨hS, zs3, zs4⟩, ⟨hVX, zv8, zv9, hVs⟩, ⟨pa, hPa⟩, ⟨ho, zo, hon⟩, ⟨⟨dX, dk, dr, dl, dch, hd⟩, zd⟩, ⟨⟨od, hod⟩, zn79⟩, ⟨hz, hkr, hBc, ⟨mk, hmk⟩⟩, hP8, hE⟩ := id h
  obtain ⟨p1, zp13, p3, p4, p5, p6⟩ := id hPa
  obtain ⟨⟨mb, bu, hb1, hb2, hb3, hb4, hb5⟩, hb6, hb7⟩ := id hbu
  obtain ⟨⟨lay, home, ff, xe, u1, u2, u5, u3, u6, u7⟩, u4⟩ := id hS
  obtain ⟨ho1, ho2, ho3, ho4, ho5⟩ := id ho
  have hn20 : (sRecs S).length ≤ 20 := u4.1.1
  have hk32 : sKeys S < 32 := u4.1.2.1
  have hp3 : sPol S < 3 := u4.1.2.2.1
  have ho10 : sOut S < 1024 := u4.1.2.2.2.1
  have hl2 : sLim S ≤ 200 := u4.1.2.2.2.2.1.2
  have hl1 : 1 ≤ sLim S := u4.1.2.2.2.2.1.1
  have hmk9 := hlt _ _ hmk
  refine j_aload_n hC dX9_preview_0 rfl (jrf_ref _) ?_
  refine j_get (v := .ref (c + 76)) hC kf_X9_40 dX9_preview_1 (a1) (rfl) ?_
  refine j_aload_n hC dX9_preview_4 rfl (jrf_ref _) ?_
  refine j_get (v := .ref (c + 3)) hC kf_X9_19 dX9_preview_5 (a1) (rfl) ?_
  refine j_aload_n hC dX9_preview_8 rfl (jrf_ref _) ?_
  refine j_iload_n hC dX9_preview_9 rfl ?_
  refine c_Tv (kc := 0) (ks := 0) hC9 rfl kv_X9_112 dX9_preview_10 (m_X9_existing (r := q) hs9 h) (a1) rfl rfl rfl rfl (by decide) (Nat.le_of_ble_eq_true rfl) (fun E9 M9 hx9 => ?_) ?_
  · obtain ⟨rfl, e9, hno⟩ := hx9
    exact cx_of (k := 0) (x := nI 0) (T' := (S, P, V, b, e, u)) (prv_1 hno) rfl (cQ_same h e9)
  intro v9 M1 h9
  obtain ⟨i, rfl, hi, e9, p, rfl, ep⟩ := h9
  refine j_M e9 ?_
  clear e9
  obtain ⟨bp, op⟩ := ep.obj
  refine c_Pv (kc := 0) (ks := 0) hC kv_X9_337 dX9_preview_13 (m_X6_write hs9 hd hS ep hz zd ⟨by omega, by omega, by omega, by omega, by omega, by omega⟩ (by omega)) (hd.1) rfl rfl rfl rfl (by decide) (Nat.le_of_ble_eq_true rfl) ?_
  intro v9 M1 h9
  obtain ⟨rfl, X9, k9, lim9, ch9, f1, g1, g2, g3, f2⟩ := h9
  obtain ⟨s4, ⟨g9, s5, s6⟩, s7, s8⟩ := id f1
  have hlb := ltr_b u4 hi
  refine j_aload_n hC dX9_preview_16 rfl (jrf_ref _) ?_
  refine j_get (v := .ref (c + 76)) hC kf_X9_40 dX9_preview_17 ((f2 _ (by omega) (by omega) (by omega)).trans (a1)) (rfl) ?_
  refine j_get (v := .int (nI ((ltrA S i).1))) hC kf_X9_300 dX9_preview_20 (s4) (rfl) ?_
  refine n_if_ne (tgt := 36) hC dX9_preview_23 (by decide) (by omega) (fun c1 => ?_) (fun c1 => ?_)
  · refine j_aload_n hC dX9_preview_36 rfl (jrf_ref _) ?_
    refine j_get (v := .ref (c + 76)) hC kf_X9_40 dX9_preview_37 ((f2 _ (by omega) (by omega) (by omega)).trans (a1)) (rfl) ?_
    refine j_get (v := .int (nI ((ltrA S i).1))) hC kf_X9_300 dX9_preview_40 (s4) (rfl) ?_
    refine z_ineg (a := (((ltrA S i).1 : Nat) : Int)) hC dX9_preview_43 ?_
    have hJ9 := h.dra ⟨_, _, _, _, _, f1⟩ f2
    have hkf : kept M M1 (fun a => a = v ∨ (c ≤ a ∧ a < c + 120)) := fun a o ha hn => (f2 a (fun e9 => hn (show _ ∨ _ from by omega)) (fun e9 => hn (show _ ∨ _ from by omega)) (fun e9 => hn (show _ ∨ _ from by omega))).trans ha
    exact j_iret hC9 rfl (rfl) dX9_preview_44 (cr_of (T' := (S, P, V, b, e, u)) (prv_n (T := (S, P, V, b, e, u)) hi hn20 (by assumption)) (cQ_of hJ9 hkf zg_refl))
  · refine j_aload_n hC dX9_preview_26 rfl (jrf_ref _) ?_
    refine j_get (v := .ref (c + 76)) hC kf_X9_40 dX9_preview_27 ((f2 _ (by omega) (by omega) (by omega)).trans (a1)) (rfl) ?_
    refine j_get (v := .int (nI (X9.1.length))) hC kf_X9_313 dX9_preview_30 (s4) (rfl) ?_
    refine j_goto (tgt := 44) hC dX9_preview_33 (by decide) ?_
    have hJ9 := h.dra ⟨_, _, _, _, _, f1⟩ f2
    have hkf : kept M M1 (fun a => a = v ∨ (c ≤ a ∧ a < c + 120)) := fun a o ha hn => (f2 a (fun e9 => hn (show _ ∨ _ from by omega)) (fun e9 => hn (show _ ∨ _ from by omega)) (fun e9 => hn (show _ ∨ _ from by omega))).trans ha
    exact j_iret hC9 rfl (rfl) dX9_preview_44 (cr_of (T' := (S, P, V, b, e, u)) (by rw [g2 (by assumption)]; exact prv_0 (T := (S, P, V, b, e, u)) hi hn20 (by assumption)) (cQ_of hJ9 hkf zg_refl))
