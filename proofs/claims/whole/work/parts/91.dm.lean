/-! ===== the merger: means, order, counts ===== -/
def COdq (G : jG) (M : jM) (Z : jH) (c v : Nat) (op : aSt → Nat × Value) (T : aSt) : Option Value → jM → Prop := fun w M' => (op T).1 = 0 ∧ w = some (op T).2 ∧ cQ G M Z c v T M'
def COdx (G : jG) (M : jM) (Z : jH) (c v : Nat) (op : aSt → Nat × Value) (thr : List String) (T : aSt) : String → jM → Prop := fun E M' => ∃ k, (op T).1 = k + 1 ∧ thr[k]? = some E ∧ cQ G M Z c v T M'
theorem cdr_of {G : jG} {M M' : jM} {Z : jH} {c v : Nat} {op : aSt → Nat × Value} {T : aSt} {x : Value} (e : op T = (0, x)) (h : cQ G M Z c v T M') : COdq G M Z c v op T (some x) M' := ⟨by rw [e], by rw [e], h⟩
theorem cdx_of {G : jG} {M M' : jM} {Z : jH} {c v k : Nat} {op : aSt → Nat × Value} {T : aSt} {x : Value} {thr : List String} {E : String} (e : op T = (k + 1, x)) (ht : thr[k]? = some E) (h : cQ G M Z c v T M') : COdx G M Z c v op thr T E M' := ⟨k, by rw [e], ht, h⟩
set_option maxHeartbeats 4000000 in
set_option maxRecDepth 100000 in
theorem m_X9_meanLength {G : jG} {M : jM} {c v : Nat} {S : aSet} {P : List aSet} {V : Option aSet} {b : List Nat} {e : Option Nat} {u : Option aRun} {Z : jH}  (hs : (gL G).stackTraces = false) (h : cJ G M Z c v S P V b e u)  : JMet G jX9_meanLength [.ref c] (M) 2 12 7 (COdq G M Z c v opMean (S, P, V, b, e, u)) (COdx G M Z c v opMean ["java/lang/IllegalStateException", "java/lang/ArithmeticException"] (S, P, V, b, e, u)) := by
  refine jMet_of [some (.ref (c)), none] (by decide) rfl (Nat.le_of_ble_eq_true rfl) (rfl) hs ?_
  intro C hC9 hG
  have hC := hC9.z
  have hs9 := jOK0_tr hC
  refine j_lt (fun hlt => ?_)
  have hBg : jB C = gB G := by rw [jB, hG]
  subst hG
  obtain ⟨⟨a1, za⟩, ⟨⟨cap, hbu⟩, zb1, zbv, hv, hb120, hbc⟩, ⟨hS, zs3, zs4⟩, ⟨hVX, zv8, zv9, hVs⟩, ⟨pa, hPa⟩, ⟨ho, zo, hon⟩, ⟨⟨dX, dk, dr, dl, dch, hd⟩, zd⟩, ⟨⟨od, hod⟩, zn79⟩, ⟨hz, hkr, hBc, ⟨mk, hmk⟩⟩, hP8, hE⟩ := id h
  obtain ⟨p1, zp13, p3, p4, p5, p6⟩ := id hPa
  obtain ⟨⟨mb, bu, hb1, hb2, hb3, hb4, hb5⟩, hb6, hb7⟩ := id hbu
  obtain ⟨⟨lay, home, ff, xe, u1, u2, u5, u3, u6, u7⟩, u4⟩ := id hS
  obtain ⟨ho1, ho2, ho3, ho4, ho5⟩ := id ho
  have hn20 : (sRecs S).length ≤ 20 := u4.1.1
  have hk32 : sKeys S < 32 := u4.1.2.1
  have hp3 : sPol S < 3 := u4.1.2.2.1
  have ho10 : sOut S < 1024 := u4.1.2.2.2.1
  have hl2 : sLim S ≤ 200 := u4.1.2.2.2.2.1.2
  have hl1 : 1 ≤ sLim S := u4.1.2.2.2.2.1.1
  have hmk9 := hlt _ _ hmk
  refine j_aload_n hC dX9_meanLength_0 rfl (jrf_ref _) ?_
  refine c_Tv (kc := 1) (ks := 6) hC9 rfl kv_X9_303 dX9_meanLength_1 (m_X9_checkRun hs9 h) (a1) rfl rfl rfl rfl (by decide) (Nat.le_of_ble_eq_true rfl) (fun E9 M9 hx9 => ?_) ?_
  · obtain ⟨rfl, e9, hno⟩ := hx9
    exact cdx_of (k := 0) (x := .double FP.dconst0) (T := (S, P, V, b, e, u)) (mea_1 (T := (S, P, V, b, e, u)) hno) rfl (cQ_same h e9)
  intro v9 M1 h9
  obtain ⟨rfl, e9, L, rfl⟩ := h9
  refine j_M e9 ?_
  clear e9
  have hoL : outR M.1 (c + 14) L := ho
  have hL20 : L.length ≤ 20 := ho3
  have hrn := ranN_le (L := L) (n := 0)
  have hsm := sumL_le (L := L) (fun r hr => (ho4 r hr).2.2.1) L.length (Nat.le_refl _)
  refine j_aload_n hC dX9_meanLength_4 rfl (jrf_ref _) ?_
  refine j_get (v := .ref (c + 14)) hC kf_X9_33 dX9_meanLength_5 (a1) (rfl) ?_
  refine j_iconst (v := nI 0) hC dX9_meanLength_8 (by decide) ?_
  refine c_V hC kv_X9_293 dX9_meanLength_9 (m_X3_howMany (k := 0) hs9 hoL (by omega)) (ho1) rfl rfl rfl rfl (by decide) (Nat.le_of_ble_eq_true rfl) ?_
  refine j_istore_n1 hC dX9_meanLength_12 (by decide) rfl ?_
  refine j_iload_n hC dX9_meanLength_13 rfl ?_
  refine n_if_ne (tgt := 28) hC dX9_meanLength_14 (by decide) (by omega) (fun c1 => ?_) (fun c1 => ?_)
  · refine j_aload_n hC dX9_meanLength_28 rfl (jrf_ref _) ?_
    refine j_get (v := .ref (c + 14)) hC kf_X9_33 dX9_meanLength_29 (a1) (rfl) ?_
    refine c_V hC kv_X9_346 dX9_meanLength_32 (m_X3_totalLength hs9 hoL) (ho1) rfl rfl rfl rfl (by decide) (Nat.le_of_ble_eq_true rfl) ?_
    refine j_i2d hC dX9_meanLength_35 ?_
    refine j_iload_n hC dX9_meanLength_36 rfl ?_
    refine j_i2d hC dX9_meanLength_37 ?_
    refine j_ddiv hC dX9_meanLength_38 (dd_n (by omega) (by omega) (by assumption)) ?_
    exact j_dret hC9 rfl dX9_meanLength_39 (cdr_of (T := (S, P, V, b, e, some L)) (mea_0 (T := (S, P, V, b, e, some L)) rfl (by assumption) rfl) (cQ_same h rfl))
  · exact j_throwSW hC9 (i := 41) rfl kt_X9_341 rfl dX9_meanLength_17 dX9_meanLength_20 dX9_meanLength_21 dX9_meanLength_24 dX9_meanLength_27 (by decide) (by decide) (by decide) (Nat.le_of_ble_eq_true rfl) (fun n9 => cdx_of (k := 1) (x := .double FP.dconst0) (T := (S, P, V, b, e, some L)) (mea_2 (T := (S, P, V, b, e, some L)) rfl (by assumption)) rfl (cQ_same h rfl))
set_option maxHeartbeats 4000000 in
set_option maxRecDepth 100000 in
theorem m_X9_share {G : jG} {M : jM} {c v : Nat} {S : aSet} {P : List aSet} {V : Option aSet} {b : List Nat} {e : Option Nat} {u : Option aRun} {Z : jH}  (hs : (gL G).stackTraces = false) (h : cJ G M Z c v S P V b e u)  : JMet G jX9_share [.ref c] (M) 1 6 7 (COdq G M Z c v opShare (S, P, V, b, e, u)) (COdx G M Z c v opShare ["java/lang/IllegalStateException"] (S, P, V, b, e, u)) := by
  refine jMet_of [some (.ref (c))] (by decide) rfl (Nat.le_of_ble_eq_true rfl) (rfl) hs ?_
  intro C hC9 hG
  have hC := hC9.z
  have hs9 := jOK0_tr hC
  refine j_lt (fun hlt => ?_)
  have hBg : jB C = gB G := by rw [jB, hG]
  subst hG
  obtain ⟨⟨a1, za⟩, ⟨⟨cap, hbu⟩, zb1, zbv, hv, hb120, hbc⟩, ⟨hS, zs3, zs4⟩, ⟨hVX, zv8, zv9, hVs⟩, ⟨pa, hPa⟩, ⟨ho, zo, hon⟩, ⟨⟨dX, dk, dr, dl, dch, hd⟩, zd⟩, ⟨⟨od, hod⟩, zn79⟩, ⟨hz, hkr, hBc, ⟨mk, hmk⟩⟩, hP8, hE⟩ := id h
  obtain ⟨p1, zp13, p3, p4, p5, p6⟩ := id hPa
  obtain ⟨⟨mb, bu, hb1, hb2, hb3, hb4, hb5⟩, hb6, hb7⟩ := id hbu
  obtain ⟨⟨lay, home, ff, xe, u1, u2, u5, u3, u6, u7⟩, u4⟩ := id hS
  obtain ⟨ho1, ho2, ho3, ho4, ho5⟩ := id ho
  have hn20 : (sRecs S).length ≤ 20 := u4.1.1
  have hk32 : sKeys S < 32 := u4.1.2.1
  have hp3 : sPol S < 3 := u4.1.2.2.1
  have ho10 : sOut S < 1024 := u4.1.2.2.2.1
  have hl2 : sLim S ≤ 200 := u4.1.2.2.2.2.1.2
  have hl1 : 1 ≤ sLim S := u4.1.2.2.2.2.1.1
  have hmk9 := hlt _ _ hmk
  refine j_aload_n hC dX9_share_0 rfl (jrf_ref _) ?_
  refine c_Tv (kc := 0) (ks := 0) hC9 rfl kv_X9_303 dX9_share_1 (m_X9_checkRun hs9 h) (a1) rfl rfl rfl rfl (by decide) (Nat.le_of_ble_eq_true rfl) (fun E9 M9 hx9 => ?_) ?_
  · obtain ⟨rfl, e9, hno⟩ := hx9
    exact cdx_of (k := 0) (x := .float FP.fconst0) (T := (S, P, V, b, e, u)) (shr_1 (T := (S, P, V, b, e, u)) hno) rfl (cQ_same h e9)
  intro v9 M1 h9
  obtain ⟨rfl, e9, L, rfl⟩ := h9
  refine j_M e9 ?_
  clear e9
  have hoL : outR M.1 (c + 14) L := ho
  have hL20 : L.length ≤ 20 := ho3
  have hrn := ranN_le (L := L) (n := 0)
  have hsm := sumL_le (L := L) (fun r hr => (ho4 r hr).2.2.1) L.length (Nat.le_refl _)
  refine j_aload_n hC dX9_share_4 rfl (jrf_ref _) ?_
  refine j_get (v := .ref (c + 14)) hC kf_X9_33 dX9_share_5 (a1) (rfl) ?_
  refine j_iconst (v := nI 0) hC dX9_share_8 (by decide) ?_
  refine c_V hC kv_X9_293 dX9_share_9 (m_X3_howMany (k := 0) hs9 hoL (by omega)) (ho1) rfl rfl rfl rfl (by decide) (Nat.le_of_ble_eq_true rfl) ?_
  refine j_i2f hC dX9_share_12 ?_
  refine j_aload_n hC dX9_share_13 rfl (jrf_ref _) ?_
  refine j_get (v := .ref (c + 14)) hC kf_X9_33 dX9_share_14 (a1) (rfl) ?_
  refine j_get (v := .int (nI (L.length))) hC kf_X9_349 dX9_share_17 (hoL.1) (rfl) ?_
  refine j_i2f hC dX9_share_20 ?_
  refine j_fdiv hC dX9_share_21 (fd_n (by omega) (by omega) (hon L rfl).1) ?_
  exact j_fret hC9 rfl dX9_share_22 (cdr_of (T := (S, P, V, b, e, some L)) (shr_0 (T := (S, P, V, b, e, some L)) rfl) (cQ_same h rfl))
theorem rsn_iff {S : aSet} {n p p' : Nat} (hS : setG S) (hn : n < (sRecs S).length) : (rsnA S n p false = rsnA S n p' true) ↔ ((optZ (keptC S n p false) = (n : Int)) ↔ (optZ (keptC S n p' true) = (n : Int))) := by
  by_cases ho : outA S (sAt S n) = true
  · have e1 : keptC S n p false = some n := if_pos (Or.inr ho)
    have e2 : keptC S n p' true = some n := if_pos (Or.inr ho)
    rw [rn_1 ho, rn_1 ho, e1, e2]
    exact ⟨fun _ => Iff.rfl, fun _ => rfl⟩
  · rw [keptC_A ho hn, keptC_A ho hn]
    have hb := (ltr_b hS hn).2.2.2
    by_cases h1 : optZ (keptA S n p false) = (n : Int) <;> by_cases h2 : optZ (keptA S n p' true) = (n : Int)
    · rw [rn_m ho h1, rn_m ho h2]
      exact ⟨fun _ => ⟨fun _ => h2, fun _ => h1⟩, fun _ => rfl⟩
    · rw [rn_m ho h1, rn_2 ho h2]
      exact ⟨fun e => by have := hb (by omega); omega, fun e => absurd (e.mp h1) h2⟩
    · rw [rn_2 ho h1, rn_m ho h2]
      exact ⟨fun e => by have := hb (by omega); omega, fun e => absurd (e.mpr h2) h1⟩
    · rw [rn_2 ho h1, rn_2 ho h2]
      exact ⟨fun _ => ⟨fun e => absurd e h1, fun e => absurd e h2⟩, fun _ => rfl⟩
theorem jb_iff9 {p q : Prop} [Decidable p] [Decidable q] : jb p = jb q ↔ (p ↔ q) := by
  by_cases hp : p <;> by_cases hq : q <;> simp [jb, hp, hq] <;> decide
theorem ord_no {S : aSet} {n : Nat} (h : ¬ ordB S n = true) : ∀ m, n ≤ m → ¬ ordB S m = true
  | 0, hm => by rw [show n = 0 by omega] at h; exact h
  | m + 1, hm => by
    by_cases e : n = m + 1
    · rw [← e]; exact h
    · exact ord_f (Or.inl (ord_no h m (by omega)))
set_option maxHeartbeats 4000000 in
set_option maxRecDepth 100000 in
theorem m_X9_isOrderFree {G : jG} {M : jM} {c v : Nat} {S : aSet} {P : List aSet} {V : Option aSet} {b : List Nat} {e : Option Nat} {u : Option aRun} {Z : jH}  (hs : (gL G).stackTraces = false) (h : cJ G M Z c v S P V b e u)  : JMet G jX9_isOrderFree [.ref c] (M) 0 0 8 (COq G M Z c v opFree (S, P, V, b, e, u)) jNo := by
  refine jMet_of [some (.ref (c)), none, none, none, none] (by decide) rfl (Nat.le_of_ble_eq_true rfl) (rfl) hs ?_
  intro C hC9 hG
  have hC := hC9.z
  have hs9 := jOK0_tr hC
  refine j_lt (fun hlt => ?_)
  have hBg : jB C = gB G := by rw [jB, hG]
  subst hG
  obtain ⟨⟨a1, za⟩, ⟨⟨cap, hbu⟩, zb1, zbv, hv, hb120, hbc⟩, ⟨hS, zs3, zs4⟩, ⟨hVX, zv8, zv9, hVs⟩, ⟨pa, hPa⟩, ⟨ho, zo, hon⟩, ⟨⟨dX, dk, dr, dl, dch, hd⟩, zd⟩, ⟨⟨od, hod⟩, zn79⟩, ⟨hz, hkr, hBc, ⟨mk, hmk⟩⟩, hP8, hE⟩ := id h
  obtain ⟨p1, zp13, p3, p4, p5, p6⟩ := id hPa
  obtain ⟨⟨mb, bu, hb1, hb2, hb3, hb4, hb5⟩, hb6, hb7⟩ := id hbu
  obtain ⟨⟨lay, home, ff, xe, u1, u2, u5, u3, u6, u7⟩, u4⟩ := id hS
  obtain ⟨ho1, ho2, ho3, ho4, ho5⟩ := id ho
  have hn20 : (sRecs S).length ≤ 20 := u4.1.1
  have hk32 : sKeys S < 32 := u4.1.2.1
  have hp3 : sPol S < 3 := u4.1.2.2.1
  have ho10 : sOut S < 1024 := u4.1.2.2.2.1
  have hl2 : sLim S ≤ 200 := u4.1.2.2.2.2.1.2
  have hl1 : 1 ≤ sLim S := u4.1.2.2.2.2.1.1
  have hmk9 := hlt _ _ hmk
  refine j_aload_n hC dX9_isOrderFree_0 rfl (jrf_ref _) ?_
  refine j_get (v := .ref (c + 3)) hC kf_X9_19 dX9_isOrderFree_1 (a1) (rfl) ?_
  refine j_get (v := .int (nI (sPol S))) hC kf_X9_269 dX9_isOrderFree_4 (u1) (rfl) ?_
  refine j_istore_n1 hC dX9_isOrderFree_7 (by decide) rfl ?_
  refine j_aload_n hC dX9_isOrderFree_8 rfl (jrf_ref _) ?_
  refine j_get (v := .ref (c + 3)) hC kf_X9_19 dX9_isOrderFree_9 (a1) (rfl) ?_
  refine j_get (v := .int (nI (sPol S))) hC kf_X9_269 dX9_isOrderFree_12 (u1) (rfl) ?_
  refine n_if_ne (tgt := 23) hC dX9_isOrderFree_15 (by decide) (by omega) (fun c1 => ?_) (fun c1 => ?_)
  · refine j_aload_n hC dX9_isOrderFree_23 rfl (jrf_ref _) ?_
    refine j_get (v := .ref (c + 3)) hC kf_X9_19 dX9_isOrderFree_24 (a1) (rfl) ?_
    refine j_get (v := .int (nI (sPol S))) hC kf_X9_269 dX9_isOrderFree_27 (u1) (rfl) ?_
    refine j_iconst (v := nI 1) hC dX9_isOrderFree_30 (by decide) ?_
    refine n_icmp_ne (tgt := 36) hC dX9_isOrderFree_31 (by decide) (by omega) (by omega) (fun c2 => ?_) (fun c2 => ?_)
    · refine j_iconst (v := nI 0) hC dX9_isOrderFree_36 (by decide) ?_
      refine j_istore_n2 hC dX9_isOrderFree_37 (by decide) rfl ?_
      have hoth : othP (sPol S) = sPol S := by unfold othP; split <;> omega
      suffices K : ∀ (n9 : Nat) (i : Nat), (sRecs S).length - i < n9 → (i ≤ (sRecs S).length) → (ordB S i = true) → J C (M) 0 0 38 [some (.ref (c)), some (.int (nI (sPol S))), some (.int (nI (i))), none, none] [] from j_M (rfl) (K _ (0) (Nat.lt_succ_self _) (Nat.zero_le _) (rfl))
      intro n9
      induction n9 with
      | zero => intro i hm; omega
      | succ n9 ih =>
        intro i hm hi ho9
        refine j_iload_n hC dX9_isOrderFree_38 rfl ?_
        refine j_aload_n hC dX9_isOrderFree_39 rfl (jrf_ref _) ?_
        refine j_get (v := .ref (c + 3)) hC kf_X9_19 dX9_isOrderFree_40 (a1) (rfl) ?_
        refine j_get (v := .int (nI ((sRecs S).length))) hC kf_X9_59 dX9_isOrderFree_43 (u1) (rfl) ?_
        refine n_icmp_ge (tgt := 110) hC dX9_isOrderFree_46 (by decide) (by omega) (by omega) (fun c3 => ?_) (fun c3 => ?_)
        · refine j_iconst (v := nI 1) hC dX9_isOrderFree_110 (by decide) ?_
          exact j_iret hC9 rfl (rfl) dX9_isOrderFree_111 (cr_of (T' := (S, P, V, b, e, u)) (show opFree (S, P, V, b, e, u) = _ by unfold opFree; rw [show (sRecs (tSet (S, P, V, b, e, u))).length = i from (show (sRecs S).length = i by omega), show jb (ordB (tSet (S, P, V, b, e, u)) i = true) = nI 1 from (jb_t1 ho9).symm]) (cQ_same h rfl))
        · have hz1 := optZ_zB (x := keptC S i (sPol S) false) (n := 20) (fun m hm => keptC_lt (by omega) hn20 hm)
          have hz2 := optZ_zB (x := keptC S i (sPol S) true) (n := 20) (fun m hm => keptC_lt (by omega) hn20 hm)
          suffices K : J C (M) 0 0 74 [some (.ref (c)), some (.int (nI (sPol S))), some (.int (nI (i))), none, none] [.int (jb (optZ (keptC S i (sPol S) false) = (i : Int)))] by
            refine j_aload_n hC dX9_isOrderFree_49 rfl (jrf_ref _) ?_
            refine j_get (v := .ref (c + 3)) hC kf_X9_19 dX9_isOrderFree_50 (a1) (rfl) ?_
            refine j_iload_n hC dX9_isOrderFree_53 rfl ?_
            refine j_aload_n hC dX9_isOrderFree_54 rfl (jrf_ref _) ?_
            refine j_get (v := .ref (c + 3)) hC kf_X9_19 dX9_isOrderFree_55 (a1) (rfl) ?_
            refine j_get (v := .int (nI (sPol S))) hC kf_X9_269 dX9_isOrderFree_58 (u1) (rfl) ?_
            refine j_iconst (v := nI 0) hC dX9_isOrderFree_61 (by decide) ?_
            refine c_V hC kv_X9_333 dX9_isOrderFree_62 (m_X5_keptOf (r := i) (p := sPol S) (b := false) hs9 (hS.mono hz) (by omega) (by omega)) (u1) rfl rfl rfl rfl (by decide) (Nat.le_of_ble_eq_true rfl) ?_
            refine j_iload_n hC dX9_isOrderFree_65 rfl ?_
            refine z_icmp_ne (a := (optZ (keptC S i (sPol S) false))) (b := ((i : Nat) : Int)) (tgt := 73) hC dX9_isOrderFree_66 (by decide) (by unfold zB; omega) (by unfold zB; omega) (fun c4 => ?_) (fun c4 => ?_)
            · refine j_iconst (v := nI 0) hC dX9_isOrderFree_73 (by decide) ?_
              exact j_top (jb_f0 (by omega)) K
            · refine j_iconst (v := nI 1) hC dX9_isOrderFree_69 (by decide) ?_
              refine j_goto (tgt := 74) hC dX9_isOrderFree_70 (by decide) ?_
              exact j_top (jb_t1 (by omega)) K
          refine j_istore_n3 hC dX9_isOrderFree_74 (by decide) rfl ?_
          suffices K : J C (M) 0 0 94 [some (.ref (c)), some (.int (nI (sPol S))), some (.int (nI (i))), some (.int (jb (optZ (keptC S i (sPol S) false) = (i : Int)))), none] [.int (jb (optZ (keptC S i (sPol S) true) = (i : Int)))] by
            refine j_aload_n hC dX9_isOrderFree_75 rfl (jrf_ref _) ?_
            refine j_get (v := .ref (c + 3)) hC kf_X9_19 dX9_isOrderFree_76 (a1) (rfl) ?_
            refine j_iload_n hC dX9_isOrderFree_79 rfl ?_
            refine j_iload_n hC dX9_isOrderFree_80 rfl ?_
            refine j_iconst (v := nI 1) hC dX9_isOrderFree_81 (by decide) ?_
            refine c_V hC kv_X9_333 dX9_isOrderFree_82 (m_X5_keptOf (r := i) (p := sPol S) (b := true) hs9 (hS.mono hz) (by omega) (by omega)) (u1) rfl rfl rfl rfl (by decide) (Nat.le_of_ble_eq_true rfl) ?_
            refine j_iload_n hC dX9_isOrderFree_85 rfl ?_
            refine z_icmp_ne (a := (optZ (keptC S i (sPol S) true))) (b := ((i : Nat) : Int)) (tgt := 93) hC dX9_isOrderFree_86 (by decide) (by unfold zB; omega) (by unfold zB; omega) (fun c5 => ?_) (fun c5 => ?_)
            · refine j_iconst (v := nI 0) hC dX9_isOrderFree_93 (by decide) ?_
              exact j_top (jb_f0 (by omega)) K
            · refine j_iconst (v := nI 1) hC dX9_isOrderFree_89 (by decide) ?_
              refine j_goto (tgt := 94) hC dX9_isOrderFree_90 (by decide) ?_
              exact j_top (jb_t1 (by omega)) K
          refine j_istore_4 hC dX9_isOrderFree_94 (by decide) rfl ?_
          refine j_iload_n hC dX9_isOrderFree_96 rfl ?_
          refine j_iload hC dX9_isOrderFree_97 rfl ?_
          refine j_icmp_eq (tgt := 104) hC dX9_isOrderFree_99 (by decide) (fun c6 => ?_) (fun c6 => ?_)
          · refine j_iinc_2 (v := nI (i + 1)) hC dX9_isOrderFree_104 (nI_add _ _) (by decide) rfl ?_
            refine j_goto (tgt := 38) hC dX9_isOrderFree_107 (by decide) ?_
            exact j_M (rfl) (j_L (jle_s (jle_s (jle_s (jle_n (jle_n (jle_0)))))) (ih (i + 1) (by omega) (by omega) (ord_t ho9 (by rw [hoth]; exact (rsn_iff u4 (by omega)).mpr (jb_iff9.mp (by assumption))))))
          · refine j_iconst (v := nI 0) hC dX9_isOrderFree_102 (by decide) ?_
            exact j_iret hC9 rfl (rfl) dX9_isOrderFree_103 (cr_of (T' := (S, P, V, b, e, u)) (show opFree (S, P, V, b, e, u) = _ from congrArg (fun x => ((0, x, (S, P, V, b, e, u)) : aAns)) (jb_f0 (ord_no (ord_f (Or.inr (by rw [hoth]; exact fun e8 => absurd (jb_iff9.mpr ((rsn_iff u4 (by omega)).mp e8)) (by assumption)))) _ (show i + 1 ≤ (sRecs S).length by omega))).symm) (cQ_same h rfl))
    · refine j_iconst (v := nI 0) hC dX9_isOrderFree_34 (by decide) ?_
      refine j_istore_n1 hC dX9_isOrderFree_35 (by decide) rfl ?_
      refine j_iconst (v := nI 0) hC dX9_isOrderFree_36 (by decide) ?_
      refine j_istore_n2 hC dX9_isOrderFree_37 (by decide) rfl ?_
      have hoth : othP (sPol S) = 0 := by unfold othP; split <;> omega
      suffices K : ∀ (n9 : Nat) (i : Nat), (sRecs S).length - i < n9 → (i ≤ (sRecs S).length) → (ordB S i = true) → J C (M) 0 0 38 [some (.ref (c)), some (.int (nI (0))), some (.int (nI (i))), none, none] [] from j_M (rfl) (K _ (0) (Nat.lt_succ_self _) (Nat.zero_le _) (rfl))
      intro n9
      induction n9 with
      | zero => intro i hm; omega
      | succ n9 ih =>
        intro i hm hi ho9
        refine j_iload_n hC dX9_isOrderFree_38 rfl ?_
        refine j_aload_n hC dX9_isOrderFree_39 rfl (jrf_ref _) ?_
        refine j_get (v := .ref (c + 3)) hC kf_X9_19 dX9_isOrderFree_40 (a1) (rfl) ?_
        refine j_get (v := .int (nI ((sRecs S).length))) hC kf_X9_59 dX9_isOrderFree_43 (u1) (rfl) ?_
        refine n_icmp_ge (tgt := 110) hC dX9_isOrderFree_46 (by decide) (by omega) (by omega) (fun c7 => ?_) (fun c7 => ?_)
        · refine j_iconst (v := nI 1) hC dX9_isOrderFree_110 (by decide) ?_
          exact j_iret hC9 rfl (rfl) dX9_isOrderFree_111 (cr_of (T' := (S, P, V, b, e, u)) (show opFree (S, P, V, b, e, u) = _ by unfold opFree; rw [show (sRecs (tSet (S, P, V, b, e, u))).length = i from (show (sRecs S).length = i by omega), show jb (ordB (tSet (S, P, V, b, e, u)) i = true) = nI 1 from (jb_t1 ho9).symm]) (cQ_same h rfl))
        · have hz1 := optZ_zB (x := keptC S i (sPol S) false) (n := 20) (fun m hm => keptC_lt (by omega) hn20 hm)
          have hz2 := optZ_zB (x := keptC S i (0) true) (n := 20) (fun m hm => keptC_lt (by omega) hn20 hm)
          suffices K : J C (M) 0 0 74 [some (.ref (c)), some (.int (nI (0))), some (.int (nI (i))), none, none] [.int (jb (optZ (keptC S i (sPol S) false) = (i : Int)))] by
            refine j_aload_n hC dX9_isOrderFree_49 rfl (jrf_ref _) ?_
            refine j_get (v := .ref (c + 3)) hC kf_X9_19 dX9_isOrderFree_50 (a1) (rfl) ?_
            refine j_iload_n hC dX9_isOrderFree_53 rfl ?_
            refine j_aload_n hC dX9_isOrderFree_54 rfl (jrf_ref _) ?_
            refine j_get (v := .ref (c + 3)) hC kf_X9_19 dX9_isOrderFree_55 (a1) (rfl) ?_
            refine j_get (v := .int (nI (sPol S))) hC kf_X9_269 dX9_isOrderFree_58 (u1) (rfl) ?_
            refine j_iconst (v := nI 0) hC dX9_isOrderFree_61 (by decide) ?_
            refine c_V hC kv_X9_333 dX9_isOrderFree_62 (m_X5_keptOf (r := i) (p := sPol S) (b := false) hs9 (hS.mono hz) (by omega) (by omega)) (u1) rfl rfl rfl rfl (by decide) (Nat.le_of_ble_eq_true rfl) ?_
            refine j_iload_n hC dX9_isOrderFree_65 rfl ?_
            refine z_icmp_ne (a := (optZ (keptC S i (sPol S) false))) (b := ((i : Nat) : Int)) (tgt := 73) hC dX9_isOrderFree_66 (by decide) (by unfold zB; omega) (by unfold zB; omega) (fun c8 => ?_) (fun c8 => ?_)
            · refine j_iconst (v := nI 0) hC dX9_isOrderFree_73 (by decide) ?_
              exact j_top (jb_f0 (by omega)) K
            · refine j_iconst (v := nI 1) hC dX9_isOrderFree_69 (by decide) ?_
              refine j_goto (tgt := 74) hC dX9_isOrderFree_70 (by decide) ?_
              exact j_top (jb_t1 (by omega)) K
          refine j_istore_n3 hC dX9_isOrderFree_74 (by decide) rfl ?_
          suffices K : J C (M) 0 0 94 [some (.ref (c)), some (.int (nI (0))), some (.int (nI (i))), some (.int (jb (optZ (keptC S i (sPol S) false) = (i : Int)))), none] [.int (jb (optZ (keptC S i (0) true) = (i : Int)))] by
            refine j_aload_n hC dX9_isOrderFree_75 rfl (jrf_ref _) ?_
            refine j_get (v := .ref (c + 3)) hC kf_X9_19 dX9_isOrderFree_76 (a1) (rfl) ?_
            refine j_iload_n hC dX9_isOrderFree_79 rfl ?_
            refine j_iload_n hC dX9_isOrderFree_80 rfl ?_
            refine j_iconst (v := nI 1) hC dX9_isOrderFree_81 (by decide) ?_
            refine c_V hC kv_X9_333 dX9_isOrderFree_82 (m_X5_keptOf (r := i) (p := 0) (b := true) hs9 (hS.mono hz) (by omega) (by omega)) (u1) rfl rfl rfl rfl (by decide) (Nat.le_of_ble_eq_true rfl) ?_
            refine j_iload_n hC dX9_isOrderFree_85 rfl ?_
            refine z_icmp_ne (a := (optZ (keptC S i (0) true))) (b := ((i : Nat) : Int)) (tgt := 93) hC dX9_isOrderFree_86 (by decide) (by unfold zB; omega) (by unfold zB; omega) (fun c9 => ?_) (fun c9 => ?_)
            · refine j_iconst (v := nI 0) hC dX9_isOrderFree_93 (by decide) ?_
              exact j_top (jb_f0 (by omega)) K
            · refine j_iconst (v := nI 1) hC dX9_isOrderFree_89 (by decide) ?_
              refine j_goto (tgt := 94) hC dX9_isOrderFree_90 (by decide) ?_
              exact j_top (jb_t1 (by omega)) K
          refine j_istore_4 hC dX9_isOrderFree_94 (by decide) rfl ?_
          refine j_iload_n hC dX9_isOrderFree_96 rfl ?_
          refine j_iload hC dX9_isOrderFree_97 rfl ?_
          refine j_icmp_eq (tgt := 104) hC dX9_isOrderFree_99 (by decide) (fun c10 => ?_) (fun c10 => ?_)
          · refine j_iinc_2 (v := nI (i + 1)) hC dX9_isOrderFree_104 (nI_add _ _) (by decide) rfl ?_
            refine j_goto (tgt := 38) hC dX9_isOrderFree_107 (by decide) ?_
            exact j_M (rfl) (j_L (jle_s (jle_s (jle_s (jle_n (jle_n (jle_0)))))) (ih (i + 1) (by omega) (by omega) (ord_t ho9 (by rw [hoth]; exact (rsn_iff u4 (by omega)).mpr (jb_iff9.mp (by assumption))))))
          · refine j_iconst (v := nI 0) hC dX9_isOrderFree_102 (by decide) ?_
            exact j_iret hC9 rfl (rfl) dX9_isOrderFree_103 (cr_of (T' := (S, P, V, b, e, u)) (show opFree (S, P, V, b, e, u) = _ from congrArg (fun x => ((0, x, (S, P, V, b, e, u)) : aAns)) (jb_f0 (ord_no (ord_f (Or.inr (by rw [hoth]; exact fun e8 => absurd (jb_iff9.mpr ((rsn_iff u4 (by omega)).mp e8)) (by assumption)))) _ (show i + 1 ≤ (sRecs S).length by omega))).symm) (cQ_same h rfl))
  · refine j_iconst (v := nI 1) hC dX9_isOrderFree_18 (by decide) ?_
    refine j_istore_n1 hC dX9_isOrderFree_19 (by decide) rfl ?_
    refine j_goto (tgt := 36) hC dX9_isOrderFree_20 (by decide) ?_
    refine j_iconst (v := nI 0) hC dX9_isOrderFree_36 (by decide) ?_
    refine j_istore_n2 hC dX9_isOrderFree_37 (by decide) rfl ?_
    have hoth : othP (sPol S) = 1 := by unfold othP; split <;> omega
    suffices K : ∀ (n9 : Nat) (i : Nat), (sRecs S).length - i < n9 → (i ≤ (sRecs S).length) → (ordB S i = true) → J C (M) 0 0 38 [some (.ref (c)), some (.int (nI (1))), some (.int (nI (i))), none, none] [] from j_M (rfl) (K _ (0) (Nat.lt_succ_self _) (Nat.zero_le _) (rfl))
    intro n9
    induction n9 with
    | zero => intro i hm; omega
    | succ n9 ih =>
      intro i hm hi ho9
      refine j_iload_n hC dX9_isOrderFree_38 rfl ?_
      refine j_aload_n hC dX9_isOrderFree_39 rfl (jrf_ref _) ?_
      refine j_get (v := .ref (c + 3)) hC kf_X9_19 dX9_isOrderFree_40 (a1) (rfl) ?_
      refine j_get (v := .int (nI ((sRecs S).length))) hC kf_X9_59 dX9_isOrderFree_43 (u1) (rfl) ?_
      refine n_icmp_ge (tgt := 110) hC dX9_isOrderFree_46 (by decide) (by omega) (by omega) (fun c11 => ?_) (fun c11 => ?_)
      · refine j_iconst (v := nI 1) hC dX9_isOrderFree_110 (by decide) ?_
        exact j_iret hC9 rfl (rfl) dX9_isOrderFree_111 (cr_of (T' := (S, P, V, b, e, u)) (show opFree (S, P, V, b, e, u) = _ by unfold opFree; rw [show (sRecs (tSet (S, P, V, b, e, u))).length = i from (show (sRecs S).length = i by omega), show jb (ordB (tSet (S, P, V, b, e, u)) i = true) = nI 1 from (jb_t1 ho9).symm]) (cQ_same h rfl))
      · have hz1 := optZ_zB (x := keptC S i (sPol S) false) (n := 20) (fun m hm => keptC_lt (by omega) hn20 hm)
        have hz2 := optZ_zB (x := keptC S i (1) true) (n := 20) (fun m hm => keptC_lt (by omega) hn20 hm)
        suffices K : J C (M) 0 0 74 [some (.ref (c)), some (.int (nI (1))), some (.int (nI (i))), none, none] [.int (jb (optZ (keptC S i (sPol S) false) = (i : Int)))] by
          refine j_aload_n hC dX9_isOrderFree_49 rfl (jrf_ref _) ?_
          refine j_get (v := .ref (c + 3)) hC kf_X9_19 dX9_isOrderFree_50 (a1) (rfl) ?_
          refine j_iload_n hC dX9_isOrderFree_53 rfl ?_
          refine j_aload_n hC dX9_isOrderFree_54 rfl (jrf_ref _) ?_
          refine j_get (v := .ref (c + 3)) hC kf_X9_19 dX9_isOrderFree_55 (a1) (rfl) ?_
          refine j_get (v := .int (nI (sPol S))) hC kf_X9_269 dX9_isOrderFree_58 (u1) (rfl) ?_
          refine j_iconst (v := nI 0) hC dX9_isOrderFree_61 (by decide) ?_
          refine c_V hC kv_X9_333 dX9_isOrderFree_62 (m_X5_keptOf (r := i) (p := sPol S) (b := false) hs9 (hS.mono hz) (by omega) (by omega)) (u1) rfl rfl rfl rfl (by decide) (Nat.le_of_ble_eq_true rfl) ?_
          refine j_iload_n hC dX9_isOrderFree_65 rfl ?_
          refine z_icmp_ne (a := (optZ (keptC S i (sPol S) false))) (b := ((i : Nat) : Int)) (tgt := 73) hC dX9_isOrderFree_66 (by decide) (by unfold zB; omega) (by unfold zB; omega) (fun c12 => ?_) (fun c12 => ?_)
          · refine j_iconst (v := nI 0) hC dX9_isOrderFree_73 (by decide) ?_
            exact j_top (jb_f0 (by omega)) K
          · refine j_iconst (v := nI 1) hC dX9_isOrderFree_69 (by decide) ?_
            refine j_goto (tgt := 74) hC dX9_isOrderFree_70 (by decide) ?_
            exact j_top (jb_t1 (by omega)) K
        refine j_istore_n3 hC dX9_isOrderFree_74 (by decide) rfl ?_
        suffices K : J C (M) 0 0 94 [some (.ref (c)), some (.int (nI (1))), some (.int (nI (i))), some (.int (jb (optZ (keptC S i (sPol S) false) = (i : Int)))), none] [.int (jb (optZ (keptC S i (1) true) = (i : Int)))] by
          refine j_aload_n hC dX9_isOrderFree_75 rfl (jrf_ref _) ?_
          refine j_get (v := .ref (c + 3)) hC kf_X9_19 dX9_isOrderFree_76 (a1) (rfl) ?_
          refine j_iload_n hC dX9_isOrderFree_79 rfl ?_
          refine j_iload_n hC dX9_isOrderFree_80 rfl ?_
          refine j_iconst (v := nI 1) hC dX9_isOrderFree_81 (by decide) ?_
          refine c_V hC kv_X9_333 dX9_isOrderFree_82 (m_X5_keptOf (r := i) (p := 1) (b := true) hs9 (hS.mono hz) (by omega) (by omega)) (u1) rfl rfl rfl rfl (by decide) (Nat.le_of_ble_eq_true rfl) ?_
          refine j_iload_n hC dX9_isOrderFree_85 rfl ?_
          refine z_icmp_ne (a := (optZ (keptC S i (1) true))) (b := ((i : Nat) : Int)) (tgt := 93) hC dX9_isOrderFree_86 (by decide) (by unfold zB; omega) (by unfold zB; omega) (fun c13 => ?_) (fun c13 => ?_)
          · refine j_iconst (v := nI 0) hC dX9_isOrderFree_93 (by decide) ?_
            exact j_top (jb_f0 (by omega)) K
          · refine j_iconst (v := nI 1) hC dX9_isOrderFree_89 (by decide) ?_
            refine j_goto (tgt := 94) hC dX9_isOrderFree_90 (by decide) ?_
            exact j_top (jb_t1 (by omega)) K
        refine j_istore_4 hC dX9_isOrderFree_94 (by decide) rfl ?_
        refine j_iload_n hC dX9_isOrderFree_96 rfl ?_
        refine j_iload hC dX9_isOrderFree_97 rfl ?_
        refine j_icmp_eq (tgt := 104) hC dX9_isOrderFree_99 (by decide) (fun c14 => ?_) (fun c14 => ?_)
        · refine j_iinc_2 (v := nI (i + 1)) hC dX9_isOrderFree_104 (nI_add _ _) (by decide) rfl ?_
          refine j_goto (tgt := 38) hC dX9_isOrderFree_107 (by decide) ?_
          exact j_M (rfl) (j_L (jle_s (jle_s (jle_s (jle_n (jle_n (jle_0)))))) (ih (i + 1) (by omega) (by omega) (ord_t ho9 (by rw [hoth]; exact (rsn_iff u4 (by omega)).mpr (jb_iff9.mp (by assumption))))))
        · refine j_iconst (v := nI 0) hC dX9_isOrderFree_102 (by decide) ?_
          exact j_iret hC9 rfl (rfl) dX9_isOrderFree_103 (cr_of (T' := (S, P, V, b, e, u)) (show opFree (S, P, V, b, e, u) = _ from congrArg (fun x => ((0, x, (S, P, V, b, e, u)) : aAns)) (jb_f0 (ord_no (ord_f (Or.inr (by rw [hoth]; exact fun e8 => absurd (jb_iff9.mpr ((rsn_iff u4 (by omega)).mp e8)) (by assumption)))) _ (show i + 1 ≤ (sRecs S).length by omega))).symm) (cQ_same h rfl))
