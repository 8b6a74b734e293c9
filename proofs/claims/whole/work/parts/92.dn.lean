/-! ===== the merger: counts, the buffer, a template ===== -/
def itM (q : aRec) (its : List pIt) (cos : List pCo) (n : Nat) : Bool := lMet q (coL cos (pAtI its n))
theorem cnt_all {q : aRec} {its : List pIt} {cos : List pCo} {j : Nat} : ∀ n, cntB q its cos j n = true ↔ ∀ m, m < n → inW its j m = true → cMet q cos (pAtI its m) = true
  | 0 => ⟨fun _ m hm => absurd hm (Nat.not_lt_zero m), fun _ => rfl⟩
  | n + 1 => by
    rw [cntB, Bool.and_eq_true, cnt_all n, Bool.or_eq_true, Bool.not_eq_true']
    constructor
    · intro h m hm hw
      by_cases e : m = n
      · subst e
        exact h.2.elim (fun e9 => by rw [hw] at e9; cases e9) id
      · exact h.1 m (by omega) hw
    · intro h
      refine ⟨fun m hm => h m (by omega), ?_⟩
      cases hw : inW its j n with
      | false => exact Or.inl rfl
      | true => exact Or.inr (h n (Nat.lt_succ_self n) hw)
theorem cnt_pth {L : List Nat} {q : aRec} {its : List pIt} {cos : List pCo} {j : Nat} (hw : wfP L its cos []) (hj : j < its.length) : (itM q its cos j && (iPath (pAtI its j)).all (itM q its cos)) = cntB q its cos j (j + 1) := by
  have hm : ∀ n, n < its.length → iKind (pAtI its n) = 5 → itM q its cos n = cMet q cos (pAtI its n) := fun n hn h5 => met_5 h5 ((hw.1 n hn).2.2.2.2.2.1 h5)
  have hp := (hw.1 j hj).2.2.2.2.2.2.2.2.1
  rw [Bool.eq_iff_iff, cnt_all, Bool.and_eq_true, List.all_eq_true]
  constructor
  · intro h m hm9 hi
    obtain ⟨h5, h6⟩ := inW_iff.mp hi
    rw [← hm m (by omega) h5]
    by_cases e : m = j
    · rw [e]; exact h.1
    · exact h.2 m ((hp m).mpr ⟨by omega, h5, Or.inr (h6.elim (fun e9 => absurd e9 e) id)⟩)
  · intro h
    refine ⟨?_, fun n hn => ?_⟩
    · by_cases h5 : iKind (pAtI its j) = 5
      · rw [hm j hj h5]
        exact h j (Nat.lt_succ_self j) (inW_iff.mpr ⟨h5, Or.inl rfl⟩)
      · exact met_n h5
    · obtain ⟨h1, h2, h3⟩ := (hp n).mp hn
      rw [hm n (by omega) h2]
      exact h n (by omega) (inW_iff.mpr ⟨h2, Or.inr (h3.elim (fun e9 => absurd e9 List.not_mem_nil) id)⟩)
theorem and_t {a b : Bool} (h1 : a = true) (h2 : b = true) : (a && b) = true := by rw [h1, h2]; rfl
set_option maxHeartbeats 4000000 in
set_option maxRecDepth 100000 in
theorem m_X9_counts {G : jG} {M : jM} {c v : Nat} {S : aSet} {P : List aSet} {V : Option aSet} {b : List Nat} {e : Option Nat} {u : Option aRun} {Z : jH} {q r : Int32} (hs : (gL G).stackTraces = false) (h : cJ G M Z c v S P V b e u)  : JMet G jX9_counts [.ref c, .int q, .int r] (M) 2 12 8 (COq G M Z c v (opCounts q r) (S, P, V, b, e, u)) (COx G M Z c v (opCounts q r) ["java/lang/IndexOutOfBoundsException", "java/util/NoSuchElementException"] (S, P, V, b, e, u)) := by
  refine jMet_of [some (.ref (c)), some (.int (q)), some (.int (r)), none, none, none, none] (by decide) rfl (Nat.le_of_ble_eq_true rfl) (rfl) hs ?_
  intro C hC9 hG
  have hC := hC9.z
  have hs9 := jOK0_tr hC
  refine j_lt (fun hlt => ?_)
  have hBg : jB C = gB G := by rw [jB, hG]
  subst hG
  obtain ⟨⟨a1, za⟩, ⟨⟨cap, hbu⟩, zb1, zbv, hv, hb120, hbc⟩, ⟨hS, zs3, zs4⟩, ⟨hVX, zv8, zv9, hVs⟩, ⟨pa, hPa⟩, ⟨ho, zo, hon⟩, ⟨⟨dX, dk, dr, dl, dch, hd⟩, zd⟩, ⟨⟨od, hod⟩, zn79⟩, ⟨hz, hkr, hBc, ⟨mk, hmk⟩⟩, hP8, hE⟩ := id h
  obtain ⟨p1, zp13, p3, p4, p5, p6⟩ := id hPa
  obtain ⟨⟨mb, bu, hb1, hb2, hb3, hb4, hb5⟩, hb6, hb7⟩ := id hbu
  obtain ⟨⟨lay, home, ff, xe, u1, u2, u5, u3, u6, u7⟩, u4⟩ := id hS
  obtain ⟨ho1, ho2, ho3, ho4, ho5⟩ := id ho
  have hn20 : (sRecs S).length ≤ 20 := u4.1.1
  have hk32 : sKeys S < 32 := u4.1.2.1
  have hp3 : sPol S < 3 := u4.1.2.2.1
  have ho10 : sOut S < 1024 := u4.1.2.2.2.1
  have hl2 : sLim S ≤ 200 := u4.1.2.2.2.2.1.2
  have hl1 : 1 ≤ sLim S := u4.1.2.2.2.2.1.1
  have hmk9 := hlt _ _ hmk
  obtain ⟨⟨lrow, lf, l1, l2, l3⟩, lle, lch, lok⟩ := id u6
  have hil := its_le lok
  have hil2 : (pIts (pEnd (sTmpl S))).length ≤ 120 := Nat.le_trans hil lle
  refine j_aload_n hC dX9_counts_0 rfl (jrf_ref _) ?_
  refine j_iload_n hC dX9_counts_1 rfl ?_
  refine c_Tv (kc := 1) (ks := 6) hC9 rfl kv_X9_112 dX9_counts_2 (m_X9_existing (r := q) hs9 h) (a1) rfl rfl rfl rfl (by decide) (Nat.le_of_ble_eq_true rfl) (fun E9 M9 hx9 => ?_) ?_
  · obtain ⟨rfl, e9, hno⟩ := hx9
    exact cx_of (k := 0) (x := nI 0) (T' := (S, P, V, b, e, u)) (cnt_1 hno) rfl (cQ_same h e9)
  intro v9 M1 h9
  obtain ⟨i, rfl, hi, e9, p, rfl, ep⟩ := h9
  refine j_M e9 ?_
  clear e9
  obtain ⟨bp, op⟩ := ep.obj
  refine j_astore_n3 hC dX9_counts_5 (jrf_ref _) (by decide) rfl ?_
  refine j_aload_n hC dX9_counts_6 rfl (jrf_ref _) ?_
  refine j_iload_n hC dX9_counts_7 rfl ?_
  refine c_Tv (kc := 0) (ks := 0) hC9 rfl kv_X9_231 dX9_counts_8 (m_X9_existingPiece (r := r) hs9 h) (a1) rfl rfl rfl rfl (by decide) (Nat.le_of_ble_eq_true rfl) (fun E9 M9 hx9 => ?_) ?_
  · obtain ⟨rfl, e9, hno⟩ := hx9
    exact cx_of (k := 1) (x := nI 0) (T' := (S, P, V, b, e, u)) (cnt_2 (by rw [jin_nI (by omega)]; exact decide_eq_true hi) hno) rfl (cQ_same h e9)
  intro v9 M1 h9
  obtain ⟨j, rfl, hj, e9, pp, rfl, hpie⟩ := h9
  refine j_M e9 ?_
  clear e9
  obtain ⟨ps, pq, pcn, w1, w2, w3, w4⟩ := id hpie
  refine j_astore_4 hC dX9_counts_11 (jrf_ref _) (by decide) rfl ?_
  refine j_iconst (v := nI 1) hC dX9_counts_13 (by decide) ?_
  refine j_istore_5 hC dX9_counts_14 (by decide) rfl ?_
  refine j_iconst (v := nI 0) hC dX9_counts_16 (by decide) ?_
  refine j_istore_6 hC dX9_counts_17 (by decide) rfl ?_
  have hwf := wf_end lok
  have hop := op_end lle lok
  rw [hop] at hwf
  suffices K : ∀ (n9 : Nat) (k y py : Nat) (b9 : Bool), 9 - k < n9 → y < (pIts (pEnd (sTmpl S))).length → pieR Z (sTmpl S) (pCos (pEnd (sTmpl S))) py (pAtI (pIts (pEnd (sTmpl S))) y) → k + (iPath (pAtI (pIts (pEnd (sTmpl S))) y)).length ≤ 4 → (b9 && (itM (sAt S i) (pIts (pEnd (sTmpl S))) (pCos (pEnd (sTmpl S))) y && (iPath (pAtI (pIts (pEnd (sTmpl S))) y)).all (itM (sAt S i) (pIts (pEnd (sTmpl S))) (pCos (pEnd (sTmpl S)))))) = (itM (sAt S i) (pIts (pEnd (sTmpl S))) (pCos (pEnd (sTmpl S))) j && (iPath (pAtI (pIts (pEnd (sTmpl S))) j)).all (itM (sAt S i) (pIts (pEnd (sTmpl S))) (pCos (pEnd (sTmpl S))))) → J C M 0 0 19 [some (.ref c), some (.int (nI i)), some (.int (nI j)), some (.ref p), some (.ref py), some (.int (jb (b9 = true))), some (.int (nI k))] [] from K _ 0 j pp true (Nat.lt_succ_self _) hj hpie (by have h9 := (hwf.1 j hj).2.2.2.2.2.2.2.2.2.2.2; omega) (Bool.true_and _)
  intro n9
  induction n9 with
  | zero => intro k y py b9 hm; omega
  | succ n9 ih =>
    intro k y py b9 hm hy hpiy hkp htot
    obtain ⟨ps2, pq2, pcn2, y1, y2s, y3s, y4⟩ := id hpiy
    refine j_iload hC dX9_counts_19 rfl ?_
    refine j_iconst (v := nI 4) hC dX9_counts_21 (by decide) ?_
    refine n_icmp_gt (tgt := 74) hC dX9_counts_22 (by decide) (by omega) (by omega) (fun c1 => ?_) (fun c1 => ?_)
    · exact (show False by omega).elim
    · refine j_aload hC dX9_counts_25 rfl (jrf_ref _) ?_
      refine j_ifnull hC dX9_counts_27 ?_
      suffices K : J C (M) 0 0 49 [some (.ref (c)), some (.int (nI (i))), some (.int (nI (j))), some (.ref (p)), some (.ref (py)), some (.int (jb (b9 = true))), some (.int (nI (k)))] [.int (jb ((b9 && itM (sAt S i) (pIts (pEnd (sTmpl S))) (pCos (pEnd (sTmpl S))) y) = true))] by
        refine j_iload hC dX9_counts_30 rfl ?_
        refine jb_if_eq (tgt := 48) hC dX9_counts_32 (by decide) (fun c2 => ?_) (fun c2 => ?_)
        · refine j_iconst (v := nI 0) hC dX9_counts_48 (by decide) ?_
          exact j_top (jb_f0 (by rw [Bool.and_eq_true]; intro e9; first | exact absurd e9.1 (by assumption) | exact absurd e9.2 (by assumption))) K
        · refine j_aload hC dX9_counts_35 rfl (jrf_ref _) ?_
          refine j_aload_n hC dX9_counts_37 rfl (jrf_ref _) ?_
          refine c_V hC kv_X9_251 dX9_counts_38 (m_X4_isMetBy hs9 (hz _ _ y1) rfl (y4.mono hz) (ep.mono hz)) ((hz _ _ y1)) rfl rfl rfl rfl (by decide) (Nat.le_of_ble_eq_true rfl) ?_
          refine jb_if_eq (tgt := 48) hC dX9_counts_41 (by decide) (fun c3 => ?_) (fun c3 => ?_)
          · refine j_iconst (v := nI 0) hC dX9_counts_48 (by decide) ?_
            exact j_top (jb_f0 (by rw [Bool.and_eq_true]; intro e9; first | exact absurd e9.1 (by assumption) | exact absurd e9.2 (by assumption))) K
          · refine j_iconst (v := nI 1) hC dX9_counts_44 (by decide) ?_
            refine j_goto (tgt := 49) hC dX9_counts_45 (by decide) ?_
            exact j_top (jb_t1 (and_t (by assumption) (by assumption))) K
      refine j_istore_5 hC dX9_counts_49 (by decide) rfl ?_
      refine j_aload_n hC dX9_counts_51 rfl (jrf_ref _) ?_
      refine j_get (v := .ref (c + 3)) hC kf_X9_19 dX9_counts_52 (a1) (rfl) ?_
      refine j_get (v := .ref (lay)) hC kf_X9_212 dX9_counts_55 (u1) (rfl) ?_
      refine j_aload hC dX9_counts_58 rfl (jrf_ref _) ?_
      refine j_get (v := .int (zI (optZ (iPath (pAtI (pIts (pEnd (sTmpl S))) y)).head?))) hC kf_X9_246 dX9_counts_60 ((hz _ _ y1)) (rfl) ?_
      rcases hp : iPath (pAtI (pIts (pEnd (sTmpl S))) y) with _ | ⟨y2, r2⟩
      · refine j_top (show _ = zI (-1) from rfl) ?_
        refine c_V hC kv_X9_255 dX9_counts_63 (m_X2_pieceAt_n hs9 (hz _ _ l1) (jin_n0 (by decide)) (by omega)) (hz _ _ l1) rfl rfl rfl rfl (by decide) (Nat.le_of_ble_eq_true rfl) ?_
        refine j_astore_4 hC dX9_counts_66 jrf_null (by decide) rfl ?_
        refine j_iinc_6 (v := nI (k + 1)) hC dX9_counts_68 (nI_add _ _) (by decide) rfl ?_
        refine j_goto (tgt := 19) hC dX9_counts_71 (by decide) ?_
        refine j_iload hC dX9_counts_19 rfl ?_
        refine j_iconst (v := nI 4) hC dX9_counts_21 (by decide) ?_
        refine n_icmp_gt (tgt := 74) hC dX9_counts_22 (by decide) (by omega) (by omega) (fun c4 => ?_) (fun c4 => ?_)
        · refine j_iload hC dX9_counts_74 rfl ?_
          exact j_iret hC9 rfl (jb_nar) dX9_counts_76 (cr_of (T' := (S, P, V, b, e, u)) (cnt_0 (T := (S, P, V, b, e, u)) hi hn20 hj hil2 (by rw [← cnt_pth hwf hj, ← htot, hp, List.all_nil, Bool.and_true])) (cQ_same h rfl))
        · refine j_aload hC dX9_counts_25 rfl jrf_null ?_
          refine c_ifnull0 (tgt := 74) hC dX9_counts_27 (by decide) ?_
          refine j_iload hC dX9_counts_74 rfl ?_
          exact j_iret hC9 rfl (jb_nar) dX9_counts_76 (cr_of (T' := (S, P, V, b, e, u)) (cnt_0 (T := (S, P, V, b, e, u)) hi hn20 hj hil2 (by rw [← cnt_pth hwf hj, ← htot, hp, List.all_nil, Bool.and_true])) (cQ_same h rfl))
      · have hy2 : y2 < (pIts (pEnd (sTmpl S))).length := by have h9 := ((hwf.1 y hy).2.2.2.2.2.2.2.2.1 y2).mp (by rw [hp]; exact List.mem_cons_self); omega
        have hp2 := (hwf.1 y hy).2.2.2.2.2.2.2.2.2.1 y2 r2 hp
        obtain ⟨p2, hp2e, hpie2⟩ := l3 y2 hy2
        refine j_top (show _ = nI y2 from rfl) ?_
        refine c_V hC kv_X9_255 dX9_counts_63 (m_X2_pieceAt (i := y2) (p := p2) hs9 (hz _ _ l1) (hz _ _ l2) hy2 hil (by omega) hp2e) (hz _ _ l1) rfl rfl rfl rfl (by decide) (Nat.le_of_ble_eq_true rfl) ?_
        refine j_astore_4 hC dX9_counts_66 (jrf_ref _) (by decide) rfl ?_
        refine j_iinc_6 (v := nI (k + 1)) hC dX9_counts_68 (nI_add _ _) (by decide) rfl ?_
        refine j_goto (tgt := 19) hC dX9_counts_71 (by decide) ?_
        exact ih (k + 1) y2 p2 (b9 && itM (sAt S i) (pIts (pEnd (sTmpl S))) (pCos (pEnd (sTmpl S))) y) (by omega) hy2 hpie2 (by rw [hp2]; rw [hp, List.length_cons] at hkp; omega) (by rw [hp2, ← htot, hp, List.all_cons, Bool.and_assoc])
theorem nz_len {p : Int32} {i : Nat} (hi : i < 4) : (nz p i).length + (if byteN p (3 - i) = 0 then 0 else 1) = (nz p (i + 1)).length := by
  by_cases h : byteN p (3 - i) = 0
  · rw [if_pos h, nz_z hi h]; rfl
  · rw [if_neg h, nz_s hi h, List.length_append]; rfl
theorem nz_bb {p : Int32} {i : Nat} (h : nzOK p i) (hi : i < 4) (h2 : byteN p (3 - i) = 0 ∨ (32 ≤ byteN p (3 - i) ∧ byteN p (3 - i) ≤ 126)) : nzOK p (i + 1) := by
  by_cases h0 : byteN p (3 - i) = 0
  · exact nzOK_z h hi h0
  · exact nzOK_s h hi h0 (h2.elim (fun e => absurd e h0) id)
theorem nz_mem {p : Int32} {i : Nat} (hi : i < 4) (h0 : ¬ byteN p (3 - i) = 0) : byteN p (3 - i) ∈ nz p 4 := by
  have e3 : byteN p (3 - i) ∈ nz p (i + 1) := by
    rw [nz_s hi h0]
    exact List.mem_append_right _ (List.mem_singleton_self _)
  exact (List.Sublist.filter _ (List.take_sublist (i + 1) (bytesN p))).subset e3
theorem zg_at {M : jM} {Z : jH} {a : Nat} (hz : sub Z M.1) (h : M.1 a = none) : Z a = none := by
  cases e : Z a with
  | none => rfl
  | some o => rw [hz a o e] at h; cases h
