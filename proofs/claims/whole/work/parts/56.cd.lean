theorem entR.obj {H : jH} {a : Nat} {q : aRec} (h : entR H a q) : ∃ b : Nat, H a = some (.inr (5, [.int (nI q.1), .int (nI q.2.1), .ref b])) := by
  obtain ⟨⟨b, x, h1, -⟩, -⟩ := h
  exact ⟨b, h1⟩
theorem msk_or {q : aRec} {i : Nat} (hi : i < 5) : nI (sumTo (mskF q) i) ||| nI (mskF q i) = nI (sumTo (mskF q) (i + 1)) := by
  have h1 := msk_lt (q := q) i
  have h2 := msk_32 (q := q) (g := i) (by omega)
  show _ = nI (sumTo (mskF q) i + mskF q i)
  by_cases h : 0 < (q.2.2 i).length
  · have e : mskF q i = 2 ^ i := if_pos h
    rw [e, ← or_pow hi h1, sh1 _ (by omega)]
  · have e : mskF q i = 0 := if_neg h
    rw [e]
    exact or_0 h2
set_option maxHeartbeats 4000000 in
set_option maxRecDepth 100000 in
theorem m_X1_textAt0 {G : jG} {M : jM} {a b f : Nat} {q : aRec} {x : Nat → Nat} (hs : (gL G).stackTraces = false) (e1 : M.1 a = some (.inr (5, [.int (nI q.1), .int (nI q.2.1), .ref b]))) (e2 : M.1 b = some (.inl (.object RX8, 5, fun j => .ref (x j)))) (hf : f < 5) : CM G M jX1_textAt 0 0 1 [.ref a, .int (nI f)] (some (.ref (x f))) (M) := by
  refine jMet_of [some (.ref (a)), some (.int (nI (f)))] (by decide) rfl (Nat.le_of_ble_eq_true rfl) (rfl) hs ?_
  intro C hC9 hG
  have hC := hC9.z
  have hs9 := jOK0_tr hC
  refine j_aload_n hC dX1_textAt_0 rfl (jrf_ref _) ?_
  refine j_get (v := .ref (b)) hC kf_X1_16 dX1_textAt_1 (e1) (rfl) ?_
  refine j_iconst (v := nI 0) hC dX1_textAt_4 (by decide) ?_
  refine j_iload_n hC dX1_textAt_5 rfl ?_
  refine j_iconst (v := nI 4) hC dX1_textAt_6 (by decide) ?_
  refine c_min (a := f) (b := 4) hC ks_X1_32 dX1_textAt_7 (by omega) (by omega) (by decide) (Nat.le_of_ble_eq_true rfl) ?_
  refine c_max (a := 0) (b := min (f) (4)) hC ks_X1_38 dX1_textAt_10 (by omega) (by omega) (by decide) (Nat.le_of_ble_eq_true rfl) ?_
  refine j_top (by rw [show max 0 (min f 4) = f by omega]) ?_
  refine c_aald (i := f) (v := .ref (x (f))) hC dX1_textAt_13 (e2) rfl (by omega) (by omega) (rfl) ?_
  exact j_aret hC9 rfl (by first | exact Or.inl ⟨_, rfl⟩ | exact Or.inr ⟨_, rfl⟩) dX1_textAt_14 ⟨rfl, rfl⟩ (jrf_ref _)
theorem m_X1_textAt {G : jG} {M : jM} {a f : Nat} {q : aRec} (hs : (gL G).stackTraces = false) (h : entR M.1 a q) (hf : f < 5) : ∃ p, txtR M.1 p (q.2.2 f) ∧ CM G M jX1_textAt 0 0 1 [.ref a, .int (nI f)] (some (.ref p)) M := by
  obtain ⟨⟨b, x, e1, e2, e3⟩, e4⟩ := h
  exact ⟨x f, e3 f hf, m_X1_textAt0 hs e1 e2 hf⟩
set_option maxHeartbeats 4000000 in
set_option maxRecDepth 100000 in
theorem m_X1_filledFields {G : jG} {M : jM} {a : Nat} {q : aRec} (hs : (gL G).stackTraces = false) (h : entR M.1 a q) : CM G M jX1_filledFields 0 0 2 [.ref a] (some (.int (nI (maskA q)))) (M) := by
  refine jMet_of [some (.ref (a)), none, none] (by decide) rfl (Nat.le_of_ble_eq_true rfl) (rfl) hs ?_
  intro C hC9 hG
  have hC := hC9.z
  have hs9 := jOK0_tr hC
  obtain ⟨⟨b, x, e1, e2, e3⟩, e4⟩ := id h
  have e5 := e4.1
  have e6 := e4.2.1
  refine j_iconst (v := nI 0) hC dX1_filledFields_0 (by decide) ?_
  refine j_istore_n1 hC dX1_filledFields_1 (by decide) rfl ?_
  refine j_iconst (v := nI 0) hC dX1_filledFields_2 (by decide) ?_
  refine j_istore_n2 hC dX1_filledFields_3 (by decide) rfl ?_
  suffices K : ∀ (n9 : Nat) (i : Nat), 5 - i < n9 → (i ≤ 5) → J C (M) 0 0 4 [some (.ref (a)), some (.int (nI (sumTo (mskF q) i))), some (.int (nI (i)))] [] from j_M (rfl) (K _ (0) (Nat.lt_succ_self _) (by omega))
  intro n9
  induction n9 with
  | zero => intro i hm; omega
  | succ n9 ih =>
    intro i hm hi
    refine j_iload_n hC dX1_filledFields_4 rfl ?_
    refine j_aload_n hC dX1_filledFields_5 rfl (jrf_ref _) ?_
    refine j_get (v := .ref (b)) hC kf_X1_16 dX1_filledFields_6 (e1) (rfl) ?_
    refine c_alen hC dX1_filledFields_9 (e2) ?_
    refine n_icmp_ge (tgt := 41) hC dX1_filledFields_10 (by decide) (by omega) (by omega) (fun c1 => ?_) (fun c1 => ?_)
    · refine j_iload_n hC dX1_filledFields_41 rfl ?_
      exact j_iret hC9 rfl (rfl) dX1_filledFields_42 ⟨(jv (by rw [show i = 5 by omega]; rfl)), rfl⟩
    · refine j_iload_n hC dX1_filledFields_13 rfl ?_
      have hx9 := e3 i (by omega)
      obtain ⟨gs, hxo⟩ := hx9.obj
      have hm9 := msk_lt (q := q) i
      have hm8 := msk_32 (q := q) (g := i) (by omega)
      refine j_aload_n hC dX1_filledFields_14 rfl (jrf_ref _) ?_
      refine j_get (v := .ref (b)) hC kf_X1_16 dX1_filledFields_15 (e1) (rfl) ?_
      refine j_iload_n hC dX1_filledFields_18 rfl ?_
      refine c_aald (i := i) (v := .ref (x (i))) hC dX1_filledFields_19 (e2) rfl (by omega) (by omega) (rfl) ?_
      refine c_V hC kv_X1_41 dX1_filledFields_20 (m_X8_isEmpty hs9 hx9) (hxo) rfl rfl rfl rfl (by decide) (Nat.le_of_ble_eq_true rfl) ?_
      suffices K : J C (M) 0 0 33 [some (.ref (a)), some (.int (nI (sumTo (mskF q) i))), some (.int (nI (i)))] [.int (nI (mskF q i)), .int (nI (sumTo (mskF q) i))] by
        refine jb_if_eq (tgt := 30) hC dX1_filledFields_23 (by decide) (fun c2 => ?_) (fun c2 => ?_)
        · refine j_iconst (v := nI 1) hC dX1_filledFields_30 (by decide) ?_
          refine j_iload_n hC dX1_filledFields_31 rfl ?_
          refine j_ishl hC dX1_filledFields_32 ?_
          exact j_top (by rw [mskF, if_pos (by omega), sh1 _ (by omega)]) K
        · refine j_iconst (v := nI 0) hC dX1_filledFields_26 (by decide) ?_
          refine j_goto (tgt := 33) hC dX1_filledFields_27 (by decide) ?_
          exact j_top (by rw [mskF, if_neg (by omega)]) K
      refine j_ior hC dX1_filledFields_33 ?_
      refine j_top (msk_or (by omega)) ?_
      refine j_istore_n1 hC dX1_filledFields_34 (by decide) rfl ?_
      refine j_iinc_2 (v := nI (i + 1)) hC dX1_filledFields_35 (nI_add _ _) (by decide) rfl ?_
      refine j_goto (tgt := 4) hC dX1_filledFields_38 (by decide) ?_
      exact j_M (rfl) (ih (i + 1) (by omega) (by omega))
section AH
variable {t u : List Nat} {dsc : Bool}
theorem ah_e (h : t.length = 0 ∨ u.length = 0) : ahead dsc t u = decide (0 < t.length) := if_pos h
theorem ah_d (h1 : ¬ t.length = 0) (h2 : ¬ u.length = 0) (h : dsc = true) : ahead dsc t u = decide (0 < cmpT t u) := by
  rw [ahead, if_neg (by omega), if_pos h]
theorem ah_u (h1 : ¬ t.length = 0) (h2 : ¬ u.length = 0) (h : ¬ dsc = true) : ahead dsc t u = decide (cmpT t u < 0) := by
  rw [ahead, if_neg (by omega), if_neg h]
theorem ah_t {b : Prop} [Decidable b] (h : ahead dsc t u = decide b) (hb : b) : nI 1 = jb (ahead dsc t u = true) := jb_t1 (by rw [h]; exact decide_eq_true hb)
theorem ah_f {b : Prop} [Decidable b] (h : ahead dsc t u = decide b) (hb : ¬ b) : nI 0 = jb (ahead dsc t u = true) := jb_f0 (by rw [h, decide_eq_true_eq]; exact hb)
end AH
set_option maxHeartbeats 4000000 in
set_option maxRecDepth 100000 in
theorem m_X5_comesBefore {G : jG} {M : jM} {a z f : Nat} {q r : aRec} {dsc : Bool} (hs : (gL G).stackTraces = false) (h : entR M.1 a q) (hz : entR M.1 z r) (hf : f < 5) : CM G M jX5_comesBefore 0 0 5 [.ref a, .ref z, .int (nI f), .int (jb (dsc = true))] (some (.int (jb (ahead dsc (q.2.2 f) (r.2.2 f) = true)))) (M) := by
  refine jMet_of [some (.ref (a)), some (.ref (z)), some (.int (nI (f))), some (.int (jb (dsc = true))), none, none, none] (by decide) rfl (Nat.le_of_ble_eq_true rfl) (rfl) hs ?_
  intro C hC9 hG
  have hC := hC9.z
  have hs9 := jOK0_tr hC
  obtain ⟨⟨b, x, e1, e2, e3⟩, e4⟩ := id h
  have e5 := e4.1
  have e6 := e4.2.1
  obtain ⟨b2, o1⟩ := hz.obj
  have hcb := cmp_b (n := 12) (e4.2.2 f hf).1 (hz.2.2.2 f hf).1 (fun c hc => ((e4.2.2 f hf).2 c hc).2) (fun c hc => ((hz.2.2.2 f hf).2 c hc).2)
  refine j_aload_n hC dX5_comesBefore_0 rfl (jrf_ref _) ?_
  refine j_ifnull hC dX5_comesBefore_1 ?_
  refine j_aload_n hC dX5_comesBefore_4 rfl (jrf_ref _) ?_
  refine j_ifnonnull (tgt := 10) hC dX5_comesBefore_5 (by decide) ?_
  refine j_aload_n hC dX5_comesBefore_10 rfl (jrf_ref _) ?_
  refine j_iload_n hC dX5_comesBefore_11 rfl ?_
  obtain ⟨p1, hp1, mp1⟩ := m_X1_textAt (f := f) hs9 h (by omega)
  obtain ⟨fp1, op1⟩ := hp1.obj
  have lp1 := (h.2.2.2 (f) (by omega)).1
  refine c_V hC kv_X5_74 dX5_comesBefore_12 (mp1) (e1) rfl rfl rfl rfl (by decide) (Nat.le_of_ble_eq_true rfl) ?_
  refine j_astore_4 hC dX5_comesBefore_15 (jrf_ref _) (by decide) rfl ?_
  refine j_aload_n hC dX5_comesBefore_17 rfl (jrf_ref _) ?_
  refine j_iload_n hC dX5_comesBefore_18 rfl ?_
  obtain ⟨p2, hp2, mp2⟩ := m_X1_textAt (f := f) hs9 hz (by omega)
  obtain ⟨fp2, op2⟩ := hp2.obj
  have lp2 := (hz.2.2.2 (f) (by omega)).1
  refine c_V hC kv_X5_74 dX5_comesBefore_19 (mp2) (o1) rfl rfl rfl rfl (by decide) (Nat.le_of_ble_eq_true rfl) ?_
  refine j_astore_5 hC dX5_comesBefore_22 (jrf_ref _) (by decide) rfl ?_
  refine j_aload hC dX5_comesBefore_24 rfl (jrf_ref _) ?_
  refine c_V hC kv_X5_78 dX5_comesBefore_26 (m_X8_isEmpty hs9 hp1) (op1) rfl rfl rfl rfl (by decide) (Nat.le_of_ble_eq_true rfl) ?_
  refine jb_if_ne (tgt := 40) hC dX5_comesBefore_29 (by decide) (fun c3 => ?_) (fun c3 => ?_)
  · refine j_aload hC dX5_comesBefore_40 rfl (jrf_ref _) ?_
    refine c_V hC kv_X5_78 dX5_comesBefore_42 (m_X8_isEmpty hs9 hp1) (op1) rfl rfl rfl rfl (by decide) (Nat.le_of_ble_eq_true rfl) ?_
    refine jb_if_ne (tgt := 52) hC dX5_comesBefore_45 (by decide) (fun c4 => ?_) (fun c4 => ?_)
    · refine j_iconst (v := nI 0) hC dX5_comesBefore_52 (by decide) ?_
      exact j_iret hC9 rfl (rfl) dX5_comesBefore_53 ⟨(jv (by first | exact ah_f (ah_e (by omega)) (by omega) | exact ah_f (ah_d (by assumption) (by assumption) (by assumption)) (by omega) | exact ah_f (ah_u (by assumption) (by assumption) (by assumption)) (by omega))), rfl⟩
    · refine j_iconst (v := nI 1) hC dX5_comesBefore_48 (by decide) ?_
      refine j_goto (tgt := 53) hC dX5_comesBefore_49 (by decide) ?_
      exact j_iret hC9 rfl (rfl) dX5_comesBefore_53 ⟨(jv (by first | exact ah_t (ah_e (by omega)) (by omega) | exact ah_t (ah_d (by assumption) (by assumption) (by assumption)) (by omega) | exact ah_t (ah_u (by assumption) (by assumption) (by assumption)) (by omega))), rfl⟩
  · refine j_aload hC dX5_comesBefore_32 rfl (jrf_ref _) ?_
    refine c_V hC kv_X5_78 dX5_comesBefore_34 (m_X8_isEmpty hs9 hp2) (op2) rfl rfl rfl rfl (by decide) (Nat.le_of_ble_eq_true rfl) ?_
    refine jb_if_eq (tgt := 54) hC dX5_comesBefore_37 (by decide) (fun c5 => ?_) (fun c5 => ?_)
    · refine j_aload hC dX5_comesBefore_54 rfl (jrf_ref _) ?_
      refine j_aload hC dX5_comesBefore_56 rfl (jrf_ref _) ?_
      refine c_V hC kv_X5_82 dX5_comesBefore_58 (m_X8_compareWith hs9 hp1 hp2) (op1) rfl rfl rfl rfl (by decide) (Nat.le_of_ble_eq_true rfl) ?_
      refine j_istore_6 hC dX5_comesBefore_61 (by decide) rfl ?_
      refine j_iload_n hC dX5_comesBefore_63 rfl ?_
      refine jb_if_eq (tgt := 80) hC dX5_comesBefore_64 (by decide) (fun c6 => ?_) (fun c6 => ?_)
      · refine j_iload hC dX5_comesBefore_80 rfl ?_
        refine z_if_ge (a := ((cmpT (q.2.2 (f)) (r.2.2 (f))))) (tgt := 89) hC dX5_comesBefore_82 (by decide) (by unfold zB; omega) (fun c7 => ?_) (fun c7 => ?_)
        · refine j_iconst (v := nI 0) hC dX5_comesBefore_89 (by decide) ?_
          exact j_iret hC9 rfl (rfl) dX5_comesBefore_90 ⟨(jv (by first | exact ah_f (ah_e (by omega)) (by omega) | exact ah_f (ah_d (by assumption) (by assumption) (by assumption)) (by omega) | exact ah_f (ah_u (by assumption) (by assumption) (by assumption)) (by omega))), rfl⟩
        · refine j_iconst (v := nI 1) hC dX5_comesBefore_85 (by decide) ?_
          refine j_goto (tgt := 90) hC dX5_comesBefore_86 (by decide) ?_
          exact j_iret hC9 rfl (rfl) dX5_comesBefore_90 ⟨(jv (by first | exact ah_t (ah_e (by omega)) (by omega) | exact ah_t (ah_d (by assumption) (by assumption) (by assumption)) (by omega) | exact ah_t (ah_u (by assumption) (by assumption) (by assumption)) (by omega))), rfl⟩
      · refine j_iload hC dX5_comesBefore_67 rfl ?_
        refine z_if_le (a := ((cmpT (q.2.2 (f)) (r.2.2 (f))))) (tgt := 76) hC dX5_comesBefore_69 (by decide) (by unfold zB; omega) (fun c8 => ?_) (fun c8 => ?_)
        · refine j_iconst (v := nI 0) hC dX5_comesBefore_76 (by decide) ?_
          refine j_goto (tgt := 90) hC dX5_comesBefore_77 (by decide) ?_
          exact j_iret hC9 rfl (rfl) dX5_comesBefore_90 ⟨(jv (by first | exact ah_f (ah_e (by omega)) (by omega) | exact ah_f (ah_d (by assumption) (by assumption) (by assumption)) (by omega) | exact ah_f (ah_u (by assumption) (by assumption) (by assumption)) (by omega))), rfl⟩
        · refine j_iconst (v := nI 1) hC dX5_comesBefore_72 (by decide) ?_
          refine j_goto (tgt := 90) hC dX5_comesBefore_73 (by decide) ?_
          exact j_iret hC9 rfl (rfl) dX5_comesBefore_90 ⟨(jv (by first | exact ah_t (ah_e (by omega)) (by omega) | exact ah_t (ah_d (by assumption) (by assumption) (by assumption)) (by omega) | exact ah_t (ah_u (by assumption) (by assumption) (by assumption)) (by omega))), rfl⟩
    · refine j_aload hC dX5_comesBefore_40 rfl (jrf_ref _) ?_
      refine c_V hC kv_X5_78 dX5_comesBefore_42 (m_X8_isEmpty hs9 hp1) (op1) rfl rfl rfl rfl (by decide) (Nat.le_of_ble_eq_true rfl) ?_
      refine jb_if_ne (tgt := 52) hC dX5_comesBefore_45 (by decide) (fun c9 => ?_) (fun c9 => ?_)
      · refine j_iconst (v := nI 0) hC dX5_comesBefore_52 (by decide) ?_
        exact j_iret hC9 rfl (rfl) dX5_comesBefore_53 ⟨(jv (by first | exact ah_f (ah_e (by omega)) (by omega) | exact ah_f (ah_d (by assumption) (by assumption) (by assumption)) (by omega) | exact ah_f (ah_u (by assumption) (by assumption) (by assumption)) (by omega))), rfl⟩
      · refine j_iconst (v := nI 1) hC dX5_comesBefore_48 (by decide) ?_
        refine j_goto (tgt := 53) hC dX5_comesBefore_49 (by decide) ?_
        exact j_iret hC9 rfl (rfl) dX5_comesBefore_53 ⟨(jv (by first | exact ah_t (ah_e (by omega)) (by omega) | exact ah_t (ah_d (by assumption) (by assumption) (by assumption)) (by omega) | exact ah_t (ah_u (by assumption) (by assumption) (by assumption)) (by omega))), rfl⟩
set_option maxHeartbeats 4000000 in
set_option maxRecDepth 100000 in
theorem m_X0_holdsFor {G : jG} {M : jM} {a z : Nat} {q : aRec} {x : pCo} {w : Value} (hs : (gL G).stackTraces = false) (h1 : M.1 a = some (.inr (4, [.int (jb (x.1 = true)), .int (nI (kSig x.2.1)), .int (nI x.2.2), w]))) (wf : wfC x) (hz : entR M.1 z q) : CM G M jX0_holdsFor 0 0 2 [.ref a, .ref z] (some (.int (jb (cnd1 q x = true)))) (M) := by
  refine jMet_of [some (.ref (a)), some (.ref (z))] (by decide) rfl (Nat.le_of_ble_eq_true rfl) (rfl) hs ?_
  intro C hC9 hG
  have hC := hC9.z
  have hs9 := jOK0_tr hC
  obtain ⟨b2, o1⟩ := hz.obj
  have e4 := hz.2
  have e5 := e4.1
  have e6 := e4.2.1
  have w1 := wf.1
  have w2 := wf.2.1
  have w3 := wf.2.2.1
  refine j_aload_n hC dX0_holdsFor_0 rfl (jrf_ref _) ?_
  refine j_get (v := .int (nI (kSig x.2.1))) hC kf_X0_13 dX0_holdsFor_1 (h1) (rfl) ?_
  rcases (show x.2.1 = 0 ∨ x.2.1 = 1 ∨ x.2.1 = 2 ∨ x.2.1 = 3 ∨ x.2.1 = 4 by omega) with hx | hx | hx | hx | hx
  · refine j_lookup (off := 44) (tgt := 48) hC dX0_holdsFor_4 (by decide +kernel) (by rw [show kSig x.2.1 = 102 by rw [hx]; rfl]; decide +kernel) (by decide) ?_
    have w4 := w3 hx
    refine j_aload_n hC dX0_holdsFor_48 rfl (jrf_ref _) ?_
    refine j_aload_n hC dX0_holdsFor_49 rfl (jrf_ref _) ?_
    refine j_get (v := .int (nI (x.2.2))) hC kf_X0_17 dX0_holdsFor_50 (h1) (rfl) ?_
    obtain ⟨p1, hp1, mp1⟩ := m_X1_textAt (f := x.2.2) hs9 hz (by omega)
    obtain ⟨fp1, op1⟩ := hp1.obj
    have lp1 := (hz.2.2.2 (x.2.2) (by omega)).1
    refine c_V hC kv_X0_28 dX0_holdsFor_53 (mp1) (o1) rfl rfl rfl rfl (by decide) (Nat.le_of_ble_eq_true rfl) ?_
    refine c_V hC kv_X0_34 dX0_holdsFor_56 (m_X8_isEmpty hs9 hp1) (op1) rfl rfl rfl rfl (by decide) (Nat.le_of_ble_eq_true rfl) ?_
    refine jb_if_ne (tgt := 66) hC dX0_holdsFor_59 (by decide) (fun c2 => ?_) (fun c2 => ?_)
    · refine j_iconst (v := nI 0) hC dX0_holdsFor_66 (by decide) ?_
      exact j_iret hC9 rfl (rfl) dX0_holdsFor_67 ⟨(jv (jb_f0 (by first | (rw [cn_0 (by omega)]; omega) | (rw [cn_1 (by omega) (by omega)]; omega) | (rw [cn_2 (by omega) (by omega) (by omega)]; omega) | (rw [cn_3 (by omega) (by omega) (by omega) (by omega)]; omega) | (rw [cn_4 (by omega) (by omega) (by omega) (by omega)]; omega)))), rfl⟩
    · refine j_iconst (v := nI 1) hC dX0_holdsFor_62 (by decide) ?_
      refine j_goto (tgt := 67) hC dX0_holdsFor_63 (by decide) ?_
      exact j_iret hC9 rfl (rfl) dX0_holdsFor_67 ⟨(jv (jb_t1 (by first | (rw [cn_0 (by omega)]; omega) | (rw [cn_1 (by omega) (by omega)]; omega) | (rw [cn_2 (by omega) (by omega) (by omega)]; omega) | (rw [cn_3 (by omega) (by omega) (by omega) (by omega)]; omega) | (rw [cn_4 (by omega) (by omega) (by omega) (by omega)]; omega)))), rfl⟩
  · refine j_lookup (off := 64) (tgt := 68) hC dX0_holdsFor_4 (by decide +kernel) (by rw [show kSig x.2.1 = 103 by rw [hx]; rfl]; decide +kernel) (by decide) ?_
    refine j_aload_n hC dX0_holdsFor_68 rfl (jrf_ref _) ?_
    refine j_get (v := .int (nI (q.1))) hC kf_X0_40 dX0_holdsFor_69 (o1) (rfl) ?_
    refine j_aload_n hC dX0_holdsFor_72 rfl (jrf_ref _) ?_
    refine j_get (v := .int (nI (x.2.2))) hC kf_X0_17 dX0_holdsFor_73 (h1) (rfl) ?_
    refine n_icmp_ne (tgt := 83) hC dX0_holdsFor_76 (by decide) (by omega) (by omega) (fun c3 => ?_) (fun c3 => ?_)
    · refine j_iconst (v := nI 0) hC dX0_holdsFor_83 (by decide) ?_
      exact j_iret hC9 rfl (rfl) dX0_holdsFor_84 ⟨(jv (jb_f0 (by first | (rw [cn_0 (by omega)]; omega) | (rw [cn_1 (by omega) (by omega)]; omega) | (rw [cn_2 (by omega) (by omega) (by omega)]; omega) | (rw [cn_3 (by omega) (by omega) (by omega) (by omega)]; omega) | (rw [cn_4 (by omega) (by omega) (by omega) (by omega)]; omega)))), rfl⟩
    · refine j_iconst (v := nI 1) hC dX0_holdsFor_79 (by decide) ?_
      refine j_goto (tgt := 84) hC dX0_holdsFor_80 (by decide) ?_
      exact j_iret hC9 rfl (rfl) dX0_holdsFor_84 ⟨(jv (jb_t1 (by first | (rw [cn_0 (by omega)]; omega) | (rw [cn_1 (by omega) (by omega)]; omega) | (rw [cn_2 (by omega) (by omega) (by omega)]; omega) | (rw [cn_3 (by omega) (by omega) (by omega) (by omega)]; omega) | (rw [cn_4 (by omega) (by omega) (by omega) (by omega)]; omega)))), rfl⟩
  · refine j_lookup (off := 81) (tgt := 85) hC dX0_holdsFor_4 (by decide +kernel) (by rw [show kSig x.2.1 = 60 by rw [hx]; rfl]; decide +kernel) (by decide) ?_
    refine j_aload_n hC dX0_holdsFor_85 rfl (jrf_ref _) ?_
    refine j_get (v := .int (nI (q.2.1))) hC kf_X0_43 dX0_holdsFor_86 (o1) (rfl) ?_
    refine j_aload_n hC dX0_holdsFor_89 rfl (jrf_ref _) ?_
    refine j_get (v := .int (nI (x.2.2))) hC kf_X0_17 dX0_holdsFor_90 (h1) (rfl) ?_
    refine n_icmp_ge (tgt := 100) hC dX0_holdsFor_93 (by decide) (by omega) (by omega) (fun c4 => ?_) (fun c4 => ?_)
    · refine j_iconst (v := nI 0) hC dX0_holdsFor_100 (by decide) ?_
      exact j_iret hC9 rfl (rfl) dX0_holdsFor_101 ⟨(jv (jb_f0 (by first | (rw [cn_0 (by omega)]; omega) | (rw [cn_1 (by omega) (by omega)]; omega) | (rw [cn_2 (by omega) (by omega) (by omega)]; omega) | (rw [cn_3 (by omega) (by omega) (by omega) (by omega)]; omega) | (rw [cn_4 (by omega) (by omega) (by omega) (by omega)]; omega)))), rfl⟩
    · refine j_iconst (v := nI 1) hC dX0_holdsFor_96 (by decide) ?_
      refine j_goto (tgt := 101) hC dX0_holdsFor_97 (by decide) ?_
      exact j_iret hC9 rfl (rfl) dX0_holdsFor_101 ⟨(jv (jb_t1 (by first | (rw [cn_0 (by omega)]; omega) | (rw [cn_1 (by omega) (by omega)]; omega) | (rw [cn_2 (by omega) (by omega) (by omega)]; omega) | (rw [cn_3 (by omega) (by omega) (by omega) (by omega)]; omega) | (rw [cn_4 (by omega) (by omega) (by omega) (by omega)]; omega)))), rfl⟩
  · refine j_lookup (off := 98) (tgt := 102) hC dX0_holdsFor_4 (by decide +kernel) (by rw [show kSig x.2.1 = 61 by rw [hx]; rfl]; decide +kernel) (by decide) ?_
    refine j_aload_n hC dX0_holdsFor_102 rfl (jrf_ref _) ?_
    refine j_get (v := .int (nI (q.2.1))) hC kf_X0_43 dX0_holdsFor_103 (o1) (rfl) ?_
    refine j_aload_n hC dX0_holdsFor_106 rfl (jrf_ref _) ?_
    refine j_get (v := .int (nI (x.2.2))) hC kf_X0_17 dX0_holdsFor_107 (h1) (rfl) ?_
    refine n_icmp_ne (tgt := 117) hC dX0_holdsFor_110 (by decide) (by omega) (by omega) (fun c5 => ?_) (fun c5 => ?_)
    · refine j_iconst (v := nI 0) hC dX0_holdsFor_117 (by decide) ?_
      exact j_iret hC9 rfl (rfl) dX0_holdsFor_118 ⟨(jv (jb_f0 (by first | (rw [cn_0 (by omega)]; omega) | (rw [cn_1 (by omega) (by omega)]; omega) | (rw [cn_2 (by omega) (by omega) (by omega)]; omega) | (rw [cn_3 (by omega) (by omega) (by omega) (by omega)]; omega) | (rw [cn_4 (by omega) (by omega) (by omega) (by omega)]; omega)))), rfl⟩
    · refine j_iconst (v := nI 1) hC dX0_holdsFor_113 (by decide) ?_
      refine j_goto (tgt := 118) hC dX0_holdsFor_114 (by decide) ?_
      exact j_iret hC9 rfl (rfl) dX0_holdsFor_118 ⟨(jv (jb_t1 (by first | (rw [cn_0 (by omega)]; omega) | (rw [cn_1 (by omega) (by omega)]; omega) | (rw [cn_2 (by omega) (by omega) (by omega)]; omega) | (rw [cn_3 (by omega) (by omega) (by omega) (by omega)]; omega) | (rw [cn_4 (by omega) (by omega) (by omega) (by omega)]; omega)))), rfl⟩
  · refine j_lookup (off := 115) (tgt := 119) hC dX0_holdsFor_4 (by decide +kernel) (by rw [show kSig x.2.1 = 62 by rw [hx]; rfl]; decide +kernel) (by decide) ?_
    refine j_aload_n hC dX0_holdsFor_119 rfl (jrf_ref _) ?_
    refine j_get (v := .int (nI (q.2.1))) hC kf_X0_43 dX0_holdsFor_120 (o1) (rfl) ?_
    refine j_aload_n hC dX0_holdsFor_123 rfl (jrf_ref _) ?_
    refine j_get (v := .int (nI (x.2.2))) hC kf_X0_17 dX0_holdsFor_124 (h1) (rfl) ?_
    refine n_icmp_le (tgt := 134) hC dX0_holdsFor_127 (by decide) (by omega) (by omega) (fun c6 => ?_) (fun c6 => ?_)
    · refine j_iconst (v := nI 0) hC dX0_holdsFor_134 (by decide) ?_
      exact j_iret hC9 rfl (rfl) dX0_holdsFor_135 ⟨(jv (jb_f0 (by first | (rw [cn_0 (by omega)]; omega) | (rw [cn_1 (by omega) (by omega)]; omega) | (rw [cn_2 (by omega) (by omega) (by omega)]; omega) | (rw [cn_3 (by omega) (by omega) (by omega) (by omega)]; omega) | (rw [cn_4 (by omega) (by omega) (by omega) (by omega)]; omega)))), rfl⟩
    · refine j_iconst (v := nI 1) hC dX0_holdsFor_130 (by decide) ?_
      refine j_goto (tgt := 135) hC dX0_holdsFor_131 (by decide) ?_
      exact j_iret hC9 rfl (rfl) dX0_holdsFor_135 ⟨(jv (jb_t1 (by first | (rw [cn_0 (by omega)]; omega) | (rw [cn_1 (by omega) (by omega)]; omega) | (rw [cn_2 (by omega) (by omega) (by omega)]; omega) | (rw [cn_3 (by omega) (by omega) (by omega) (by omega)]; omega) | (rw [cn_4 (by omega) (by omega) (by omega) (by omega)]; omega)))), rfl⟩
set_option maxHeartbeats 4000000 in
set_option maxRecDepth 100000 in
theorem m_X0_isTrueFor {G : jG} {M : jM} {a z : Nat} {q : aRec} {x : pCo} {w : Value} (hs : (gL G).stackTraces = false) (h1 : M.1 a = some (.inr (4, [.int (jb (x.1 = true)), .int (nI (kSig x.2.1)), .int (nI x.2.2), w]))) (wf : wfC x) (hz : entR M.1 z q) : CM G M jX0_isTrueFor 0 0 3 [.ref a, .ref z] (some (.int (jb (cndA q x = true)))) (M) := by
  refine jMet_of [some (.ref (a)), some (.ref (z))] (by decide) rfl (Nat.le_of_ble_eq_true rfl) (rfl) hs ?_
  intro C hC9 hG
  have hC := hC9.z
  have hs9 := jOK0_tr hC
  obtain ⟨b2, o1⟩ := hz.obj
  have e4 := hz.2
  have e5 := e4.1
  have e6 := e4.2.1
  have w1 := wf.1
  have w2 := wf.2.1
  have w3 := wf.2.2.1
  refine j_aload_n hC dX0_isTrueFor_0 rfl (jrf_ref _) ?_
  refine j_get (v := .int (jb (x.1 = true))) hC kf_X0_7 dX0_isTrueFor_1 (h1) (rfl) ?_
  refine j_aload_n hC dX0_isTrueFor_4 rfl (jrf_ref _) ?_
  refine j_aload_n hC dX0_isTrueFor_5 rfl (jrf_ref _) ?_
  refine c_V hC kv_X0_24 dX0_isTrueFor_6 (m_X0_holdsFor hs9 h1 wf hz) (h1) rfl rfl rfl rfl (by decide) (Nat.le_of_ble_eq_true rfl) ?_
  refine j_icmp_eq (tgt := 16) hC dX0_isTrueFor_9 (by decide) (fun c1 => ?_) (fun c1 => ?_)
  · refine j_iconst (v := nI 0) hC dX0_isTrueFor_16 (by decide) ?_
    exact j_iret hC9 rfl (rfl) dX0_isTrueFor_17 ⟨(jv (jb_f0 (cnd_f (Eq.symm (by assumption))))), rfl⟩
  · refine j_iconst (v := nI 1) hC dX0_isTrueFor_12 (by decide) ?_
    refine j_goto (tgt := 17) hC dX0_isTrueFor_13 (by decide) ?_
    exact j_iret hC9 rfl (rfl) dX0_isTrueFor_17 ⟨(jv (jb_t1 (cnd_t (fun e => absurd e.symm (by assumption))))), rfl⟩
def lMet (q : aRec) (cs : List pCo) : Bool := cs.all (cndA q)
theorem lMet_c {q : aRec} {x : pCo} {cs : List pCo} : lMet q (x :: cs) = (cndA q x && lMet q cs) := rfl
theorem lstR.jrf {H : jH} {v : Value} : ∀ {cs : List pCo}, lstR H v cs → jrf v
  | [], h => by rw [show v = .null from h]; exact jrf_null
  | x :: t, h => by
    obtain ⟨a, w, rfl, -⟩ := h
    exact jrf_ref a
set_option maxHeartbeats 4000000 in
set_option maxRecDepth 100000 in
theorem m_X4_isMetBy {G : jG} {M : jM} {a z : Nat} {q : aRec} {fs : List Value} {c : Value} {cs : List pCo} (hs : (gL G).stackTraces = false) (h1 : M.1 a = some (.inr (8, fs))) (h2 : fs[9]? = some c) (hl : lstR M.1 c cs) (hz : entR M.1 z q) : CM G M jX4_isMetBy 0 0 4 [.ref a, .ref z] (some (.int (jb (lMet q cs = true)))) (M) := by
  refine jMet_of [some (.ref (a)), some (.ref (z)), none] (by decide) rfl (Nat.le_of_ble_eq_true rfl) (rfl) hs ?_
  intro C hC9 hG
  have hC := hC9.z
  have hs9 := jOK0_tr hC
  obtain ⟨b2, o1⟩ := hz.obj
  refine j_aload_n hC dX4_isMetBy_0 rfl (jrf_ref _) ?_
  refine j_get (v := c) hC kf_X4_29 dX4_isMetBy_1 (h1) (h2) ?_
  refine j_astore_n2 hC dX4_isMetBy_4 (hl.jrf) (by decide) rfl ?_
  suffices K : ∀ (n9 : Nat) (w : Value) (ds : List pCo), ds.length < n9 → (lstR M.1 w ds) → (lMet q ds = lMet q cs) → J C (M) 0 0 5 [some (.ref (a)), some (.ref (z)), some (w)] [] from j_M (rfl) (K _ (c) (cs) (Nat.lt_succ_self _) (hl) (rfl))
  intro n9
  induction n9 with
  | zero => intro w ds hm; omega
  | succ n9 ih =>
    intro w ds hm hw he
    refine j_aload_n hC dX4_isMetBy_5 rfl (hw.jrf) ?_
    rcases ds with _ | ⟨x9, ds9⟩
    · obtain rfl : w = .null := hw
      refine c_ifnull0 (tgt := 27) hC dX4_isMetBy_6 (by decide) ?_
      refine j_iconst (v := nI 1) hC dX4_isMetBy_27 (by decide) ?_
      exact j_iret hC9 rfl (rfl) dX4_isMetBy_28 ⟨(jv (jb_t1 (by rw [← he]; rfl))), rfl⟩
    · obtain ⟨p9, w9, rfl, g1, g2, g3⟩ := hw
      have hlen : (x9 :: ds9).length = ds9.length + 1 := rfl
      refine j_ifnull hC dX4_isMetBy_6 ?_
      refine j_aload_n hC dX4_isMetBy_9 rfl (jrf_ref _) ?_
      refine j_aload_n hC dX4_isMetBy_10 rfl (jrf_ref _) ?_
      refine c_V hC kv_X4_48 dX4_isMetBy_11 (m_X0_isTrueFor hs9 g1 g3 hz) (g1) rfl rfl rfl rfl (by decide) (Nat.le_of_ble_eq_true rfl) ?_
      refine jb_if_ne (tgt := 19) hC dX4_isMetBy_14 (by decide) (fun c1 => ?_) (fun c1 => ?_)
      · refine j_aload_n hC dX4_isMetBy_19 rfl (jrf_ref _) ?_
        refine j_get (v := w9) hC kf_X4_54 dX4_isMetBy_20 (g1) (rfl) ?_
        refine j_astore_n2 hC dX4_isMetBy_23 (g2.jrf) (by decide) rfl ?_
        refine j_goto (tgt := 5) hC dX4_isMetBy_24 (by decide) ?_
        exact j_M (rfl) (ih (w9) (ds9) (by omega) (g2) (by rw [← he, lMet_c, show cndA q x9 = true by assumption, Bool.true_and]))
      · refine j_iconst (v := nI 0) hC dX4_isMetBy_17 (by decide) ?_
        exact j_iret hC9 rfl (rfl) dX4_isMetBy_18 ⟨(jv (jb_f0 (by rw [← he, lMet_c, Bool.and_eq_true]; exact fun e => absurd e.1 (by assumption)))), rfl⟩
set_option maxHeartbeats 4000000 in
set_option maxRecDepth 100000 in
theorem m_X2_pieceAt {G : jG} {M : jM} {a b n i k : Nat} {l0 v3 v4 v5 : Value} {f : Nat → Value} {p : Nat} (hs : (gL G).stackTraces = false) (h1 : M.1 a = some (.inr (6, [l0, .ref b, .int (nI n), v3, v4, v5]))) (h2 : M.1 b = some (.inl (.object RX4, k, f))) (hi : i < n) (hn : n ≤ k) (hk : k < 2 ^ 31) (hf : f i = .ref p) : CM G M jX2_pieceAt 0 0 0 [.ref a, .int (nI i)] (some (.ref p)) (M) := by
  refine jMet_of [some (.ref (a)), some (.int (nI (i)))] (by decide) rfl (Nat.le_of_ble_eq_true rfl) (rfl) hs ?_
  intro C hC9 hG
  have hC := hC9.z
  have hs9 := jOK0_tr hC
  refine j_iload_n hC dX2_pieceAt_0 rfl ?_
  refine n_if_lt (tgt := 21) hC dX2_pieceAt_1 (by decide) (by omega) (fun c1 => ?_) (fun c1 => ?_)
  · exact (show False by omega).elim
  · refine j_iload_n hC dX2_pieceAt_4 rfl ?_
    refine j_aload_n hC dX2_pieceAt_5 rfl (jrf_ref _) ?_
    refine j_get (v := .int (nI (n))) hC kf_X2_7 dX2_pieceAt_6 (h1) (rfl) ?_
    refine n_icmp_ge (tgt := 21) hC dX2_pieceAt_9 (by decide) (by omega) (by omega) (fun c2 => ?_) (fun c2 => ?_)
    · exact (show False by omega).elim
    · refine j_aload_n hC dX2_pieceAt_12 rfl (jrf_ref _) ?_
      refine j_get (v := .ref (b)) hC kf_X2_33 dX2_pieceAt_13 (h1) (rfl) ?_
      refine j_iload_n hC dX2_pieceAt_16 rfl ?_
      refine c_aald (i := i) (v := .ref (p)) hC dX2_pieceAt_17 (h2) rfl (by omega) (by omega) (hf) ?_
      refine j_goto (tgt := 22) hC dX2_pieceAt_18 (by decide) ?_
      exact j_aret hC9 rfl (by first | exact Or.inl ⟨_, rfl⟩ | exact Or.inr ⟨_, rfl⟩) dX2_pieceAt_22 ⟨rfl, rfl⟩ (jrf_ref _)
theorem jin_c {v : Int32} {n : Nat} (hn : n < 2 ^ 31) (h0 : ¬ v < 0) (h1 : ¬ nI n ≤ v) : jin v n = true := by
  obtain ⟨j, hj, rfl⟩ := nI_of h0
  rw [jin_nI hj]
  refine decide_eq_true ?_
  by_cases h : j < n
  · exact h
  · refine absurd ?_ h1
    rw [Int32.le_iff_toInt_le, nI_toInt hn, nI_toInt hj]
    omega
set_option maxHeartbeats 4000000 in
set_option maxRecDepth 100000 in
theorem m_X2_pieceAt_n {G : jG} {M : jM} {a n : Nat} {v : Int32} {l0 b0 v3 v4 v5 : Value} (hs : (gL G).stackTraces = false) (h1 : M.1 a = some (.inr (6, [l0, b0, .int (nI n), v3, v4, v5]))) (hv : ¬ jin v n = true) (hn : n < 2 ^ 31) : CM G M jX2_pieceAt 0 0 0 [.ref a, .int v] (some .null) (M) := by
  refine jMet_of [some (.ref (a)), some (.int (v))] (by decide) rfl (Nat.le_of_ble_eq_true rfl) (rfl) hs ?_
  intro C hC9 hG
  have hC := hC9.z
  have hs9 := jOK0_tr hC
  refine j_iload_n hC dX2_pieceAt_0 rfl ?_
  refine j_if_lt (tgt := 21) hC dX2_pieceAt_1 (by decide) (fun c1 => ?_) (fun c1 => ?_)
  · refine j_null hC dX2_pieceAt_21 ?_
    exact j_aret hC9 rfl (by first | exact Or.inl ⟨_, rfl⟩ | exact Or.inr ⟨_, rfl⟩) dX2_pieceAt_22 ⟨rfl, rfl⟩ jrf_null
  · refine j_iload_n hC dX2_pieceAt_4 rfl ?_
    refine j_aload_n hC dX2_pieceAt_5 rfl (jrf_ref _) ?_
    refine j_get (v := .int (nI (n))) hC kf_X2_7 dX2_pieceAt_6 (h1) (rfl) ?_
    refine j_icmp_ge (tgt := 21) hC dX2_pieceAt_9 (by decide) (fun c2 => ?_) (fun c2 => ?_)
    · refine j_null hC dX2_pieceAt_21 ?_
      exact j_aret hC9 rfl (by first | exact Or.inl ⟨_, rfl⟩ | exact Or.inr ⟨_, rfl⟩) dX2_pieceAt_22 ⟨rfl, rfl⟩ jrf_null
    · exact absurd (jin_c hn (by assumption) (by assumption)) hv
