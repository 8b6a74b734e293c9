/-! ===== a reader of templates: brackets ===== -/
section OB
variable {L : List Nat} {τ : pS} {i k : Nat} {cs : List pCo} {Z H : jH} {v : Value} {x : pCo}
theorem ob_0 : pOpen L i = ([pCondC L (i + 1, true)] ++ (pMore L 121 (pCond L (i + 1, true))).1, pWant L 58 (pMore L 121 (pCond L (i + 1, true))).2) := rfl
theorem ob_s {f : Nat} (hp : pOpen L i = (cs ++ (pMore L f τ).1, pWant L 58 (pMore L f τ).2)) (hf : 0 < f) (hx : pNx L 38 τ = true) : pOpen L i = ((cs ++ [pCondC L (pNext L 38 τ)]) ++ (pMore L (f - 1) (pCond L (pNext L 38 τ))).1, pWant L 58 (pMore L (f - 1) (pCond L (pNext L 38 τ))).2) := by
  rw [hp, pMore_s hf hx, List.append_cons]
theorem ob_e {f : Nat} (hp : pOpen L i = (cs ++ (pMore L f τ).1, pWant L 58 (pMore L f τ).2)) (hx : ¬ pNx L 38 τ = true) : pOpen L i = (cs, pWant L 58 τ) := by
  rw [hp, pMore_no hx, List.append_nil]
theorem ob_E {f : Nat} (hp : pOpen L i = (cs ++ (pMore L f τ).1, pWant L 58 (pMore L f τ).2)) : τ.1 ≤ (pOpen L i).2.1 := by
  rw [hp]
  exact Nat.le_trans (pMore_mo f τ) pWant_mo
theorem nx_w (h : τ.2 = false) : ¬ pNx L k τ = true := fun e => by rw [(pNx_iff.mp e).1] at h; cases h
theorem cond_le {f : Nat} : (if (pCondC L τ).2.1 = 0 then f ||| 2 ^ (pCondC L τ).2.2 else f) = f ||| (if (pCondC L τ).2.1 = 0 then 2 ^ (pCondC L τ).2.2 else 0) := by
  split
  · rfl
  · rw [Nat.or_zero]
theorem lst_1 {a : Nat} {w : Value} (h : H a = some (.inr (4, [.int (jb (x.1 = true)), .int (nI (kSig x.2.1)), .int (nI x.2.2), w]))) (hw : lstR H w cs.reverse) (hx : wfC x) : lstR H (.ref a) (cs ++ [x]).reverse := by
  rw [List.reverse_append]
  exact ⟨a, w, rfl, h, hw, hx⟩
theorem cond_32 {f : Nat} (hf : f < 32) : (if (pCondC L τ).2.1 = 0 then f ||| 2 ^ (pCondC L τ).2.2 else f) < 32 := by
  split
  · rename_i e; exact or_32 f hf _ (by have := (pCondC_wf (L := L) (σ := τ)).2.2.1 e; omega)
  · exact hf
theorem gK_1 {f : Nat} : f ||| orTo (gKo [x]) [x].length = f ||| (if x.2.1 = 0 then 2 ^ x.2.2 else 0) := by
  congr 1
  show 0 ||| gKo [x] 0 = _
  rw [Nat.zero_or]
  rfl
end OB
set_option maxHeartbeats 4000000 in
set_option maxRecDepth 100000 in
theorem m_X7_openBrackets_w {G : jG} {M : jM} {a tx : Nat} {σ : pS} {op : Nat → Int32} (hs : (gL G).stackTraces = false) (h1 : M.1 a = some (.inr (11, rdF a tx σ 4))) (hop : M.1 (a + 3) = some (.inl (.int, 4, fun j => .int (op j)))) (hBa : gB G ≤ a) : JMet G jX7_openBrackets [.ref a] (M) 0 0 8 (fun w M' => w = none ∧ M' = jput M a (.inr (11, rdF a tx (σ.1, false) 4))) jNo := by
  refine jMet_of [some (.ref (a)), none, none] (by decide) rfl (Nat.le_of_ble_eq_true rfl) (rfl) hs ?_
  intro C hC9 hG
  have hC := hC9.z
  have hs9 := jOK0_tr hC
  refine j_lt (fun hlt => ?_)
  have hBg : jB C = gB G := by rw [jB, hG]
  subst hG
  refine j_aload_n hC dX7_openBrackets_0 rfl (jrf_ref _) ?_
  refine j_get (v := .int (nI (4))) hC kf_X7_19 dX7_openBrackets_1 (h1) (rfl) ?_
  refine j_aload_n hC dX7_openBrackets_4 rfl (jrf_ref _) ?_
  refine j_get (v := .ref (a + 3)) hC kf_X7_15 dX7_openBrackets_5 (h1) (rfl) ?_
  refine c_alen hC dX7_openBrackets_8 (hop) ?_
  refine n_icmp_lt (tgt := 18) hC dX7_openBrackets_9 (by decide) (by omega) (by omega) (fun c1 => ?_) (fun c1 => ?_)
  · exact absurd c1 (by decide)
  · refine j_aload_n hC dX7_openBrackets_12 rfl (jrf_ref _) ?_
    refine j_iconst (v := nI 1) hC dX7_openBrackets_13 (by decide) ?_
    refine c_put (fs' := [.ref (a + 4), .int (nI σ.1), .ref tx, .ref (a + 3), .int (nI 4), .int (nI (1))]) hC kp_X7_22 dX7_openBrackets_14 (h1) (by omega) (by decide) (by decide) rfl ?_
    exact j_vret hC9 rfl dX7_openBrackets_17 (⟨rfl, rfl⟩)
set_option maxHeartbeats 4000000 in
set_option maxRecDepth 100000 in
theorem m_X7_openBrackets {G : jG} {M : jM} {a tx dp n dd f br : Nat} {L : List Nat} {σ : pS} {g : Nat → Value} {op : Nat → Int32} {o : Int} {Z : jH} (hs : (gL G).stackTraces = false) (h1 : M.1 a = some (.inr (11, rdF a tx σ dp))) (hly : M.1 (a + 4) = some (.inr (6, lyF a L n dd f br))) (hrw : M.1 (a + 5) = some (.inl (.object RX4, L.length, g))) (hop : M.1 (a + 3) = some (.inl (.int, 4, fun j => .int (op j)))) (ho : opR op dp o) (hn : n < L.length) (hL : L.length ≤ 120) (hBa : gB G ≤ a) (htx : strR Z tx L) (hz : sub Z M.1) (hZ : ∀ b, a ≤ b → b ≠ a + 1 → b ≠ a + 2 → Z b = none) (hp : σ.1 ≤ 120) (hok : σ.2 = true) (hat : σ.1 < L.length) (hdp : dp < 4) (hf : f < 32) (hdd : dd ≤ 4) : JMet G jX7_openBrackets [.ref a] (M) (2 + ((pOpen L σ.1).2.1 - σ.1)) (15 + 4 * ((pOpen L σ.1).2.1 - σ.1)) 8 (fun w M' => w = none ∧ M'.1 a = some (.inr (11, rdF a tx (pOpen L σ.1).2 (dp + 1))) ∧ M'.1 (a + 3) = some (.inl (.int, 4, fun j => .int (upd op dp (nI n) j))) ∧ (∃ ff, M'.1 (a + 4) = some (.inr (6, lyF a L (n + 1) (max dd (dp + 1)) ff (br + 1))) ∧ ((pOpen L σ.1).2.2 = true → ff = f ||| orTo (gKo (pOpen L σ.1).1) (pOpen L σ.1).1.length)) ∧ M'.1 (a + 5) = some (.inl (.object RX4, L.length, updV g n (.ref M.2))) ∧ (∃ v, M'.1 M.2 = some (.inr (8, pcF 5 σ.1 dp o (.int (nI 32)) (.int (nI 0)) (.int (nI 32)) (.ref (gK G 18)) (.ref (gK G 18)) v (.int (nI 0)))) ∧ ((pOpen L σ.1).2.2 = true → lstR (zf Z M'.1 a) v (pOpen L σ.1).1.reverse)) ∧ (∀ b o, M.1 b = some o → b ≠ a → b ≠ a + 3 → b ≠ a + 4 → b ≠ a + 5 → M'.1 b = some o)) jNo := by
  refine jMet_of [some (.ref (a)), none, none] (by decide) rfl (Nat.le_of_ble_eq_true rfl) (rfl) hs ?_
  intro C hC9 hG
  have hC := hC9.z
  have hs9 := jOK0_tr hC
  refine j_lt (fun hlt => ?_)
  have hBg : jB C = gB G := by rw [jB, hG]
  subst hG
  have hL5 := htx.2.1
  have ha2 := hlt _ _ h1
  have hal := hlt _ _ hly
  have har := hlt _ _ hrw
  have hao := hlt _ _ hop
  have hza : Z a = none := hZ _ (Nat.le_refl _) (by omega) (by omega)
  have hza2 : Z (a + 4) = none := hZ _ (by omega) (by omega) (by omega)
  have hZM : Z M.2 = none := hZ _ (by omega) (by omega) (by omega)
  have hza1 : Z (a + 3) = none := hZ _ (by omega) (by omega) (by omega)
  refine j_aload_n hC dX7_openBrackets_0 rfl (jrf_ref _) ?_
  refine j_get (v := .int (nI (dp))) hC kf_X7_19 dX7_openBrackets_1 (h1) (rfl) ?_
  refine j_aload_n hC dX7_openBrackets_4 rfl (jrf_ref _) ?_
  refine j_get (v := .ref (a + 3)) hC kf_X7_15 dX7_openBrackets_5 (h1) (rfl) ?_
  refine c_alen hC dX7_openBrackets_8 (hop) ?_
  refine n_icmp_lt (tgt := 18) hC dX7_openBrackets_9 (by decide) (by omega) (by omega) (fun c1 => ?_) (fun c1 => ?_)
  · refine j_aload_n hC dX7_openBrackets_18 rfl (jrf_ref _) ?_
    refine j_iconst (v := nI 5) hC dX7_openBrackets_19 (by decide) ?_
    refine j_less (kc' := (1 + ((pOpen L σ.1).2.1 - σ.1)) + 1) (ks' := (4 + 4 * ((pOpen L σ.1).2.1 - σ.1)) + 11) (by omega) (by omega) ?_
    refine c_Pv (kc := (1 + ((pOpen L σ.1).2.1 - σ.1))) (ks := (4 + 4 * ((pOpen L σ.1).2.1 - σ.1))) hC kv_X7_48 dX7_openBrackets_20 (m_X7_addPiece (k := 5) hs9 h1 hly hrw hop ho hn hL hBa (by omega)) h1 rfl rfl rfl rfl (by decide) (Nat.le_of_ble_eq_true rfl) ?_
    intro v9 M1 h9
    obtain ⟨rfl, e1, e2, e3, e4, e5, e6⟩ := h9
    rw [hok] at e1
    have hz1 : sub Z M1.1 := fun b o hb => e5 b o (hz b o hb) (by have := zlt hZ hb; omega) (by have := zlt hZ hb; omega) (by have := zlt hZ hb; omega)
    generalize ht0 : ((σ.1 + 1, true) : pS) = τ at e1
    have ht1 : τ.1 = σ.1 + 1 := by rw [← ht0]
    have ht2 : τ.2 = true := by rw [← ht0]
    have hmo9 := pCond_mo (L := L) (σ := τ)
    have hce : (pCond L τ).1 ≤ L.length := pCond_le (by omega)
    refine j_astore_n1 hC dX7_openBrackets_23 (jrf_ref _) (by decide) rfl ?_
    refine j_aload_n hC dX7_openBrackets_24 rfl (jrf_ref _) ?_
    refine j_aload_n hC dX7_openBrackets_25 rfl (jrf_ref _) ?_
    refine j_null hC dX7_openBrackets_26 ?_
    refine j_less (kc' := ((pOpen L σ.1).2.1 - (pCond L τ).1) + 1) (ks' := 4 * ((pOpen L σ.1).2.1 - (pCond L τ).1) + 4) (by have := ob_E (ob_0 (L := L) (i := σ.1)); rw [ht0] at this; omega) (by have := ob_E (ob_0 (L := L) (i := σ.1)); rw [ht0] at this; omega) ?_
    refine c_Pv (kc := (pOpen L σ.1).2.1 - (pCond L τ).1) (ks := 4 * ((pOpen L σ.1).2.1 - (pCond L τ).1)) hC kv_X7_99 dX7_openBrackets_27 (m_X7_readCondition (σ := τ) (w0 := .null) hs9 e1 htx hz1 hza hBa (by omega) ht2 jrf_null e2 hza2 hf) e1 rfl rfl rfl rfl (by decide) (Nat.le_of_ble_eq_true rfl) ?_
    intro v9 M2 h9
    obtain ⟨rfl, f1, f2, ⟨fs1, f3, f4⟩, f5, f6⟩ := h9
    refine c_put (fs' := [.int (nI 5), .int (nI σ.1), .int (nI dp), .int (zI o), .int (nI 32), .int (nI 0), .int (nI 32), .ref (gK (jCG C) 18), .ref (gK (jCG C) 18), .ref (M1.2), .int (nI 0)]) hC kp_X7_103 dX7_openBrackets_30 (f5 _ _ (e4) (by omega) (by omega)) (by omega) (rfl) (rfl) rfl ?_
    refine j_iconst (v := nI 0) hC dX7_openBrackets_33 (by decide) ?_
    refine j_istore_n2 hC dX7_openBrackets_34 (by decide) rfl ?_
    suffices K : ∀ (n9 : Nat) (Mr : jM) (i : Nat) (τ : pS) (ff : Nat) (v : Value) (cs : List pCo), 200 - i < n9 → (σ.1 + 1 + i ≤ τ.1 ∧ τ.1 ≤ L.length) → (Mr.1 a = some (.inr (11, rdF a tx τ dp))) → (Mr.1 (a + 4) = some (.inr (6, lyF a L (n + 1) dd ff br))) → (Mr.1 (a + 5) = some (.inl (.object RX4, L.length, updV g n (.ref M.2)))) → (Mr.1 M.2 = some (.inr (8, pcF 5 σ.1 dp o (.int (nI 32)) (.int (nI 0)) (.int (nI 32)) (.ref (gK (jCG C) 18)) (.ref (gK (jCG C) 18)) v (.int (nI 0))))) → (∀ b o, M.1 b = some o → b ≠ a → b ≠ a + 4 → b ≠ a + 5 → Mr.1 b = some o) → (M.2 < Mr.2) → (jrf v) → (ff < 32) → (τ.2 = true → lstR (zf Z Mr.1 a) v cs.reverse ∧ ff = f ||| orTo (gKo cs) cs.length) → (pOpen L σ.1 = (cs ++ (pMore L (121 - i) τ).1, pWant L 58 (pMore L (121 - i) τ).2)) → J C Mr ((pOpen L σ.1).2.1 - τ.1) (4 * ((pOpen L σ.1).2.1 - τ.1)) 35 [some (.ref a), some (.ref M.2), some (.int (nI i))] [] by
      refine K _ _ 0 (pCond L τ) _ (.ref M1.2) [pCondC L τ] (Nat.lt_succ_self _) ⟨by omega, hce⟩ ((jput_ne (by show (a) ≠ (M.2); omega)).trans (f1)) ((jput_ne (by show (a + 4) ≠ (M.2); omega)).trans (f2)) ((jput_ne (by show (a + 5) ≠ (M.2); omega)).trans (f5 _ _ (e3) (by omega) (by omega))) (jput_at) (fun a9 o9 ha9 hn1 hn2 hn3 => ?_) (by show M.2 < M2.2; rw [f6, e6]; omega) (jrf_ref _) (cond_32 hf) (fun e => ⟨lst_1 (cs := []) ((zf_in (by omega)).trans ?_) rfl pCondC_wf, ?_⟩) ?_
      · have hl9 := hlt _ _ ha9
        exact (jput_ne (by show (a9) ≠ (M.2); omega)).trans (f5 _ _ (e5 _ _ (ha9) (by omega) (by omega) (by omega)) (by omega) (by omega))
      · exact (jput_ne (show M1.2 ≠ M.2 by omega)).trans (f3.trans (by rw [f4 e]))
      · rw [cond_le, gK_1]
      · have h0 := ob_0 (L := L) (i := σ.1)
        rw [ht0] at h0
        exact h0
    intro n9
    induction n9 with
    | zero => intro Mr i τ ff v cs hm; omega
    | succ n9 ih =>
      intro Mr i τ ff v cs hm ht hr1 hr2 hr3 hr4 hr5 hr6 hrj hr32 hrc hrp
      have hzr : sub Z Mr.1 := fun b o hb => hr5 b o (hz b o hb) (by have := zlt hZ hb; omega) (by have := zlt hZ hb; omega) (by have := zlt hZ hb; omega)
      have hc6 : pC L τ.1 ≤ 126 := chr_le htx.2
      refine j_iload_n hC dX7_openBrackets_35 rfl ?_
      refine j_aload_n hC dX7_openBrackets_36 rfl (jrf_ref _) ?_
      refine j_get (v := .ref (tx)) hC kf_X7_26 dX7_openBrackets_37 (hr1) (rfl) ?_
      refine c_V hC kv_X7_32 dX7_openBrackets_40 (m_J0_length_8abf5 hs9 (htx.mono hzr)) ((htx.mono hzr).obj.choose_spec) rfl rfl rfl rfl (by decide) (Nat.le_of_ble_eq_true rfl) ?_
      refine n_icmp_ge (tgt := 90) hC dX7_openBrackets_43 (by decide) (by omega) (by omega) (fun c2 => ?_) (fun c2 => ?_)
      · exact (show False by omega).elim
      · refine j_aload_n hC dX7_openBrackets_46 rfl (jrf_ref _) ?_
        refine j_get (v := .int (jb (τ.2 = false))) hC kf_X7_22 dX7_openBrackets_47 (hr1) (rfl) ?_
        refine jb_if_ne (tgt := 90) hC dX7_openBrackets_50 (by decide) (fun c3 => ?_) (fun c3 => ?_)
        · have hpe := ob_e hrp (nx_w (by assumption))
          refine j_less (kc' := 0) (ks' := 0) (Nat.zero_le _) (Nat.zero_le _) ?_
          refine j_aload_n hC dX7_openBrackets_90 rfl (jrf_ref _) ?_
          refine j_bipush (v := nI 58) hC dX7_openBrackets_91 (by decide) ?_
          refine c_Pv (kc' := 0) (ks' := 0) hC kv_X7_85 dX7_openBrackets_93 (m_X7_take (c := 58) (σ := τ) hs9 (hr1) htx hzr hza hBa (by omega) (by decide)) (hr1) rfl rfl rfl rfl (by decide) (Nat.le_of_ble_eq_true rfl) ?_
          intro v9 N4 h9
          obtain ⟨rfl, e9⟩ := h9
          refine j_M e9 ?_
          clear e9
          have hw5 := wt_le (L := L) (c := 58) (σ := τ)
          refine j_aload_n hC dX7_openBrackets_96 rfl (jrf_ref _) ?_
          refine j_get (v := .ref (a + 3)) hC kf_X7_15 dX7_openBrackets_97 (jput_at) (rfl) ?_
          refine j_aload_n hC dX7_openBrackets_100 rfl (jrf_ref _) ?_
          refine j_get (v := .int (nI (dp))) hC kf_X7_19 dX7_openBrackets_101 (jput_at) (rfl) ?_
          refine j_aload_n hC dX7_openBrackets_104 rfl (jrf_ref _) ?_
          refine j_get (v := .ref (a + 4)) hC kf_X7_41 dX7_openBrackets_105 (jput_at) (rfl) ?_
          refine j_get (v := .int (nI (n + 1))) hC kf_X7_107 dX7_openBrackets_108 ((jput_ne (by show (a + 4) ≠ (a); omega)).trans (hr2)) (rfl) ?_
          refine j_iconst (v := nI 1) hC dX7_openBrackets_111 (by decide) ?_
          refine n_isub hC dX7_openBrackets_112 (by omega) ?_
          refine j_top (rfl) ?_
          refine c_iast (i := dp) (x := nI (n)) hC dX7_openBrackets_113 ((jput_ne (by show (a + 3) ≠ (a); omega)).trans (hr5 _ _ hop (by omega) (by omega) (by omega))) (by omega) (by omega) (by omega) ?_
          refine j_aload_n hC dX7_openBrackets_114 rfl (jrf_ref _) ?_
          refine j_dup hC dX7_openBrackets_115 rfl ?_
          refine j_get (v := .int (nI (dp))) hC kf_X7_19 dX7_openBrackets_116 ((jput_ne (by show (a) ≠ (a + 3); omega)).trans (jput_at)) (rfl) ?_
          refine j_iconst (v := nI 1) hC dX7_openBrackets_119 (by decide) ?_
          refine n_iadd hC dX7_openBrackets_120 ?_
          refine c_put (fs' := [.ref (a + 4), .int (nI (pWant L 58 τ).1), .ref tx, .ref (a + 3), .int (nI (dp + 1)), .int (jb ((pWant L 58 τ).2 = false))]) hC kp_X7_19 dX7_openBrackets_121 ((jput_ne (by show (a) ≠ (a + 3); omega)).trans (jput_at)) (by omega) (rfl) (rfl) rfl ?_
          refine j_aload_n hC dX7_openBrackets_124 rfl (jrf_ref _) ?_
          refine j_get (v := .ref (a + 4)) hC kf_X7_41 dX7_openBrackets_125 (jput_at) (rfl) ?_
          refine j_aload_n hC dX7_openBrackets_128 rfl (jrf_ref _) ?_
          refine j_get (v := .ref (a + 4)) hC kf_X7_41 dX7_openBrackets_129 (jput_at) (rfl) ?_
          refine j_get (v := .int (nI (dd))) hC kf_X7_110 dX7_openBrackets_132 ((jput_ne (by show (a + 4) ≠ (a); omega)).trans ((jput_ne (by show (a + 4) ≠ (a + 3); omega)).trans ((jput_ne (by show (a + 4) ≠ (a); omega)).trans (hr2)))) (rfl) ?_
          refine j_aload_n hC dX7_openBrackets_135 rfl (jrf_ref _) ?_
          refine j_get (v := .int (nI (dp + 1))) hC kf_X7_19 dX7_openBrackets_136 (jput_at) (rfl) ?_
          refine c_max (a := dd) (b := dp + 1) hC ks_X7_113 dX7_openBrackets_139 (by omega) (by omega) (by decide) (Nat.le_of_ble_eq_true rfl) ?_
          refine c_put (fs' := [.int (nI L.length), .ref (a + 5), .int (nI (n + 1)), .int (nI (max (dd) (dp + 1))), .int (nI ff), .int (nI br)]) hC kp_X7_110 dX7_openBrackets_142 ((jput_ne (by show (a + 4) ≠ (a); omega)).trans ((jput_ne (by show (a + 4) ≠ (a + 3); omega)).trans ((jput_ne (by show (a + 4) ≠ (a); omega)).trans (hr2)))) (by omega) (rfl) (rfl) rfl ?_
          refine j_aload_n hC dX7_openBrackets_145 rfl (jrf_ref _) ?_
          refine j_get (v := .ref (a + 4)) hC kf_X7_41 dX7_openBrackets_146 ((jput_ne (by show (a) ≠ (a + 4); omega)).trans (jput_at)) (rfl) ?_
          refine j_dup hC dX7_openBrackets_149 rfl ?_
          refine j_get (v := .int (nI (br))) hC kf_X7_119 dX7_openBrackets_150 (jput_at) (rfl) ?_
          refine j_iconst (v := nI 1) hC dX7_openBrackets_153 (by decide) ?_
          refine n_iadd hC dX7_openBrackets_154 ?_
          refine c_put2 (fs' := [.int (nI L.length), .ref (a + 5), .int (nI (n + 1)), .int (nI (max (dd) (dp + 1))), .int (nI ff), .int (nI (br + 1))]) hC kp_X7_119 dX7_openBrackets_155 (by omega) (rfl) (rfl) rfl ?_
          have hk9 : ∀ c9 o9, Mr.1 c9 = some o9 → tgS o9 → (jput (jput (jput (jput (Mr) (a) (.inr (11, rdF a tx (pWant L 58 τ) dp))) (a + 3) (.inl (.int, 4, fun j => .int ((upd op (dp) (nI (n))) j)))) (a) (.inr (11, [.ref (a + 4), .int (nI (pWant L 58 τ).1), .ref tx, .ref (a + 3), .int (nI (dp + 1)), .int (jb ((pWant L 58 τ).2 = false))]))) (a + 4) (.inr (6, [.int (nI L.length), .ref (a + 5), .int (nI (n + 1)), .int (nI (max (dd) (dp + 1))), .int (nI ff), .int (nI (br + 1))]))).1 c9 = some o9 := fun c9 o9 hc9x ht9 => by
            have n1 : c9 ≠ a := hne_of hr1 hc9x (fun e => by rw [e] at ht9; exact tgS_no (by decide) ht9)
            have n3 : c9 ≠ a + 4 := hne_of hr2 hc9x (fun e => by rw [e] at ht9; exact tgS_no (by decide) ht9)
            have n4 : c9 ≠ a + 3 := hne_of (hr5 _ _ hop (by omega) (by omega) (by omega)) hc9x (fun e => by rw [e] at ht9; exact tgS_na (fun e => by cases e) ht9)
            exact (jput_ne (by show (c9) ≠ (a + 4); omega)).trans ((jput_ne (by show (c9) ≠ (a); omega)).trans ((jput_ne (by show (c9) ≠ (a + 3); omega)).trans ((jput_ne (by show (c9) ≠ (a); omega)).trans (hc9x))))
          have hfin1 : (pOpen L σ.1).2.2 = true → ff = f ||| orTo (gKo (pOpen L σ.1).1) (pOpen L σ.1).1.length := fun e => by
            rw [hpe] at e ⊢
            exact (hrc (pWant_ok e).1).2
          have hfin2 : (pOpen L σ.1).2.2 = true → lstR (zf Z (jput (jput (jput (jput (Mr) (a) (.inr (11, rdF a tx (pWant L 58 τ) dp))) (a + 3) (.inl (.int, 4, fun j => .int ((upd op (dp) (nI (n))) j)))) (a) (.inr (11, [.ref (a + 4), .int (nI (pWant L 58 τ).1), .ref tx, .ref (a + 3), .int (nI (dp + 1)), .int (jb ((pWant L 58 τ).2 = false))]))) (a + 4) (.inr (6, [.int (nI L.length), .ref (a + 5), .int (nI (n + 1)), .int (nI (max (dd) (dp + 1))), .int (nI ff), .int (nI (br + 1))]))).1 a) v (pOpen L σ.1).1.reverse := fun e => by
            rw [hpe] at e ⊢
            exact (hrc (pWant_ok e).1).1.keepT (zf_keep (W := tgS) (fun b o _ => hk9 b o))
          have hfin3 : ∀ b o, M.1 b = some o → b ≠ a → b ≠ a + 3 → b ≠ a + 4 → b ≠ a + 5 → (jput (jput (jput (jput (Mr) (a) (.inr (11, rdF a tx (pWant L 58 τ) dp))) (a + 3) (.inl (.int, 4, fun j => .int ((upd op (dp) (nI (n))) j)))) (a) (.inr (11, [.ref (a + 4), .int (nI (pWant L 58 τ).1), .ref tx, .ref (a + 3), .int (nI (dp + 1)), .int (jb ((pWant L 58 τ).2 = false))]))) (a + 4) (.inr (6, [.int (nI L.length), .ref (a + 5), .int (nI (n + 1)), .int (nI (max (dd) (dp + 1))), .int (nI ff), .int (nI (br + 1))]))).1 b = some o := fun a9 o9 ha9 hn1 hn4 hn2 hn3 => by
            have hl9 := hlt _ _ ha9
            exact (jput_ne (by show (a9) ≠ (a + 4); omega)).trans ((jput_ne (by show (a9) ≠ (a); omega)).trans ((jput_ne (by show (a9) ≠ (a + 3); omega)).trans ((jput_ne (by show (a9) ≠ (a); omega)).trans (hr5 _ _ ha9 hn1 hn2 hn3))))
          exact j_vret hC9 rfl dX7_openBrackets_158 (⟨rfl, by rw [hpe]; exact (jput_ne (by show (a) ≠ (a + 4); omega)).trans (jput_at), (jput_ne (by show (a + 3) ≠ (a + 4); omega)).trans ((jput_ne (by show (a + 3) ≠ (a); omega)).trans (jput_at)), ⟨ff, jput_at, hfin1⟩, (jput_ne (by show (a + 5) ≠ (a + 4); omega)).trans ((jput_ne (by show (a + 5) ≠ (a); omega)).trans ((jput_ne (by show (a + 5) ≠ (a + 3); omega)).trans ((jput_ne (by show (a + 5) ≠ (a); omega)).trans (hr3)))), ⟨v, (jput_ne (by show (M.2) ≠ (a + 4); omega)).trans ((jput_ne (by show (M.2) ≠ (a); omega)).trans ((jput_ne (by show (M.2) ≠ (a + 3); omega)).trans ((jput_ne (by show (M.2) ≠ (a); omega)).trans (hr4)))), hfin2⟩, hfin3⟩)
        · refine j_aload_n hC dX7_openBrackets_53 rfl (jrf_ref _) ?_
          refine c_V hC kv_X7_45 dX7_openBrackets_54 (m_X7_sign (σ := τ) hs9 (hr1) htx hzr (by omega)) (hr1) rfl rfl rfl rfl (by decide) (Nat.le_of_ble_eq_true rfl) ?_
          refine j_bipush (v := nI 38) hC dX7_openBrackets_57 (by decide) ?_
          refine n_icmp_ne (tgt := 90) hC dX7_openBrackets_59 (by decide) (by omega) (by omega) (fun c5 => ?_) (fun c5 => ?_)
          · have hpe := ob_e hrp (nx_no (by assumption))
            refine j_less (kc' := 0) (ks' := 0) (Nat.zero_le _) (Nat.zero_le _) ?_
            refine j_aload_n hC dX7_openBrackets_90 rfl (jrf_ref _) ?_
            refine j_bipush (v := nI 58) hC dX7_openBrackets_91 (by decide) ?_
            refine c_Pv (kc' := 0) (ks' := 0) hC kv_X7_85 dX7_openBrackets_93 (m_X7_take (c := 58) (σ := τ) hs9 (hr1) htx hzr hza hBa (by omega) (by decide)) (hr1) rfl rfl rfl rfl (by decide) (Nat.le_of_ble_eq_true rfl) ?_
            intro v9 N6 h9
            obtain ⟨rfl, e9⟩ := h9
            refine j_M e9 ?_
            clear e9
            have hw5 := wt_le (L := L) (c := 58) (σ := τ)
            refine j_aload_n hC dX7_openBrackets_96 rfl (jrf_ref _) ?_
            refine j_get (v := .ref (a + 3)) hC kf_X7_15 dX7_openBrackets_97 (jput_at) (rfl) ?_
            refine j_aload_n hC dX7_openBrackets_100 rfl (jrf_ref _) ?_
            refine j_get (v := .int (nI (dp))) hC kf_X7_19 dX7_openBrackets_101 (jput_at) (rfl) ?_
            refine j_aload_n hC dX7_openBrackets_104 rfl (jrf_ref _) ?_
            refine j_get (v := .ref (a + 4)) hC kf_X7_41 dX7_openBrackets_105 (jput_at) (rfl) ?_
            refine j_get (v := .int (nI (n + 1))) hC kf_X7_107 dX7_openBrackets_108 ((jput_ne (by show (a + 4) ≠ (a); omega)).trans (hr2)) (rfl) ?_
            refine j_iconst (v := nI 1) hC dX7_openBrackets_111 (by decide) ?_
            refine n_isub hC dX7_openBrackets_112 (by omega) ?_
            refine j_top (rfl) ?_
            refine c_iast (i := dp) (x := nI (n)) hC dX7_openBrackets_113 ((jput_ne (by show (a + 3) ≠ (a); omega)).trans (hr5 _ _ hop (by omega) (by omega) (by omega))) (by omega) (by omega) (by omega) ?_
            refine j_aload_n hC dX7_openBrackets_114 rfl (jrf_ref _) ?_
            refine j_dup hC dX7_openBrackets_115 rfl ?_
            refine j_get (v := .int (nI (dp))) hC kf_X7_19 dX7_openBrackets_116 ((jput_ne (by show (a) ≠ (a + 3); omega)).trans (jput_at)) (rfl) ?_
            refine j_iconst (v := nI 1) hC dX7_openBrackets_119 (by decide) ?_
            refine n_iadd hC dX7_openBrackets_120 ?_
            refine c_put (fs' := [.ref (a + 4), .int (nI (pWant L 58 τ).1), .ref tx, .ref (a + 3), .int (nI (dp + 1)), .int (jb ((pWant L 58 τ).2 = false))]) hC kp_X7_19 dX7_openBrackets_121 ((jput_ne (by show (a) ≠ (a + 3); omega)).trans (jput_at)) (by omega) (rfl) (rfl) rfl ?_
            refine j_aload_n hC dX7_openBrackets_124 rfl (jrf_ref _) ?_
            refine j_get (v := .ref (a + 4)) hC kf_X7_41 dX7_openBrackets_125 (jput_at) (rfl) ?_
            refine j_aload_n hC dX7_openBrackets_128 rfl (jrf_ref _) ?_
            refine j_get (v := .ref (a + 4)) hC kf_X7_41 dX7_openBrackets_129 (jput_at) (rfl) ?_
            refine j_get (v := .int (nI (dd))) hC kf_X7_110 dX7_openBrackets_132 ((jput_ne (by show (a + 4) ≠ (a); omega)).trans ((jput_ne (by show (a + 4) ≠ (a + 3); omega)).trans ((jput_ne (by show (a + 4) ≠ (a); omega)).trans (hr2)))) (rfl) ?_
            refine j_aload_n hC dX7_openBrackets_135 rfl (jrf_ref _) ?_
            refine j_get (v := .int (nI (dp + 1))) hC kf_X7_19 dX7_openBrackets_136 (jput_at) (rfl) ?_
            refine c_max (a := dd) (b := dp + 1) hC ks_X7_113 dX7_openBrackets_139 (by omega) (by omega) (by decide) (Nat.le_of_ble_eq_true rfl) ?_
            refine c_put (fs' := [.int (nI L.length), .ref (a + 5), .int (nI (n + 1)), .int (nI (max (dd) (dp + 1))), .int (nI ff), .int (nI br)]) hC kp_X7_110 dX7_openBrackets_142 ((jput_ne (by show (a + 4) ≠ (a); omega)).trans ((jput_ne (by show (a + 4) ≠ (a + 3); omega)).trans ((jput_ne (by show (a + 4) ≠ (a); omega)).trans (hr2)))) (by omega) (rfl) (rfl) rfl ?_
            refine j_aload_n hC dX7_openBrackets_145 rfl (jrf_ref _) ?_
            refine j_get (v := .ref (a + 4)) hC kf_X7_41 dX7_openBrackets_146 ((jput_ne (by show (a) ≠ (a + 4); omega)).trans (jput_at)) (rfl) ?_
            refine j_dup hC dX7_openBrackets_149 rfl ?_
            refine j_get (v := .int (nI (br))) hC kf_X7_119 dX7_openBrackets_150 (jput_at) (rfl) ?_
            refine j_iconst (v := nI 1) hC dX7_openBrackets_153 (by decide) ?_
            refine n_iadd hC dX7_openBrackets_154 ?_
            refine c_put2 (fs' := [.int (nI L.length), .ref (a + 5), .int (nI (n + 1)), .int (nI (max (dd) (dp + 1))), .int (nI ff), .int (nI (br + 1))]) hC kp_X7_119 dX7_openBrackets_155 (by omega) (rfl) (rfl) rfl ?_
            have hk9 : ∀ c9 o9, Mr.1 c9 = some o9 → tgS o9 → (jput (jput (jput (jput (Mr) (a) (.inr (11, rdF a tx (pWant L 58 τ) dp))) (a + 3) (.inl (.int, 4, fun j => .int ((upd op (dp) (nI (n))) j)))) (a) (.inr (11, [.ref (a + 4), .int (nI (pWant L 58 τ).1), .ref tx, .ref (a + 3), .int (nI (dp + 1)), .int (jb ((pWant L 58 τ).2 = false))]))) (a + 4) (.inr (6, [.int (nI L.length), .ref (a + 5), .int (nI (n + 1)), .int (nI (max (dd) (dp + 1))), .int (nI ff), .int (nI (br + 1))]))).1 c9 = some o9 := fun c9 o9 hc9x ht9 => by
              have n1 : c9 ≠ a := hne_of hr1 hc9x (fun e => by rw [e] at ht9; exact tgS_no (by decide) ht9)
              have n3 : c9 ≠ a + 4 := hne_of hr2 hc9x (fun e => by rw [e] at ht9; exact tgS_no (by decide) ht9)
              have n4 : c9 ≠ a + 3 := hne_of (hr5 _ _ hop (by omega) (by omega) (by omega)) hc9x (fun e => by rw [e] at ht9; exact tgS_na (fun e => by cases e) ht9)
              exact (jput_ne (by show (c9) ≠ (a + 4); omega)).trans ((jput_ne (by show (c9) ≠ (a); omega)).trans ((jput_ne (by show (c9) ≠ (a + 3); omega)).trans ((jput_ne (by show (c9) ≠ (a); omega)).trans (hc9x))))
            have hfin1 : (pOpen L σ.1).2.2 = true → ff = f ||| orTo (gKo (pOpen L σ.1).1) (pOpen L σ.1).1.length := fun e => by
              rw [hpe] at e ⊢
              exact (hrc (pWant_ok e).1).2
            have hfin2 : (pOpen L σ.1).2.2 = true → lstR (zf Z (jput (jput (jput (jput (Mr) (a) (.inr (11, rdF a tx (pWant L 58 τ) dp))) (a + 3) (.inl (.int, 4, fun j => .int ((upd op (dp) (nI (n))) j)))) (a) (.inr (11, [.ref (a + 4), .int (nI (pWant L 58 τ).1), .ref tx, .ref (a + 3), .int (nI (dp + 1)), .int (jb ((pWant L 58 τ).2 = false))]))) (a + 4) (.inr (6, [.int (nI L.length), .ref (a + 5), .int (nI (n + 1)), .int (nI (max (dd) (dp + 1))), .int (nI ff), .int (nI (br + 1))]))).1 a) v (pOpen L σ.1).1.reverse := fun e => by
              rw [hpe] at e ⊢
              exact (hrc (pWant_ok e).1).1.keepT (zf_keep (W := tgS) (fun b o _ => hk9 b o))
            have hfin3 : ∀ b o, M.1 b = some o → b ≠ a → b ≠ a + 3 → b ≠ a + 4 → b ≠ a + 5 → (jput (jput (jput (jput (Mr) (a) (.inr (11, rdF a tx (pWant L 58 τ) dp))) (a + 3) (.inl (.int, 4, fun j => .int ((upd op (dp) (nI (n))) j)))) (a) (.inr (11, [.ref (a + 4), .int (nI (pWant L 58 τ).1), .ref tx, .ref (a + 3), .int (nI (dp + 1)), .int (jb ((pWant L 58 τ).2 = false))]))) (a + 4) (.inr (6, [.int (nI L.length), .ref (a + 5), .int (nI (n + 1)), .int (nI (max (dd) (dp + 1))), .int (nI ff), .int (nI (br + 1))]))).1 b = some o := fun a9 o9 ha9 hn1 hn4 hn2 hn3 => by
              have hl9 := hlt _ _ ha9
              exact (jput_ne (by show (a9) ≠ (a + 4); omega)).trans ((jput_ne (by show (a9) ≠ (a); omega)).trans ((jput_ne (by show (a9) ≠ (a + 3); omega)).trans ((jput_ne (by show (a9) ≠ (a); omega)).trans (hr5 _ _ ha9 hn1 hn2 hn3))))
            exact j_vret hC9 rfl dX7_openBrackets_158 (⟨rfl, by rw [hpe]; exact (jput_ne (by show (a) ≠ (a + 4); omega)).trans (jput_at), (jput_ne (by show (a + 3) ≠ (a + 4); omega)).trans ((jput_ne (by show (a + 3) ≠ (a); omega)).trans (jput_at)), ⟨ff, jput_at, hfin1⟩, (jput_ne (by show (a + 5) ≠ (a + 4); omega)).trans ((jput_ne (by show (a + 5) ≠ (a); omega)).trans ((jput_ne (by show (a + 5) ≠ (a + 3); omega)).trans ((jput_ne (by show (a + 5) ≠ (a); omega)).trans (hr3)))), ⟨v, (jput_ne (by show (M.2) ≠ (a + 4); omega)).trans ((jput_ne (by show (M.2) ≠ (a); omega)).trans ((jput_ne (by show (M.2) ≠ (a + 3); omega)).trans ((jput_ne (by show (M.2) ≠ (a); omega)).trans (hr4)))), hfin2⟩, hfin3⟩)
          · refine j_aload_n hC dX7_openBrackets_62 rfl (jrf_ref _) ?_
            refine j_dup hC dX7_openBrackets_63 rfl ?_
            refine j_get (v := .int (nI (τ.1))) hC kf_X7_9 dX7_openBrackets_64 (hr1) (rfl) ?_
            refine j_iconst (v := nI 1) hC dX7_openBrackets_67 (by decide) ?_
            refine n_iadd hC dX7_openBrackets_68 ?_
            refine c_put (fs' := [.ref (a + 4), .int (nI ((τ.1) + (1))), .ref tx, .ref (a + 3), .int (nI dp), .int (jb (τ.2 = false))]) hC kp_X7_9 dX7_openBrackets_69 (hr1) (by omega) (rfl) (rfl) rfl ?_
            refine j_M (nxE1 (c := 38) (ok_t (by assumption)) (by assumption)) ?_
            refine j_aload_n hC dX7_openBrackets_72 rfl (jrf_ref _) ?_
            refine j_aload_n hC dX7_openBrackets_73 rfl (jrf_ref _) ?_
            refine j_aload_n hC dX7_openBrackets_74 rfl (jrf_ref _) ?_
            refine j_get (v := v) hC kf_X7_103 dX7_openBrackets_75 ((jput_ne (by show (M.2) ≠ (a); omega)).trans (hr4)) (rfl) ?_
            have hx9 : pNx L 38 τ = true := pNx_iff.mpr ⟨ok_t (by assumption), by assumption⟩
            have hrp9 := ob_s hrp (by omega) hx9
            have hE9 := ob_E hrp9
            have hmo9 := pCond_mo (L := L) (σ := pNext L 38 τ)
            have hnx9 : (pNext L 38 τ).1 = τ.1 + 1 := by rw [pNext_of hx9]
            have hle9 := pCond_le (L := L) (σ := pNext L 38 τ) (pNext_le (by decide) (by omega))
            refine j_less (kc' := ((pOpen L σ.1).2.1 - (pCond L (pNext L 38 τ)).1) + 1) (ks' := 4 * ((pOpen L σ.1).2.1 - (pCond L (pNext L 38 τ)).1) + 4) (by omega) (by omega) ?_
            refine c_Pv (kc := (pOpen L σ.1).2.1 - (pCond L (pNext L 38 τ)).1) (ks := 4 * ((pOpen L σ.1).2.1 - (pCond L (pNext L 38 τ)).1)) hC kv_X7_99 dX7_openBrackets_78 (m_X7_readCondition (σ := pNext L 38 τ) (w0 := v) hs9 (jput_at) htx (sub_put (hza) hzr) hza hBa (by omega) (by rw [pNext_of hx9]) hrj ((jput_ne (by show (a + 4) ≠ (a); omega)).trans (hr2)) hza2 hr32) (jput_at) rfl rfl rfl rfl (by decide) (Nat.le_of_ble_eq_true rfl) ?_
            intro v9 M3 h9
            obtain ⟨rfl, f1, f2, ⟨fs1, f3, f4⟩, f5, f6⟩ := h9
            refine c_put (fs' := [.int (nI 5), .int (nI σ.1), .int (nI dp), .int (zI o), .int (nI 32), .int (nI 0), .int (nI 32), .ref (gK (jCG C) 18), .ref (gK (jCG C) 18), .ref (Mr.2), .int (nI 0)]) hC kp_X7_103 dX7_openBrackets_81 (f5 _ _ ((jput_ne (by show (M.2) ≠ (a); omega)).trans (hr4)) (by omega) (by omega)) (by omega) (rfl) (rfl) rfl ?_
            refine j_iinc_2 (v := nI (i + 1)) hC dX7_openBrackets_84 (nI_add _ _) (by decide) rfl ?_
            refine j_goto (tgt := 35) hC dX7_openBrackets_87 (by decide) ?_
            have hk9 : ∀ c9 o9, Mr.1 c9 = some o9 → tgS o9 → (jput (M3) (M.2) (.inr (8, [.int (nI 5), .int (nI σ.1), .int (nI dp), .int (zI o), .int (nI 32), .int (nI 0), .int (nI 32), .ref (gK (jCG C) 18), .ref (gK (jCG C) 18), .ref (Mr.2), .int (nI 0)]))).1 c9 = some o9 := fun c9 o9 hc9x ht9 => by
              have n1 : c9 ≠ a := hne_of hr1 hc9x (fun e => by rw [e] at ht9; exact tgS_no (by decide) ht9)
              have n3 : c9 ≠ a + 4 := hne_of hr2 hc9x (fun e => by rw [e] at ht9; exact tgS_no (by decide) ht9)
              have n2 : c9 ≠ M.2 := hne_of hr4 hc9x (fun e => by rw [e] at ht9; exact tgS_no (by decide) ht9)
              exact (jput_ne (by show (c9) ≠ (M.2); omega)).trans (f5 _ _ ((jput_ne (by show (c9) ≠ (a); omega)).trans (hc9x)) (by omega) (by omega))
            refine ih (jput (M3) (M.2) (.inr (8, [.int (nI 5), .int (nI σ.1), .int (nI dp), .int (zI o), .int (nI 32), .int (nI 0), .int (nI 32), .ref (gK (jCG C) 18), .ref (gK (jCG C) 18), .ref (Mr.2), .int (nI 0)]))) (i + 1) (pCond L (pNext L 38 τ)) _ (.ref Mr.2) (cs ++ [pCondC L (pNext L 38 τ)]) (by omega) (by omega) ((jput_ne (by show (a) ≠ (M.2); omega)).trans (f1)) ((jput_ne (by show (a + 4) ≠ (M.2); omega)).trans (f2)) ((jput_ne (by show (a + 5) ≠ (M.2); omega)).trans (f5 _ _ ((jput_ne (by show (a + 5) ≠ (a); omega)).trans (hr3)) (by omega) (by omega))) (jput_at) (fun a9 o9 ha9 hn1 hn2 hn3 => ?_) (by show _ < M3.2; rw [f6]; exact Nat.lt_succ_of_lt hr6) (jrf_ref _) (cond_32 hr32) (fun e => ⟨lst_1 (zf_in (by omega) |>.trans ?_) ((hrc (ok_t (by assumption))).1.keepT (zf_keep (W := tgS) (fun b o _ => hk9 b o))) pCondC_wf, ?_⟩) (by rw [show 121 - (i + 1) = 121 - i - 1 by omega]; exact hrp9)
            · have hl9 := hlt _ _ ha9
              exact (jput_ne (by show (a9) ≠ (M.2); omega)).trans (f5 _ _ ((jput_ne (by show (a9) ≠ (a); omega)).trans (hr5 _ _ ha9 hn1 hn2 hn3)) (by omega) (by omega))
            · exact (jput_ne (show Mr.2 ≠ M.2 by omega)).trans (f3.trans (by rw [f4 e]))
            · rw [cond_le, (hrc (ok_t (by assumption))).2, mC_push, Nat.or_assoc]
  · exact (show False by omega).elim
