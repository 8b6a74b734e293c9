/-! ===== a reader of templates: items that are no brackets ===== -/
theorem zlt {Z : jH} {a b : Nat} {o : jO} (hZ : ∀ b, a ≤ b → b ≠ a + 1 → b ≠ a + 2 → Z b = none) (hb : Z b = some o) : b < a ∨ b = a + 1 ∨ b = a + 2 := by
  by_cases h : a ≤ b ∧ b ≠ a + 1 ∧ b ≠ a + 2
  · rw [hZ b h.1 h.2.1 h.2.2] at hb; cases hb
  · omega
theorem hne_of {M : jM} {a b : Nat} {o x : jO} (h : M.1 a = some x) (hb : M.1 b = some o) (ho : ¬ o = x) : b ≠ a := fun e => by
  subst e
  rw [h] at hb
  exact ho (Option.some.inj hb).symm
theorem i2c_of {x c : Nat} (h : x = c) (hc : c < 128) : (((nI x).toUInt32 % 65536).toInt32) = nI c := by
  subst h
  exact i2c_chr _ hc
section BX
variable {L : List Nat} {τ : pS} {i c : Nat}
theorem pw_w (h : τ.2 = false) : pNext L c τ = τ := pNext_no (fun e => by rw [(pNx_iff.mp e).1] at h; cases h)
theorem nx_no (h : ¬ pC L τ.1 = c) : ¬ pNx L c τ = true := fun e => h (pNx_iff.mp e).2
theorem pOne_3 : pOne L 3 i = pDv L 4 (i + 1, true) := rfl
theorem bx_w (ht : (i + 1, true) = τ) (h : (pDig L 4 τ).2 = false) : pEndσ L 3 i = pWant L 125 (pDig L 4 τ) ∧ (pEndσ L 3 i).2 = false := by
  subst ht
  have e : pEndσ L 3 i = pWant L 125 (pDig L 4 (i + 1, true)) := by
    rw [pEndσ, if_pos rfl, if_neg (fun e => by rw [(pNx_iff.mp e).1] at h; cases h), pw_w h]
  refine ⟨e, ?_⟩
  rw [e, tk_w h]
  exact h
theorem bx_1 (ht : (i + 1, true) = τ) (h : (pDig L 4 τ).2 = true) (h2 : pC L (pDig L 4 τ).1 = 94) : pEndσ L 3 i = pWant L 125 (pNext L 94 (pDig L 4 τ)) ∧ pTwo L 3 i = 1 := by
  subst ht
  have hx : pNx L 94 (pDig L 4 (i + 1, true)) = true := pNx_iff.mpr ⟨h, h2⟩
  exact ⟨by rw [pEndσ, if_pos rfl, if_pos hx], by rw [pTwo, if_pos rfl, if_pos hx]⟩
theorem bx_2 (ht : (i + 1, true) = τ) (h : (pDig L 4 τ).2 = true) (h1 : ¬ pC L (pDig L 4 τ).1 = 94) (h2 : pC L (pDig L 4 τ).1 = 42) : pEndσ L 3 i = pWant L 125 (pNext L 42 (pDig L 4 τ)) ∧ pTwo L 3 i = 2 := by
  subst ht
  have hn : ¬ pNx L 94 (pDig L 4 (i + 1, true)) = true := nx_no h1
  have hx : pNx L 42 (pDig L 4 (i + 1, true)) = true := pNx_iff.mpr ⟨h, h2⟩
  exact ⟨by rw [pEndσ, if_pos rfl, if_neg hn], by rw [pTwo, if_pos rfl, if_neg hn, if_pos hx]⟩
theorem bx_0 (ht : (i + 1, true) = τ) (h1 : ¬ pC L (pDig L 4 τ).1 = 94) (h2 : ¬ pC L (pDig L 4 τ).1 = 42) : pEndσ L 3 i = pWant L 125 (pDig L 4 τ) ∧ pTwo L 3 i = 0 := by
  subst ht
  have hn : ¬ pNx L 94 (pDig L 4 (i + 1, true)) = true := nx_no h1
  have hx : ¬ pNx L 42 (pDig L 4 (i + 1, true)) = true := nx_no h2
  exact ⟨by rw [pEndσ, if_pos rfl, if_neg hn, pNext_no hx], by rw [pTwo, if_pos rfl, if_neg hn, if_neg hx]⟩
def styN (k : Nat) : Nat := if k = 1 then 94 else if k = 2 then 42 else 32
end BX
set_option maxHeartbeats 4000000 in
set_option maxRecDepth 100000 in
theorem m_X7_readLiteral {G : jG} {M : jM} {a tx dp n dd f br : Nat} {L : List Nat} {σ : pS} {g : Nat → Value} {op : Nat → Int32} {o : Int} {Z : jH} {c : Nat} (hs : (gL G).stackTraces = false) (h1 : M.1 a = some (.inr (11, rdF a tx σ dp))) (hly : M.1 (a + 4) = some (.inr (6, lyF a L n dd f br))) (hrw : M.1 (a + 5) = some (.inl (.object RX4, L.length, g))) (hop : M.1 (a + 3) = some (.inl (.int, 4, fun j => .int (op j)))) (ho : opR op dp o) (hn : n < L.length) (hL : L.length ≤ 120) (hBa : gB G ≤ a) (htx : strR Z tx L) (hz : sub Z M.1) (hZ : ∀ b, a ≤ b → b ≠ a + 1 → b ≠ a + 2 → Z b = none) (hp : σ.1 ≤ 120) (hok : σ.2 = true) (hk1 : strR Z (gK G 19) litT) (hc : c ≤ 126) : JMet G jX7_readLiteral [.ref a, .int (nI c)] (M) 1 11 5 (fun w M' => w = none ∧ ((¬ isLit c = true ∧ M'.1 a = some (.inr (11, rdF a tx (σ.1, false) dp)) ∧ (∀ b o, M.1 b = some o → b ≠ a → M'.1 b = some o)) ∨ (isLit c = true ∧ M'.1 a = some (.inr (11, rdF a tx (σ.1 + 1, true) dp)) ∧ M'.1 (a + 4) = some (.inr (6, lyF a L (n + 1) dd f br)) ∧ M'.1 (a + 5) = some (.inl (.object RX4, L.length, updV g n (.ref M.2))) ∧ M'.1 M.2 = some (.inr (8, pcF 0 σ.1 dp o (.int (nI c)) (.int (nI 0)) (.int (nI 32)) (.ref (gK G 18)) (.ref (gK G 18)) .null (.int (nI 0)))) ∧ (∀ b o, M.1 b = some o → b ≠ a → b ≠ a + 4 → b ≠ a + 5 → M'.1 b = some o)))) jNo := by
  refine jMet_of [some (.ref (a)), some (.int (nI (c)))] (by decide) rfl (Nat.le_of_ble_eq_true rfl) (rfl) hs ?_
  intro C hC9 hG
  have hC := hC9.z
  have hs9 := jOK0_tr hC
  refine j_lt (fun hlt => ?_)
  have hBg : jB C = gB G := by rw [jB, hG]
  subst hG
  have hL5 := htx.2.1
  have ha2 := hlt _ _ h1
  have hal := hlt _ _ hly
  have har := hlt _ _ hrw
  have hao := hlt _ _ hop
  have hza : Z a = none := hZ _ (Nat.le_refl _) (by omega) (by omega)
  have hza2 : Z (a + 4) = none := hZ _ (by omega) (by omega) (by omega)
  have hZM : Z M.2 = none := hZ _ (by omega) (by omega) (by omega)
  refine j_iload_n hC dX7_readLiteral_0 rfl ?_
  refine c_S hC ks_X7_67 rfl dX7_readLiteral_1 (m_X7_isLiteral hs9 (hk1.mono hz) (by omega)) rfl rfl (by decide) (Nat.le_of_ble_eq_true rfl) ?_
  refine jb_if_eq (tgt := 20) hC dX7_readLiteral_4 (by decide) (fun c1 => ?_) (fun c1 => ?_)
  · refine j_aload_n hC dX7_readLiteral_20 rfl (jrf_ref _) ?_
    refine j_iconst (v := nI 1) hC dX7_readLiteral_21 (by decide) ?_
    refine c_put (fs' := [.ref (a + 4), .int (nI σ.1), .ref tx, .ref (a + 3), .int (nI dp), .int (nI (1))]) hC kp_X7_22 dX7_readLiteral_22 (h1) (by omega) (by decide) (by decide) rfl ?_
    exact j_vret hC9 rfl dX7_readLiteral_25 (⟨rfl, Or.inl ⟨by assumption, jput_at, fun a9 o9 ha9 hn1 => (jput_ne hn1).trans ha9⟩⟩)
  · refine j_aload_n hC dX7_readLiteral_7 rfl (jrf_ref _) ?_
    refine j_iconst (v := nI 0) hC dX7_readLiteral_8 (by decide) ?_
    refine c_Pv (kc := 0) (ks := 0) hC kv_X7_48 dX7_readLiteral_9 (m_X7_addPiece (k := 0) hs9 h1 hly hrw hop ho hn hL hBa (by omega)) (h1) rfl rfl rfl rfl (by decide) (Nat.le_of_ble_eq_true rfl) ?_
    intro v9 M1 h9
    obtain ⟨rfl, e1, e2, e3, e4, e5, e6⟩ := h9
    rw [hok] at e1
    have hz1 : sub Z M1.1 := fun b o hb => e5 b o (hz b o hb) (by have := zlt hZ hb; omega) (by have := zlt hZ hb; omega) (by have := zlt hZ hb; omega)
    generalize ht0 : ((σ.1 + 1, true) : pS) = τ at e1
    have ht1 : τ.1 = σ.1 + 1 := by rw [← ht0]
    have ht2 : τ.2 = true := by rw [← ht0]
    refine j_iload_n hC dX7_readLiteral_12 rfl ?_
    refine j_i2c hC dX7_readLiteral_13 ?_
    refine j_top (i2c_chr _ (by omega)) ?_
    refine c_put (fs' := [.int (nI 0), .int (nI σ.1), .int (nI dp), .int (zI o), .int (nI (c)), .int (nI 0), .int (nI 32), .ref (gK (jCG C) 18), .ref (gK (jCG C) 18), .null, .int (nI 0)]) hC kp_X7_71 dX7_readLiteral_14 (e4) (by omega) (nar_chr _ (by omega)) (fit_chr _ (by omega)) rfl ?_
    refine j_goto (tgt := 25) hC dX7_readLiteral_17 (by decide) ?_
    exact j_vret hC9 rfl dX7_readLiteral_25 (⟨rfl, Or.inr ⟨by assumption, ht0.symm ▸ ((jput_ne (by show (a) ≠ (M.2); omega)).trans (e1)), (jput_ne (by show (a + 4) ≠ (M.2); omega)).trans (e2), (jput_ne (by show (a + 5) ≠ (M.2); omega)).trans (e3), jput_at, fun a9 o9 ha9 hn1 hn2 hn3 => by
  have hl9 := hlt _ _ ha9
  exact (jput_ne (by show (a9) ≠ (M.2); omega)).trans (e5 _ _ (ha9) (by omega) (by omega) (by omega))⟩⟩)
set_option maxHeartbeats 4000000 in
set_option maxRecDepth 100000 in
theorem m_X7_readBraces {G : jG} {M : jM} {a tx dp n dd f br : Nat} {L : List Nat} {σ : pS} {g : Nat → Value} {op : Nat → Int32} {o : Int} {Z : jH} (hs : (gL G).stackTraces = false) (h1 : M.1 a = some (.inr (11, rdF a tx σ dp))) (hly : M.1 (a + 4) = some (.inr (6, lyF a L n dd f br))) (hrw : M.1 (a + 5) = some (.inl (.object RX4, L.length, g))) (hop : M.1 (a + 3) = some (.inl (.int, 4, fun j => .int (op j)))) (ho : opR op dp o) (hn : n < L.length) (hL : L.length ≤ 120) (hBa : gB G ≤ a) (htx : strR Z tx L) (hz : sub Z M.1) (hZ : ∀ b, a ≤ b → b ≠ a + 1 → b ≠ a + 2 → Z b = none) (hp : σ.1 ≤ 120) (hok : σ.2 = true) (hf : f < 32) : JMet G jX7_readBraces [.ref a] (M) 1 11 7 (fun w M' => w = none ∧ M'.1 a = some (.inr (11, rdF a tx (pEndσ L 3 σ.1) dp)) ∧ M'.1 (a + 4) = some (.inr (6, lyF a L (n + 1) dd (f ||| 2 ^ pOne L 3 σ.1) br)) ∧ M'.1 (a + 5) = some (.inl (.object RX4, L.length, updV g n (.ref M.2))) ∧ (∃ sg, M'.1 M.2 = some (.inr (8, pcF 3 σ.1 dp o (.int (nI 32)) (.int (nI (pOne L 3 σ.1))) (.int (nI sg)) (.ref (gK G 18)) (.ref (gK G 18)) .null (.int (nI 0)))) ∧ ((pEndσ L 3 σ.1).2 = true → sg = styN (pTwo L 3 σ.1))) ∧ (∀ b o, M.1 b = some o → b ≠ a → b ≠ a + 4 → b ≠ a + 5 → M'.1 b = some o)) jNo := by
  refine jMet_of [some (.ref (a)), none] (by decide) rfl (Nat.le_of_ble_eq_true rfl) (rfl) hs ?_
  intro C hC9 hG
  have hC := hC9.z
  have hs9 := jOK0_tr hC
  refine j_lt (fun hlt => ?_)
  have hBg : jB C = gB G := by rw [jB, hG]
  subst hG
  have hL5 := htx.2.1
  have ha2 := hlt _ _ h1
  have hal := hlt _ _ hly
  have har := hlt _ _ hrw
  have hao := hlt _ _ hop
  have hza : Z a = none := hZ _ (Nat.le_refl _) (by omega) (by omega)
  have hza2 : Z (a + 4) = none := hZ _ (by omega) (by omega) (by omega)
  have hZM : Z M.2 = none := hZ _ (by omega) (by omega) (by omega)
  refine j_aload_n hC dX7_readBraces_0 rfl (jrf_ref _) ?_
  refine j_iconst (v := nI 3) hC dX7_readBraces_1 (by decide) ?_
  refine c_Pv (kc := 0) (ks := 0) hC kv_X7_48 dX7_readBraces_2 (m_X7_addPiece (k := 3) hs9 h1 hly hrw hop ho hn hL hBa (by omega)) (h1) rfl rfl rfl rfl (by decide) (Nat.le_of_ble_eq_true rfl) ?_
  intro v9 M1 h9
  obtain ⟨rfl, e1, e2, e3, e4, e5, e6⟩ := h9
  rw [hok] at e1
  have hz1 : sub Z M1.1 := fun b o hb => e5 b o (hz b o hb) (by have := zlt hZ hb; omega) (by have := zlt hZ hb; omega) (by have := zlt hZ hb; omega)
  generalize ht0 : ((σ.1 + 1, true) : pS) = τ at e1
  have ht1 : τ.1 = σ.1 + 1 := by rw [← ht0]
  have ht2 : τ.2 = true := by rw [← ht0]
  refine j_astore_n1 hC dX7_readBraces_5 (jrf_ref _) (by decide) rfl ?_
  refine j_aload_n hC dX7_readBraces_6 rfl (jrf_ref _) ?_
  refine j_aload_n hC dX7_readBraces_7 rfl (jrf_ref _) ?_
  refine c_Pv (kc' := 0) (ks' := 0) hC kv_X7_76 dX7_readBraces_8 (m_X7_takeField (σ := τ) hs9 (e1) htx hz1 hza hBa (by omega) (e2) hza2 hf) (e1) rfl rfl rfl rfl (by decide) (Nat.le_of_ble_eq_true rfl) ?_
  intro v9 N1 h9
  obtain ⟨rfl, e9⟩ := h9
  refine j_M e9 ?_
  clear e9
  have hd4 := td_le (L := L) (m := 4) (σ := τ)
  refine c_put (fs' := [.int (nI 3), .int (nI σ.1), .int (nI dp), .int (zI o), .int (nI 32), .int (nI (pDv L 4 τ)), .int (nI 32), .ref (gK (jCG C) 18), .ref (gK (jCG C) 18), .null, .int (nI 0)]) hC kp_X7_79 dX7_readBraces_11 ((jput_ne (by show (M.2) ≠ (a + 4); omega)).trans ((jput_ne (by show (M.2) ≠ (a); omega)).trans (e4))) (by omega) (rfl) (rfl) rfl ?_
  refine j_aload_n hC dX7_readBraces_14 rfl (jrf_ref _) ?_
  refine j_get (v := .int (jb ((pDig L 4 τ).2 = false))) hC kf_X7_22 dX7_readBraces_15 ((jput_ne (by show (a) ≠ (M.2); omega)).trans ((jput_ne (by show (a) ≠ (a + 4); omega)).trans (jput_at))) (rfl) ?_
  refine jb_if_ne (tgt := 58) hC dX7_readBraces_18 (by decide) (fun c2 => ?_) (fun c2 => ?_)
  · refine j_aload_n hC dX7_readBraces_58 rfl (jrf_ref _) ?_
    refine j_bipush (v := nI 125) hC dX7_readBraces_59 (by decide) ?_
    refine c_Pv (kc' := 0) (ks' := 0) hC kv_X7_85 dX7_readBraces_61 (m_X7_take (c := 125) (σ := (pDig L 4 τ)) hs9 ((jput_ne (by show (a) ≠ (M.2); omega)).trans ((jput_ne (by show (a) ≠ (a + 4); omega)).trans (jput_at))) htx (sub_put (hZM) (sub_put (hza2) (sub_put (hza) hz1))) hza hBa (by omega) (by decide)) ((jput_ne (by show (a) ≠ (M.2); omega)).trans ((jput_ne (by show (a) ≠ (a + 4); omega)).trans (jput_at))) rfl rfl rfl rfl (by decide) (Nat.le_of_ble_eq_true rfl) ?_
    intro v9 N3 h9
    obtain ⟨rfl, e9⟩ := h9
    refine j_M e9 ?_
    clear e9
    have hw5 := wt_le (L := L) (c := 125) (σ := (pDig L 4 τ))
    have hbx := bx_w ht0 (by assumption)
    have ho3 : pOne L 3 σ.1 = pDv L 4 τ := by rw [← ht0]; rfl
    exact j_vret hC9 rfl dX7_readBraces_64 (⟨rfl, by rw [hbx.1]; exact jput_at, by rw [ho3]; exact (jput_ne (by show (a + 4) ≠ (a); omega)).trans ((jput_ne (by show (a + 4) ≠ (M.2); omega)).trans (jput_at)), (jput_ne (by show (a + 5) ≠ (a); omega)).trans ((jput_ne (by show (a + 5) ≠ (M.2); omega)).trans ((jput_ne (by show (a + 5) ≠ (a + 4); omega)).trans ((jput_ne (by show (a + 5) ≠ (a); omega)).trans (e3)))), ⟨32, by rw [ho3]; exact (jput_ne (by show (M.2) ≠ (a); omega)).trans (jput_at), fun e => by rw [hbx.2] at e; cases e⟩, fun a9 o9 ha9 hn1 hn2 hn3 => by
  have hl9 := hlt _ _ ha9
  exact (jput_ne (by show (a9) ≠ (a); omega)).trans ((jput_ne (by show (a9) ≠ (M.2); omega)).trans ((jput_ne (by show (a9) ≠ (a + 4); omega)).trans ((jput_ne (by show (a9) ≠ (a); omega)).trans (e5 _ _ (ha9) (by omega) (by omega) (by omega)))))⟩)
  · have hc6 : pC L (pDig L 4 τ).1 ≤ 126 := chr_le htx.2
    refine j_aload_n hC dX7_readBraces_21 rfl (jrf_ref _) ?_
    refine c_V hC kv_X7_45 dX7_readBraces_22 (m_X7_sign (σ := (pDig L 4 τ)) hs9 ((jput_ne (by show (a) ≠ (M.2); omega)).trans ((jput_ne (by show (a) ≠ (a + 4); omega)).trans (jput_at))) htx (sub_put (hZM) (sub_put (hza2) (sub_put (hza) hz1))) (by omega)) ((jput_ne (by show (a) ≠ (M.2); omega)).trans ((jput_ne (by show (a) ≠ (a + 4); omega)).trans (jput_at))) rfl rfl rfl rfl (by decide) (Nat.le_of_ble_eq_true rfl) ?_
    refine j_bipush (v := nI 94) hC dX7_readBraces_25 (by decide) ?_
    refine n_icmp_eq (tgt := 39) hC dX7_readBraces_27 (by decide) (by omega) (by omega) (fun c4 => ?_) (fun c4 => ?_)
    · refine j_aload_n hC dX7_readBraces_39 rfl (jrf_ref _) ?_
      refine j_aload_n hC dX7_readBraces_40 rfl (jrf_ref _) ?_
      refine c_V hC kv_X7_45 dX7_readBraces_41 (m_X7_sign (σ := (pDig L 4 τ)) hs9 ((jput_ne (by show (a) ≠ (M.2); omega)).trans ((jput_ne (by show (a) ≠ (a + 4); omega)).trans (jput_at))) htx (sub_put (hZM) (sub_put (hza2) (sub_put (hza) hz1))) (by omega)) ((jput_ne (by show (a) ≠ (M.2); omega)).trans ((jput_ne (by show (a) ≠ (a + 4); omega)).trans (jput_at))) rfl rfl rfl rfl (by decide) (Nat.le_of_ble_eq_true rfl) ?_
      refine j_i2c hC dX7_readBraces_44 ?_
      refine j_top (i2c_of (c := 94) (by assumption) (by decide)) ?_
      refine c_put2 (fs' := [.int (nI 3), .int (nI σ.1), .int (nI dp), .int (zI o), .int (nI 32), .int (nI (pDv L 4 τ)), .int (nI (94)), .ref (gK (jCG C) 18), .ref (gK (jCG C) 18), .null, .int (nI 0)]) hC kp_X7_82 dX7_readBraces_45 (by omega) (nar_chr _ (by omega)) (fit_chr _ (by omega)) rfl ?_
      refine j_aload_n hC dX7_readBraces_48 rfl (jrf_ref _) ?_
      refine j_dup hC dX7_readBraces_49 rfl ?_
      refine j_get (v := .int (nI ((pDig L 4 τ).1))) hC kf_X7_9 dX7_readBraces_50 ((jput_ne (by show (a) ≠ (M.2); omega)).trans ((jput_ne (by show (a) ≠ (a + 4); omega)).trans (jput_at))) (rfl) ?_
      refine j_iconst (v := nI 1) hC dX7_readBraces_53 (by decide) ?_
      refine n_iadd hC dX7_readBraces_54 ?_
      refine c_put (fs' := [.ref (a + 4), .int (nI (((pDig L 4 τ).1) + (1))), .ref tx, .ref (a + 3), .int (nI dp), .int (jb ((pDig L 4 τ).2 = false))]) hC kp_X7_9 dX7_readBraces_55 ((jput_ne (by show (a) ≠ (M.2); omega)).trans ((jput_ne (by show (a) ≠ (a + 4); omega)).trans (jput_at))) (by omega) (rfl) (rfl) rfl ?_
      refine j_M (nxE1 (c := 94) (ok_t (by assumption)) (by assumption)) ?_
      have hp2 := nx_le (L := L) (c := 94) (σ := (pDig L 4 τ))
      refine j_aload_n hC dX7_readBraces_58 rfl (jrf_ref _) ?_
      refine j_bipush (v := nI 125) hC dX7_readBraces_59 (by decide) ?_
      refine c_Pv (kc' := 0) (ks' := 0) hC kv_X7_85 dX7_readBraces_61 (m_X7_take (c := 125) (σ := (pNext L 94 (pDig L 4 τ))) hs9 (jput_at) htx (sub_put (hza) (sub_put (hZM) (sub_put (hza2) (sub_put (hza) hz1)))) hza hBa (by omega) (by decide)) (jput_at) rfl rfl rfl rfl (by decide) (Nat.le_of_ble_eq_true rfl) ?_
      intro v9 N5 h9
      obtain ⟨rfl, e9⟩ := h9
      refine j_M e9 ?_
      clear e9
      have hw5 := wt_le (L := L) (c := 125) (σ := (pNext L 94 (pDig L 4 τ)))
      refine j_M jput_jput ?_
      have hbx := bx_1 ht0 (ok_t (by assumption)) (by assumption)
      have ho3 : pOne L 3 σ.1 = pDv L 4 τ := by rw [← ht0]; rfl
      exact j_vret hC9 rfl dX7_readBraces_64 (⟨rfl, by rw [hbx.1]; exact jput_at, by rw [ho3]; exact (jput_ne (by show (a + 4) ≠ (a); omega)).trans ((jput_ne (by show (a + 4) ≠ (M.2); omega)).trans (jput_at)), (jput_ne (by show (a + 5) ≠ (a); omega)).trans ((jput_ne (by show (a + 5) ≠ (M.2); omega)).trans ((jput_ne (by show (a + 5) ≠ (a + 4); omega)).trans ((jput_ne (by show (a + 5) ≠ (a); omega)).trans (e3)))), ⟨94, by rw [ho3]; exact (jput_ne (by show (M.2) ≠ (a); omega)).trans (jput_at), fun _ => by rw [hbx.2]; rfl⟩, fun a9 o9 ha9 hn1 hn2 hn3 => by
  have hl9 := hlt _ _ ha9
  exact (jput_ne (by show (a9) ≠ (a); omega)).trans ((jput_ne (by show (a9) ≠ (M.2); omega)).trans ((jput_ne (by show (a9) ≠ (a + 4); omega)).trans ((jput_ne (by show (a9) ≠ (a); omega)).trans (e5 _ _ (ha9) (by omega) (by omega) (by omega)))))⟩)
    · refine j_aload_n hC dX7_readBraces_30 rfl (jrf_ref _) ?_
      refine c_V hC kv_X7_45 dX7_readBraces_31 (m_X7_sign (σ := (pDig L 4 τ)) hs9 ((jput_ne (by show (a) ≠ (M.2); omega)).trans ((jput_ne (by show (a) ≠ (a + 4); omega)).trans (jput_at))) htx (sub_put (hZM) (sub_put (hza2) (sub_put (hza) hz1))) (by omega)) ((jput_ne (by show (a) ≠ (M.2); omega)).trans ((jput_ne (by show (a) ≠ (a + 4); omega)).trans (jput_at))) rfl rfl rfl rfl (by decide) (Nat.le_of_ble_eq_true rfl) ?_
      refine j_bipush (v := nI 42) hC dX7_readBraces_34 (by decide) ?_
      refine n_icmp_ne (tgt := 58) hC dX7_readBraces_36 (by decide) (by omega) (by omega) (fun c6 => ?_) (fun c6 => ?_)
      · refine j_aload_n hC dX7_readBraces_58 rfl (jrf_ref _) ?_
        refine j_bipush (v := nI 125) hC dX7_readBraces_59 (by decide) ?_
        refine c_Pv (kc' := 0) (ks' := 0) hC kv_X7_85 dX7_readBraces_61 (m_X7_take (c := 125) (σ := (pDig L 4 τ)) hs9 ((jput_ne (by show (a) ≠ (M.2); omega)).trans ((jput_ne (by show (a) ≠ (a + 4); omega)).trans (jput_at))) htx (sub_put (hZM) (sub_put (hza2) (sub_put (hza) hz1))) hza hBa (by omega) (by decide)) ((jput_ne (by show (a) ≠ (M.2); omega)).trans ((jput_ne (by show (a) ≠ (a + 4); omega)).trans (jput_at))) rfl rfl rfl rfl (by decide) (Nat.le_of_ble_eq_true rfl) ?_
        intro v9 N7 h9
        obtain ⟨rfl, e9⟩ := h9
        refine j_M e9 ?_
        clear e9
        have hw5 := wt_le (L := L) (c := 125) (σ := (pDig L 4 τ))
        have hbx := bx_0 ht0 (by assumption) (by assumption)
        have ho3 : pOne L 3 σ.1 = pDv L 4 τ := by rw [← ht0]; rfl
        exact j_vret hC9 rfl dX7_readBraces_64 (⟨rfl, by rw [hbx.1]; exact jput_at, by rw [ho3]; exact (jput_ne (by show (a + 4) ≠ (a); omega)).trans ((jput_ne (by show (a + 4) ≠ (M.2); omega)).trans (jput_at)), (jput_ne (by show (a + 5) ≠ (a); omega)).trans ((jput_ne (by show (a + 5) ≠ (M.2); omega)).trans ((jput_ne (by show (a + 5) ≠ (a + 4); omega)).trans ((jput_ne (by show (a + 5) ≠ (a); omega)).trans (e3)))), ⟨32, by rw [ho3]; exact (jput_ne (by show (M.2) ≠ (a); omega)).trans (jput_at), fun _ => by rw [hbx.2]; rfl⟩, fun a9 o9 ha9 hn1 hn2 hn3 => by
  have hl9 := hlt _ _ ha9
  exact (jput_ne (by show (a9) ≠ (a); omega)).trans ((jput_ne (by show (a9) ≠ (M.2); omega)).trans ((jput_ne (by show (a9) ≠ (a + 4); omega)).trans ((jput_ne (by show (a9) ≠ (a); omega)).trans (e5 _ _ (ha9) (by omega) (by omega) (by omega)))))⟩)
      · refine j_aload_n hC dX7_readBraces_39 rfl (jrf_ref _) ?_
        refine j_aload_n hC dX7_readBraces_40 rfl (jrf_ref _) ?_
        refine c_V hC kv_X7_45 dX7_readBraces_41 (m_X7_sign (σ := (pDig L 4 τ)) hs9 ((jput_ne (by show (a) ≠ (M.2); omega)).trans ((jput_ne (by show (a) ≠ (a + 4); omega)).trans (jput_at))) htx (sub_put (hZM) (sub_put (hza2) (sub_put (hza) hz1))) (by omega)) ((jput_ne (by show (a) ≠ (M.2); omega)).trans ((jput_ne (by show (a) ≠ (a + 4); omega)).trans (jput_at))) rfl rfl rfl rfl (by decide) (Nat.le_of_ble_eq_true rfl) ?_
        refine j_i2c hC dX7_readBraces_44 ?_
        refine j_top (i2c_of (c := 42) (by assumption) (by decide)) ?_
        refine c_put2 (fs' := [.int (nI 3), .int (nI σ.1), .int (nI dp), .int (zI o), .int (nI 32), .int (nI (pDv L 4 τ)), .int (nI (42)), .ref (gK (jCG C) 18), .ref (gK (jCG C) 18), .null, .int (nI 0)]) hC kp_X7_82 dX7_readBraces_45 (by omega) (nar_chr _ (by omega)) (fit_chr _ (by omega)) rfl ?_
        refine j_aload_n hC dX7_readBraces_48 rfl (jrf_ref _) ?_
        refine j_dup hC dX7_readBraces_49 rfl ?_
        refine j_get (v := .int (nI ((pDig L 4 τ).1))) hC kf_X7_9 dX7_readBraces_50 ((jput_ne (by show (a) ≠ (M.2); omega)).trans ((jput_ne (by show (a) ≠ (a + 4); omega)).trans (jput_at))) (rfl) ?_
        refine j_iconst (v := nI 1) hC dX7_readBraces_53 (by decide) ?_
        refine n_iadd hC dX7_readBraces_54 ?_
        refine c_put (fs' := [.ref (a + 4), .int (nI (((pDig L 4 τ).1) + (1))), .ref tx, .ref (a + 3), .int (nI dp), .int (jb ((pDig L 4 τ).2 = false))]) hC kp_X7_9 dX7_readBraces_55 ((jput_ne (by show (a) ≠ (M.2); omega)).trans ((jput_ne (by show (a) ≠ (a + 4); omega)).trans (jput_at))) (by omega) (rfl) (rfl) rfl ?_
        refine j_M (nxE1 (c := 42) (ok_t (by assumption)) (by assumption)) ?_
        have hp2 := nx_le (L := L) (c := 42) (σ := (pDig L 4 τ))
        refine j_aload_n hC dX7_readBraces_58 rfl (jrf_ref _) ?_
        refine j_bipush (v := nI 125) hC dX7_readBraces_59 (by decide) ?_
        refine c_Pv (kc' := 0) (ks' := 0) hC kv_X7_85 dX7_readBraces_61 (m_X7_take (c := 125) (σ := (pNext L 42 (pDig L 4 τ))) hs9 (jput_at) htx (sub_put (hza) (sub_put (hZM) (sub_put (hza2) (sub_put (hza) hz1)))) hza hBa (by omega) (by decide)) (jput_at) rfl rfl rfl rfl (by decide) (Nat.le_of_ble_eq_true rfl) ?_
        intro v9 N8 h9
        obtain ⟨rfl, e9⟩ := h9
        refine j_M e9 ?_
        clear e9
        have hw5 := wt_le (L := L) (c := 125) (σ := (pNext L 42 (pDig L 4 τ)))
        refine j_M jput_jput ?_
        have hbx := bx_2 ht0 (ok_t (by assumption)) (by assumption) (by assumption)
        have ho3 : pOne L 3 σ.1 = pDv L 4 τ := by rw [← ht0]; rfl
        exact j_vret hC9 rfl dX7_readBraces_64 (⟨rfl, by rw [hbx.1]; exact jput_at, by rw [ho3]; exact (jput_ne (by show (a + 4) ≠ (a); omega)).trans ((jput_ne (by show (a + 4) ≠ (M.2); omega)).trans (jput_at)), (jput_ne (by show (a + 5) ≠ (a); omega)).trans ((jput_ne (by show (a + 5) ≠ (M.2); omega)).trans ((jput_ne (by show (a + 5) ≠ (a + 4); omega)).trans ((jput_ne (by show (a + 5) ≠ (a); omega)).trans (e3)))), ⟨42, by rw [ho3]; exact (jput_ne (by show (M.2) ≠ (a); omega)).trans (jput_at), fun _ => by rw [hbx.2]; rfl⟩, fun a9 o9 ha9 hn1 hn2 hn3 => by
  have hl9 := hlt _ _ ha9
  exact (jput_ne (by show (a9) ≠ (a); omega)).trans ((jput_ne (by show (a9) ≠ (M.2); omega)).trans ((jput_ne (by show (a9) ≠ (a + 4); omega)).trans ((jput_ne (by show (a9) ≠ (a); omega)).trans (e5 _ _ (ha9) (by omega) (by omega) (by omega)))))⟩)
section WX
variable {L : List Nat} {τ υ : pS} {i : Nat}
theorem wd_y (ht : (i + 1, true) = τ) (hu : (pLit L 120 τ.1, true) = υ) (h : (pWant L 124 υ).2 = true) : pEndσ L 4 i = pWant L 62 (pLit L 120 (pWant L 124 υ).1, true) ∧ pOne L 4 i = pLit L 120 τ.1 ∧ pTwo L 4 i = pLit L 120 (pWant L 124 υ).1 ∧ (pWant L 124 υ).1 = pOne L 4 i + 1 := by
  subst hu
  subst ht
  refine ⟨?_, rfl, ?_, ?_⟩
  · rw [pEndσ, if_neg (by decide), if_pos rfl, if_pos h]
  · rw [pTwo, if_neg (by decide), if_pos rfl, if_pos h]
  · rw [(pWant_ok h).2.2]
    rfl
theorem wd_n (ht : (i + 1, true) = τ) (hu : (pLit L 120 τ.1, true) = υ) (h : (pWant L 124 υ).2 = false) : pEndσ L 4 i = pWant L 62 (pWant L 124 υ) ∧ (pEndσ L 4 i).2 = false := by
  subst hu
  subst ht
  have h' : ¬ (pWant L 124 (pLit L 120 (i + 1), true)).2 = true := fun e => by rw [show (pWant L 124 (pLit L 120 (i + 1), true)).2 = false from h] at e; cases e
  have e : pEndσ L 4 i = pWant L 62 (pWant L 124 (pLit L 120 (i + 1), true)) := by
    rw [pEndσ, if_neg (by decide), if_pos rfl, if_neg h']
  refine ⟨e, ?_⟩
  rw [e, tk_w h]
  exact h
end WX
set_option maxHeartbeats 4000000 in
set_option maxRecDepth 100000 in
theorem m_X7_takeLiterals_w {G : jG} {M : jM} {a tx dp : Nat} {L : List Nat} {σ : pS} {Z : jH} (hs : (gL G).stackTraces = false) (h1 : M.1 a = some (.inr (11, rdF a tx σ dp))) (htx : strR Z tx L) (hz : sub Z M.1) (hp : σ.1 ≤ 200) (hno : σ.2 = false) : JMet G jX7_takeLiterals [.ref a] (M) 0 0 6 (fun w M' => w = some (.ref (gK G 22)) ∧ M' = M) jNo := by
  refine jMet_of [some (.ref (a)), none, none] (by decide) rfl (Nat.le_of_ble_eq_true rfl) (rfl) hs ?_
  intro C hC9 hG
  have hC := hC9.z
  have hs9 := jOK0_tr hC
  refine j_lt (fun hlt => ?_)
  have hBg : jB C = gB G := by rw [jB, hG]
  subst hG
  have hL5 := htx.2.1
  refine j_aload_n hC dX7_takeLiterals_0 rfl (jrf_ref _) ?_
  refine j_get (v := .int (nI (σ.1))) hC kf_X7_9 dX7_takeLiterals_1 (h1) (rfl) ?_
  refine j_istore_n1 hC dX7_takeLiterals_4 (by decide) rfl ?_
  refine j_aload_n hC dX7_takeLiterals_5 rfl (jrf_ref _) ?_
  refine j_get (v := .int (nI (σ.1))) hC kf_X7_9 dX7_takeLiterals_6 (h1) (rfl) ?_
  refine j_istore_n2 hC dX7_takeLiterals_9 (by decide) rfl ?_
  refine j_iload_n hC dX7_takeLiterals_10 rfl ?_
  refine j_aload_n hC dX7_takeLiterals_11 rfl (jrf_ref _) ?_
  refine j_get (v := .ref (tx)) hC kf_X7_26 dX7_takeLiterals_12 (h1) (rfl) ?_
  refine c_V hC kv_X7_32 dX7_takeLiterals_15 (m_J0_length_8abf5 hs9 (htx.mono hz)) ((htx.mono hz).obj.choose_spec) rfl rfl rfl rfl (by decide) (Nat.le_of_ble_eq_true rfl) ?_
  refine n_icmp_ge (tgt := 55) hC dX7_takeLiterals_18 (by decide) (by omega) (by omega) (fun c1 => ?_) (fun c1 => ?_)
  · refine j_iload_n hC dX7_takeLiterals_55 rfl ?_
    refine j_aload_n hC dX7_takeLiterals_56 rfl (jrf_ref _) ?_
    refine j_get (v := .int (nI (σ.1))) hC kf_X7_9 dX7_takeLiterals_57 (h1) (rfl) ?_
    refine n_icmp_ge (tgt := 78) hC dX7_takeLiterals_60 (by decide) (by omega) (by omega) (fun c2 => ?_) (fun c2 => ?_)
    · refine j_ldcS (i := 22) (is := 154) (text := "") hC rfl dX7_takeLiterals_78 ?_
      exact j_aret hC9 rfl (by first | exact Or.inl ⟨_, rfl⟩ | exact Or.inr ⟨_, rfl⟩) dX7_takeLiterals_80 (⟨rfl, rfl⟩) (jrf_ref _)
    · exact (show False by omega).elim
  · refine j_aload_n hC dX7_takeLiterals_21 rfl (jrf_ref _) ?_
    refine j_get (v := .int (jb (σ.2 = false))) hC kf_X7_22 dX7_takeLiterals_22 (h1) (rfl) ?_
    refine jb_if_ne (tgt := 55) hC dX7_takeLiterals_25 (by decide) (fun c3 => ?_) (fun c3 => ?_)
    · refine j_iload_n hC dX7_takeLiterals_55 rfl ?_
      refine j_aload_n hC dX7_takeLiterals_56 rfl (jrf_ref _) ?_
      refine j_get (v := .int (nI (σ.1))) hC kf_X7_9 dX7_takeLiterals_57 (h1) (rfl) ?_
      refine n_icmp_ge (tgt := 78) hC dX7_takeLiterals_60 (by decide) (by omega) (by omega) (fun c4 => ?_) (fun c4 => ?_)
      · refine j_ldcS (i := 22) (is := 154) (text := "") hC rfl dX7_takeLiterals_78 ?_
        exact j_aret hC9 rfl (by first | exact Or.inl ⟨_, rfl⟩ | exact Or.inr ⟨_, rfl⟩) dX7_takeLiterals_80 (⟨rfl, rfl⟩) (jrf_ref _)
      · exact (show False by omega).elim
    · exact absurd hno (by assumption)
set_option maxHeartbeats 4000000 in
set_option maxRecDepth 100000 in
theorem m_X7_readWords {G : jG} {M : jM} {a tx dp n dd f br : Nat} {L : List Nat} {σ : pS} {g : Nat → Value} {op : Nat → Int32} {o : Int} {Z : jH} (hs : (gL G).stackTraces = false) (h1 : M.1 a = some (.inr (11, rdF a tx σ dp))) (hly : M.1 (a + 4) = some (.inr (6, lyF a L n dd f br))) (hrw : M.1 (a + 5) = some (.inl (.object RX4, L.length, g))) (hop : M.1 (a + 3) = some (.inl (.int, 4, fun j => .int (op j)))) (ho : opR op dp o) (hn : n < L.length) (hL : L.length ≤ 120) (hBa : gB G ≤ a) (htx : strR Z tx L) (hz : sub Z M.1) (hZ : ∀ b, a ≤ b → b ≠ a + 1 → b ≠ a + 2 → Z b = none) (hp : σ.1 ≤ 120) (hok : σ.2 = true) (hat : σ.1 < L.length) (hk1 : strR Z (gK G 19) litT) (hk2 : strR Z (gK G 22) []) (hBt : ∀ b fs, Z tx = some (.inr (0, fs)) → fs[0]? = some (.ref b) → gB G ≤ b) : JMet G jX7_readWords [.ref a] (M) 5 271 7 (fun w M' => w = none ∧ M'.1 a = some (.inr (11, rdF a tx (pEndσ L 4 σ.1) dp)) ∧ M'.1 (a + 4) = some (.inr (6, lyF a L (n + 1) dd f br)) ∧ M'.1 (a + 5) = some (.inl (.object RX4, L.length, updV g n (.ref M.2))) ∧ (∃ p q, M'.1 M.2 = some (.inr (8, pcF 4 σ.1 dp o (.int (nI 32)) (.int (nI 0)) (.int (nI 32)) (.ref p) (.ref q) .null (.int (nI 0)))) ∧ ((pEndσ L 4 σ.1).2 = true → strR (zf Z M'.1 a) p (subT L (σ.1 + 1) (pOne L 4 σ.1 - (σ.1 + 1))) ∧ strR (zf Z M'.1 a) q (subT L (pOne L 4 σ.1 + 1) (pTwo L 4 σ.1 - (pOne L 4 σ.1 + 1))))) ∧ (∀ b o, M.1 b = some o → b ≠ a → b ≠ a + 4 → b ≠ a + 5 → M'.1 b = some o)) jNo := by
  refine jMet_of [some (.ref (a)), none] (by decide) rfl (Nat.le_of_ble_eq_true rfl) (rfl) hs ?_
  intro C hC9 hG
  have hC := hC9.z
  have hs9 := jOK0_tr hC
  refine j_lt (fun hlt => ?_)
  have hBg : jB C = gB G := by rw [jB, hG]
  subst hG
  have hL5 := htx.2.1
  have ha2 := hlt _ _ h1
  have hal := hlt _ _ hly
  have har := hlt _ _ hrw
  have hao := hlt _ _ hop
  have hza : Z a = none := hZ _ (Nat.le_refl _) (by omega) (by omega)
  have hza2 : Z (a + 4) = none := hZ _ (by omega) (by omega) (by omega)
  have hZM : Z M.2 = none := hZ _ (by omega) (by omega) (by omega)
  refine j_aload_n hC dX7_readWords_0 rfl (jrf_ref _) ?_
  refine j_iconst (v := nI 4) hC dX7_readWords_1 (by decide) ?_
  refine c_Pv (kc := 4) (ks := 260) hC kv_X7_48 dX7_readWords_2 (m_X7_addPiece (k := 4) hs9 h1 hly hrw hop ho hn hL hBa (by omega)) (h1) rfl rfl rfl rfl (by decide) (Nat.le_of_ble_eq_true rfl) ?_
  intro v9 M1 h9
  obtain ⟨rfl, e1, e2, e3, e4, e5, e6⟩ := h9
  rw [hok] at e1
  have hz1 : sub Z M1.1 := fun b o hb => e5 b o (hz b o hb) (by have := zlt hZ hb; omega) (by have := zlt hZ hb; omega) (by have := zlt hZ hb; omega)
  generalize ht0 : ((σ.1 + 1, true) : pS) = τ at e1
  have ht1 : τ.1 = σ.1 + 1 := by rw [← ht0]
  have ht2 : τ.2 = true := by rw [← ht0]
  refine j_astore_n1 hC dX7_readWords_5 (jrf_ref _) (by decide) rfl ?_
  refine j_aload_n hC dX7_readWords_6 rfl (jrf_ref _) ?_
  refine j_aload_n hC dX7_readWords_7 rfl (jrf_ref _) ?_
  refine c_Pv (kc := 2) (ks := 130) hC kv_X7_89 dX7_readWords_8 (m_X7_takeLiterals (σ := τ) hs9 e1 htx hz1 hza hBa hL (by omega) hk1 hk2 hBt ht2) (e1) rfl rfl rfl rfl (by decide) (Nat.le_of_ble_eq_true rfl) ?_
  intro v9 M2 h9
  obtain ⟨p1, rfl, f1, f2, f3⟩ := h9
  have hz2 : sub Z M2.1 := fun b o hb => f3 b o (hz1 b o hb) (by have := zlt hZ hb; omega)
  generalize hu0 : ((pLit L 120 τ.1, true) : pS) = υ at f1
  have hu1 : υ.1 = pLit L 120 τ.1 := by rw [← hu0]
  have hu3 := pLit_le (L := L) 120 τ.1 (by omega)
  refine c_put (fs' := [.int (nI 4), .int (nI σ.1), .int (nI dp), .int (zI o), .int (nI 32), .int (nI 0), .int (nI 32), .ref (p1), .ref (gK (jCG C) 18), .null, .int (nI 0)]) hC kp_X7_93 dX7_readWords_11 (f3 _ _ (e4) (by omega)) (by omega) (rfl) (rfl) rfl ?_
  refine j_aload_n hC dX7_readWords_14 rfl (jrf_ref _) ?_
  refine j_bipush (v := nI 124) hC dX7_readWords_15 (by decide) ?_
  refine c_Pv (kc' := 0) (ks' := 0) hC kv_X7_85 dX7_readWords_17 (m_X7_take (c := 124) (σ := υ) hs9 ((jput_ne (by show (a) ≠ (M.2); omega)).trans (f1)) htx (sub_put (hZM) hz2) hza hBa (by omega) (by decide)) ((jput_ne (by show (a) ≠ (M.2); omega)).trans (f1)) rfl rfl rfl rfl (by decide) (Nat.le_of_ble_eq_true rfl) ?_
  intro v9 N1 h9
  obtain ⟨rfl, e9⟩ := h9
  refine j_M e9 ?_
  clear e9
  have hw5 := wt_le (L := L) (c := 124) (σ := υ)
  refine j_aload_n hC dX7_readWords_20 rfl (jrf_ref _) ?_
  refine j_aload_n hC dX7_readWords_21 rfl (jrf_ref _) ?_
  have hwl : (pWant L 124 υ).1 ≤ L.length := pWant_le (by decide) (by rw [hu1]; exact hu3)
  by_cases hw : (pWant L 124 υ).2 = true
  · refine c_Pv (kc := 0) (ks := 0) hC kv_X7_89 dX7_readWords_22 (m_X7_takeLiterals (σ := (pWant L 124 υ)) hs9 (jput_at) htx (sub_put (hza) (sub_put (hZM) hz2)) hza hBa hL hwl hk1 hk2 hBt hw) (jput_at) rfl rfl rfl rfl (by decide) (Nat.le_of_ble_eq_true rfl) ?_
    intro v9 M3 h9
    obtain ⟨p2, rfl, k1, k2, k3⟩ := h9
    have hz3 : sub Z M3.1 := fun b o hb => k3 b o ((sub_put (hza) (sub_put (hZM) hz2)) b o hb) (by have := zlt hZ hb; omega)
    generalize hv0 : ((pLit L 120 (pWant L 124 υ).1, true) : pS) = ψ at k1
    have hv1 : ψ.1 = pLit L 120 (pWant L 124 υ).1 := by rw [← hv0]
    have hv3 := pLit_le (L := L) 120 (pWant L 124 υ).1 hwl
    refine c_put (fs' := [.int (nI 4), .int (nI σ.1), .int (nI dp), .int (zI o), .int (nI 32), .int (nI 0), .int (nI 32), .ref (p1), .ref (p2), .null, .int (nI 0)]) hC kp_X7_96 dX7_readWords_25 (k3 _ _ ((jput_ne (by show (M.2) ≠ (a); omega)).trans (jput_at)) (by omega)) (by omega) (rfl) (rfl) rfl ?_
    refine j_aload_n hC dX7_readWords_28 rfl (jrf_ref _) ?_
    refine j_bipush (v := nI 62) hC dX7_readWords_29 (by decide) ?_
    refine c_Pv (kc' := 0) (ks' := 0) hC kv_X7_85 dX7_readWords_31 (m_X7_take (c := 62) (σ := ψ) hs9 ((jput_ne (by show (a) ≠ (M.2); omega)).trans (k1)) htx (sub_put (hZM) hz3) hza hBa (by omega) (by decide)) ((jput_ne (by show (a) ≠ (M.2); omega)).trans (k1)) rfl rfl rfl rfl (by decide) (Nat.le_of_ble_eq_true rfl) ?_
    intro v9 N2 h9
    obtain ⟨rfl, e9⟩ := h9
    refine j_M e9 ?_
    clear e9
    have hw5 := wt_le (L := L) (c := 62) (σ := ψ)
    have ks9 : ∀ s9 o9, M2.1 s9 = some o9 → tgS o9 → (jput (jput (M3) (M.2) (.inr (8, [.int (nI 4), .int (nI σ.1), .int (nI dp), .int (zI o), .int (nI 32), .int (nI 0), .int (nI 32), .ref (p1), .ref (p2), .null, .int (nI 0)]))) (a) (.inr (11, rdF a tx (pWant L 62 ψ) dp))).1 s9 = some o9 := fun s9 o9 hs9x ht9 => by
      have n1 : s9 ≠ a := hne_of f1 hs9x (fun e => by rw [e] at ht9; exact tgS_no (by decide) ht9)
      have n2 : s9 ≠ M.2 := hne_of (f3 _ _ (e4) (by omega)) hs9x (fun e => by rw [e] at ht9; exact tgS_no (by decide) ht9)
      exact (jput_ne (by show (s9) ≠ (a); omega)).trans ((jput_ne (by show (s9) ≠ (M.2); omega)).trans (k3 _ _ ((jput_ne (by show (s9) ≠ (a); omega)).trans ((jput_ne (by show (s9) ≠ (M.2); omega)).trans (hs9x))) (by omega)))
    have kt9 : ∀ t9 o9, M3.1 t9 = some o9 → tgS o9 → (jput (jput (M3) (M.2) (.inr (8, [.int (nI 4), .int (nI σ.1), .int (nI dp), .int (zI o), .int (nI 32), .int (nI 0), .int (nI 32), .ref (p1), .ref (p2), .null, .int (nI 0)]))) (a) (.inr (11, rdF a tx (pWant L 62 ψ) dp))).1 t9 = some o9 := fun t9 o9 ht9x ht9 => by
      have n1 : t9 ≠ a := hne_of k1 ht9x (fun e => by rw [e] at ht9; exact tgS_no (by decide) ht9)
      have n2 : t9 ≠ M.2 := hne_of (k3 _ _ ((jput_ne (by show (M.2) ≠ (a); omega)).trans (jput_at)) (by omega)) ht9x (fun e => by rw [e] at ht9; exact tgS_no (by decide) ht9)
      exact (jput_ne (by show (t9) ≠ (a); omega)).trans ((jput_ne (by show (t9) ≠ (M.2); omega)).trans (ht9x))
    have hwd := wd_y ht0 hu0 hw
    exact j_vret hC9 rfl dX7_readWords_34 (⟨rfl, by rw [hwd.1, hv0]; exact jput_at, (jput_ne (by show (a + 4) ≠ (a); omega)).trans ((jput_ne (by show (a + 4) ≠ (M.2); omega)).trans (k3 _ _ ((jput_ne (by show (a + 4) ≠ (a); omega)).trans ((jput_ne (by show (a + 4) ≠ (M.2); omega)).trans (f3 _ _ (e2) (by omega)))) (by omega))), (jput_ne (by show (a + 5) ≠ (a); omega)).trans ((jput_ne (by show (a + 5) ≠ (M.2); omega)).trans (k3 _ _ ((jput_ne (by show (a + 5) ≠ (a); omega)).trans ((jput_ne (by show (a + 5) ≠ (M.2); omega)).trans (f3 _ _ (e3) (by omega)))) (by omega))), ⟨p1, p2, (jput_ne (by show (M.2) ≠ (a); omega)).trans (jput_at), fun _ => ⟨by rw [hwd.2.1, ← ht1]; exact f2.keepT (zf_keep (W := tgS) (fun s9 o9 _ hs9x ht9 => ks9 s9 o9 hs9x ht9)), by rw [← hwd.2.2.2, hwd.2.2.1]; exact k2.keepT (zf_keep (W := tgS) (fun t9 o9 _ ht9x ht9 => kt9 t9 o9 ht9x ht9))⟩⟩, fun a9 o9 ha9 hn1 hn2 hn3 => by
  have hl9 := hlt _ _ ha9
  exact (jput_ne (by show (a9) ≠ (a); omega)).trans ((jput_ne (by show (a9) ≠ (M.2); omega)).trans (k3 _ _ ((jput_ne (by show (a9) ≠ (a); omega)).trans ((jput_ne (by show (a9) ≠ (M.2); omega)).trans (f3 _ _ (e5 _ _ (ha9) (by omega) (by omega) (by omega)) (by omega)))) (by omega)))⟩)
  · have hw0 : (pWant L 124 υ).2 = false := by cases e : (pWant L 124 υ).2 with | false => rfl | true => exact absurd e hw
    refine c_Pv (kc' := 0) (ks' := 0) hC kv_X7_89 dX7_readWords_22 (m_X7_takeLiterals_w (σ := (pWant L 124 υ)) hs9 (jput_at) htx (sub_put (hza) (sub_put (hZM) hz2)) (by omega) hw0) (jput_at) rfl rfl rfl rfl (by decide) (Nat.le_of_ble_eq_true rfl) ?_
    intro v9 N3 h9
    obtain ⟨rfl, e9⟩ := h9
    refine j_M e9 ?_
    clear e9
    refine c_put (fs' := [.int (nI 4), .int (nI σ.1), .int (nI dp), .int (zI o), .int (nI 32), .int (nI 0), .int (nI 32), .ref (p1), .ref (gK (jCG C) 22), .null, .int (nI 0)]) hC kp_X7_96 dX7_readWords_25 ((jput_ne (by show (M.2) ≠ (a); omega)).trans (jput_at)) (by omega) (rfl) (rfl) rfl ?_
    refine j_aload_n hC dX7_readWords_28 rfl (jrf_ref _) ?_
    refine j_bipush (v := nI 62) hC dX7_readWords_29 (by decide) ?_
    refine c_Pv (kc' := 0) (ks' := 0) hC kv_X7_85 dX7_readWords_31 (m_X7_take (c := 62) (σ := (pWant L 124 υ)) hs9 ((jput_ne (by show (a) ≠ (M.2); omega)).trans (jput_at)) htx (sub_put (hZM) (sub_put (hza) (sub_put (hZM) hz2))) hza hBa (by omega) (by decide)) ((jput_ne (by show (a) ≠ (M.2); omega)).trans (jput_at)) rfl rfl rfl rfl (by decide) (Nat.le_of_ble_eq_true rfl) ?_
    intro v9 N4 h9
    obtain ⟨rfl, e9⟩ := h9
    refine j_M e9 ?_
    clear e9
    have hw5 := wt_le (L := L) (c := 62) (σ := (pWant L 124 υ))
    have hwd := wd_n ht0 hu0 hw0
    exact j_vret hC9 rfl dX7_readWords_34 (⟨rfl, by rw [hwd.1]; exact jput_at, (jput_ne (by show (a + 4) ≠ (a); omega)).trans ((jput_ne (by show (a + 4) ≠ (M.2); omega)).trans ((jput_ne (by show (a + 4) ≠ (a); omega)).trans ((jput_ne (by show (a + 4) ≠ (M.2); omega)).trans (f3 _ _ (e2) (by omega))))), (jput_ne (by show (a + 5) ≠ (a); omega)).trans ((jput_ne (by show (a + 5) ≠ (M.2); omega)).trans ((jput_ne (by show (a + 5) ≠ (a); omega)).trans ((jput_ne (by show (a + 5) ≠ (M.2); omega)).trans (f3 _ _ (e3) (by omega))))), ⟨p1, gK (jCG C) 22, (jput_ne (by show (M.2) ≠ (a); omega)).trans (jput_at), fun e => by rw [hwd.2] at e; cases e⟩, fun a9 o9 ha9 hn1 hn2 hn3 => by
  have hl9 := hlt _ _ ha9
  exact (jput_ne (by show (a9) ≠ (a); omega)).trans ((jput_ne (by show (a9) ≠ (M.2); omega)).trans ((jput_ne (by show (a9) ≠ (a); omega)).trans ((jput_ne (by show (a9) ≠ (M.2); omega)).trans (f3 _ _ (e5 _ _ (ha9) (by omega) (by omega) (by omega)) (by omega)))))⟩)
set_option maxHeartbeats 4000000 in
set_option maxRecDepth 100000 in
theorem m_X7_closeBrackets_w {G : jG} {M : jM} {a tx : Nat} {σ : pS} (hs : (gL G).stackTraces = false) (h1 : M.1 a = some (.inr (11, rdF a tx σ 0))) (hBa : gB G ≤ a) : JMet G jX7_closeBrackets [.ref a] (M) 0 0 3 (fun w M' => w = none ∧ M' = jput M a (.inr (11, rdF a tx (σ.1, false) 0))) jNo := by
  refine jMet_of [some (.ref (a)), none] (by decide) rfl (Nat.le_of_ble_eq_true rfl) (rfl) hs ?_
  intro C hC9 hG
  have hC := hC9.z
  have hs9 := jOK0_tr hC
  refine j_lt (fun hlt => ?_)
  have hBg : jB C = gB G := by rw [jB, hG]
  subst hG
  refine j_aload_n hC dX7_closeBrackets_0 rfl (jrf_ref _) ?_
  refine j_get (v := .int (nI (0))) hC kf_X7_19 dX7_closeBrackets_1 (h1) (rfl) ?_
  refine n_if_le (tgt := 19) hC dX7_closeBrackets_4 (by decide) (by omega) (fun c1 => ?_) (fun c1 => ?_)
  · refine j_aload_n hC dX7_closeBrackets_19 rfl (jrf_ref _) ?_
    refine j_iconst (v := nI 1) hC dX7_closeBrackets_20 (by decide) ?_
    refine c_put (fs' := [.ref (a + 4), .int (nI σ.1), .ref tx, .ref (a + 3), .int (nI 0), .int (nI (1))]) hC kp_X7_22 dX7_closeBrackets_21 (h1) (by omega) (by decide) (by decide) rfl ?_
    exact j_vret hC9 rfl dX7_closeBrackets_24 (⟨rfl, rfl⟩)
  · exact absurd c1 (by decide)
set_option maxHeartbeats 4000000 in
set_option maxRecDepth 100000 in
theorem m_X7_closeBrackets {G : jG} {M : jM} {a tx k n dd f br i0 e : Nat} {L : List Nat} {σ : pS} {g : Nat → Value} {op : Nat → Int32} {v0 v1 v2 v3 v4 v5 v6 v7 v8 v9 v10 : Value} (hs : (gL G).stackTraces = false) (h1 : M.1 a = some (.inr (11, rdF a tx σ (k + 1)))) (hly : M.1 (a + 4) = some (.inr (6, lyF a L n dd f br))) (hrw : M.1 (a + 5) = some (.inl (.object RX4, L.length, g))) (hop : M.1 (a + 3) = some (.inl (.int, 4, fun j => .int (op j)))) (hk4 : k < 4) (hok0 : op k = nI i0) (hi0 : i0 < n) (hn : n ≤ L.length) (hL : L.length ≤ 120) (hg : g i0 = .ref e) (he : M.1 e = some (.inr (8, [v0, v1, v2, v3, v4, v5, v6, v7, v8, v9, v10]))) (hBa : gB G ≤ a) (hBe : gB G ≤ e) (hp : σ.1 ≤ 120) : JMet G jX7_closeBrackets [.ref a] (M) 0 0 3 (fun w M' => w = none ∧ M'.1 a = some (.inr (11, rdF a tx (σ.1 + 1, σ.2) k)) ∧ M'.1 e = some (.inr (8, [v0, v1, v2, v3, v4, v5, v6, v7, v8, v9, .int (nI n)])) ∧ (∀ b o, M.1 b = some o → b ≠ a → b ≠ e → M'.1 b = some o)) jNo := by
  refine jMet_of [some (.ref (a)), none] (by decide) rfl (Nat.le_of_ble_eq_true rfl) (rfl) hs ?_
  intro C hC9 hG
  have hC := hC9.z
  have hs9 := jOK0_tr hC
  refine j_lt (fun hlt => ?_)
  have hBg : jB C = gB G := by rw [jB, hG]
  subst hG
  have n1 : e ≠ a := hne_of h1 he (fun e => by cases e)
  have n2 : e ≠ a + 4 := hne_of hly he (fun e => by cases e)
  have n3 : e ≠ a + 5 := hne_of hrw he (fun e => by cases e)
  have n4 : e ≠ a + 3 := hne_of hop he (fun e => by cases e)
  refine j_aload_n hC dX7_closeBrackets_0 rfl (jrf_ref _) ?_
  refine j_get (v := .int (nI (k + 1))) hC kf_X7_19 dX7_closeBrackets_1 (h1) (rfl) ?_
  refine n_if_le (tgt := 19) hC dX7_closeBrackets_4 (by decide) (by omega) (fun c1 => ?_) (fun c1 => ?_)
  · exact (show False by omega).elim
  · refine j_aload_n hC dX7_closeBrackets_7 rfl (jrf_ref _) ?_
    refine j_get (v := .int (nI (k + 1))) hC kf_X7_19 dX7_closeBrackets_8 (h1) (rfl) ?_
    refine j_aload_n hC dX7_closeBrackets_11 rfl (jrf_ref _) ?_
    refine j_get (v := .ref (a + 3)) hC kf_X7_15 dX7_closeBrackets_12 (h1) (rfl) ?_
    refine c_alen hC dX7_closeBrackets_15 (hop) ?_
    refine n_icmp_le (tgt := 25) hC dX7_closeBrackets_16 (by decide) (by omega) (by omega) (fun c2 => ?_) (fun c2 => ?_)
    · refine j_aload_n hC dX7_closeBrackets_25 rfl (jrf_ref _) ?_
      refine j_dup hC dX7_closeBrackets_26 rfl ?_
      refine j_get (v := .int (nI (k + 1))) hC kf_X7_19 dX7_closeBrackets_27 (h1) (rfl) ?_
      refine j_iconst (v := nI 1) hC dX7_closeBrackets_30 (by decide) ?_
      refine n_isub hC dX7_closeBrackets_31 (by omega) ?_
      refine j_top (rfl) ?_
      refine c_put (fs' := [.ref (a + 4), .int (nI σ.1), .ref tx, .ref (a + 3), .int (nI (k)), .int (jb (σ.2 = false))]) hC kp_X7_19 dX7_closeBrackets_32 (h1) (by omega) (rfl) (rfl) rfl ?_
      refine j_aload_n hC dX7_closeBrackets_35 rfl (jrf_ref _) ?_
      refine j_get (v := .ref (a + 4)) hC kf_X7_41 dX7_closeBrackets_36 (jput_at) (rfl) ?_
      refine j_aload_n hC dX7_closeBrackets_39 rfl (jrf_ref _) ?_
      refine j_get (v := .ref (a + 3)) hC kf_X7_15 dX7_closeBrackets_40 (jput_at) (rfl) ?_
      refine j_aload_n hC dX7_closeBrackets_43 rfl (jrf_ref _) ?_
      refine j_get (v := .int (nI (k))) hC kf_X7_19 dX7_closeBrackets_44 (jput_at) (rfl) ?_
      refine c_iald (i := k) (x := nI (i0)) hC dX7_closeBrackets_47 ((jput_ne (by show (a + 3) ≠ (a); omega)).trans (hop)) (by omega) (by omega) (hok0) ?_
      refine c_V hC kv_X7_122 dX7_closeBrackets_48 (m_X2_pieceAt (i := i0) (k := L.length) hs9 ((jput_ne (by show (a + 4) ≠ (a); omega)).trans (hly)) ((jput_ne (by show (a + 5) ≠ (a); omega)).trans (hrw)) hi0 hn (by omega) hg) ((jput_ne (by show (a + 4) ≠ (a); omega)).trans (hly)) rfl rfl rfl rfl (by decide) (Nat.le_of_ble_eq_true rfl) ?_
      refine j_astore_n1 hC dX7_closeBrackets_51 (jrf_ref _) (by decide) rfl ?_
      refine j_aload_n hC dX7_closeBrackets_52 rfl (jrf_ref _) ?_
      refine j_ifnull hC dX7_closeBrackets_53 ?_
      refine j_aload_n hC dX7_closeBrackets_56 rfl (jrf_ref _) ?_
      refine j_aload_n hC dX7_closeBrackets_57 rfl (jrf_ref _) ?_
      refine j_get (v := .ref (a + 4)) hC kf_X7_41 dX7_closeBrackets_58 (jput_at) (rfl) ?_
      refine j_get (v := .int (nI (n))) hC kf_X7_107 dX7_closeBrackets_61 ((jput_ne (by show (a + 4) ≠ (a); omega)).trans (hly)) (rfl) ?_
      refine c_put (fs' := [v0, v1, v2, v3, v4, v5, v6, v7, v8, v9, .int (nI (n))]) hC kp_X7_125 dX7_closeBrackets_64 ((jput_ne (by show (e) ≠ (a); omega)).trans (he)) (by omega) (rfl) (rfl) rfl ?_
      refine j_aload_n hC dX7_closeBrackets_67 rfl (jrf_ref _) ?_
      refine j_dup hC dX7_closeBrackets_68 rfl ?_
      refine j_get (v := .int (nI (σ.1))) hC kf_X7_9 dX7_closeBrackets_69 ((jput_ne (by show (a) ≠ (e); omega)).trans (jput_at)) (rfl) ?_
      refine j_iconst (v := nI 1) hC dX7_closeBrackets_72 (by decide) ?_
      refine n_iadd hC dX7_closeBrackets_73 ?_
      refine c_put (fs' := [.ref (a + 4), .int (nI ((σ.1) + (1))), .ref tx, .ref (a + 3), .int (nI (k)), .int (jb (σ.2 = false))]) hC kp_X7_9 dX7_closeBrackets_74 ((jput_ne (by show (a) ≠ (e); omega)).trans (jput_at)) (by omega) (rfl) (rfl) rfl ?_
      exact j_vret hC9 rfl dX7_closeBrackets_77 (⟨rfl, jput_at, (jput_ne (by show (e) ≠ (a); omega)).trans (jput_at), fun a9 o9 ha9 hn1 hn2 => by
  exact (jput_ne (by show (a9) ≠ (a); omega)).trans ((jput_ne (by show (a9) ≠ (e); omega)).trans ((jput_ne (by show (a9) ≠ (a); omega)).trans (ha9)))⟩)
    · exact (show False by omega).elim
