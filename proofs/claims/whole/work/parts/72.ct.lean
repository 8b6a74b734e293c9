/-! ===== a reader of templates: takes ===== -/
def rdF (a tx : Nat) (σ : pS) (dp : Nat) : List Value := [.ref (a + 4), .int (nI σ.1), .ref tx, .ref (a + 3), .int (nI dp), .int (jb (σ.2 = false))]
section RD
variable {L : List Nat} {σ σ' : pS} {c m a tx dp p : Nat} {M : jM} {x : Int32}
theorem rd_eq (hp : p = σ'.1) (hx : x = jb (σ'.2 = false)) : jput M a (.inr (11, [.ref (a + 4), .int (nI p), .ref tx, .ref (a + 3), .int (nI dp), .int x])) = jput M a (.inr (11, rdF a tx σ' dp)) := by
  subst hp
  subst hx
  rfl
theorem ok_t (h : ¬ σ.2 = false) : σ.2 = true := by
  cases e : σ.2
  · exact absurd e h
  · rfl
theorem jf_t : jb (true = false) = nI 0 := rfl
theorem jf_f : nI 1 = jb (false = false) := rfl
theorem jf_w (h : σ.2 = false) : nI 1 = jb (σ.2 = false) := jb_t1 h
theorem jf_o (h : σ.2 = true) : jb (σ.2 = false) = jb (true = false) := by rw [h]
theorem tk_w (h : σ.2 = false) : pWant L c σ = σ := by rw [pWant, if_neg (by rw [h]; decide)]
theorem tk_n (h : σ.2 = true) (h2 : ¬ pC L σ.1 = c) : pWant L c σ = (σ.1, false) := by rw [pWant, if_pos h, if_neg h2]
theorem tk_y (h : σ.2 = true) (h2 : pC L σ.1 = c) : pWant L c σ = (σ.1 + 1, true) := by rw [pWant, if_pos h, if_pos h2]
theorem td_w (h : σ.2 = false) : pDig L m σ = σ ∧ pDv L m σ = 0 := by
  refine ⟨by rw [pDig, if_neg (by rw [h]; decide)], by rw [pDv, if_neg (fun e => by rw [h] at e; exact absurd e.1 (by decide))]⟩
theorem td_n (h : σ.2 = true) (h2 : ¬ (48 ≤ pC L σ.1 ∧ pC L σ.1 ≤ 48 + m)) : pDig L m σ = (σ.1, false) ∧ pDv L m σ = 0 := ⟨by rw [pDig, if_pos h, if_neg h2], by rw [pDv, if_neg (fun e => h2 e.2)]⟩
theorem td_y (h : σ.2 = true) (h2 : 48 ≤ pC L σ.1 ∧ pC L σ.1 ≤ 48 + m) : pDig L m σ = (σ.1 + 1, true) ∧ pDv L m σ = pC L σ.1 - 48 := ⟨by rw [pDig, if_pos h, if_pos h2], by rw [pDv, if_pos ⟨h, h2⟩]⟩
theorem pC_beyond (h : L.length ≤ p) : pC L p = 0 := by
  rw [pC, List.getD_eq_getElem?_getD, List.getElem?_eq_none h]
  rfl
theorem zI_sub48 {c : Nat} (h : 48 ≤ c) : zI (((c : Nat) : Int) - ((48 : Nat) : Int)) = nI (c - 48) := by
  rw [show ((c : Nat) : Int) - ((48 : Nat) : Int) = ((c - 48 : Nat) : Int) by omega]
  rfl
abbrev rdV (a tx dp p : Nat) (x : Int32) : List Value := [.ref (a + 4), .int (nI p), .ref tx, .ref (a + 3), .int (nI dp), .int x]
theorem tkE_w (h : σ.2 = false) : jput M a (.inr (11, rdV a tx dp σ.1 (nI 1))) = jput M a (.inr (11, rdF a tx (pWant L c σ) dp)) := by
  rw [tk_w h]; exact rd_eq rfl (jf_w h)
theorem tkE_n (h : ¬ σ.2 = false) (h2 : ¬ pC L σ.1 = c) : jput M a (.inr (11, rdV a tx dp σ.1 (nI 1))) = jput M a (.inr (11, rdF a tx (pWant L c σ) dp)) := by
  rw [tk_n (ok_t h) h2]; exact rd_eq (σ' := (σ.1, false)) rfl jf_f
theorem tkE_y (h : ¬ σ.2 = false) (h2 : pC L σ.1 = c) : jput M a (.inr (11, rdV a tx dp (σ.1 + 1) (jb (σ.2 = false)))) = jput M a (.inr (11, rdF a tx (pWant L c σ) dp)) := by
  rw [tk_y (ok_t h) h2]; exact rd_eq (σ' := (σ.1 + 1, true)) rfl (jf_o (ok_t h))
theorem tdE_w (h : σ.2 = false) : nI 0 = nI (pDv L m σ) ∧ jput M a (.inr (11, rdV a tx dp σ.1 (nI 1))) = jput M a (.inr (11, rdF a tx (pDig L m σ) dp)) := by
  rw [(td_w h).1, (td_w h).2]; exact ⟨rfl, rd_eq rfl (jf_w h)⟩
theorem tdE_n (h : ¬ σ.2 = false) (h2 : ¬ (48 ≤ pC L σ.1 ∧ pC L σ.1 ≤ 48 + m)) : nI 0 = nI (pDv L m σ) ∧ jput M a (.inr (11, rdV a tx dp σ.1 (nI 1))) = jput M a (.inr (11, rdF a tx (pDig L m σ) dp)) := by
  rw [(td_n (ok_t h) h2).1, (td_n (ok_t h) h2).2]; exact ⟨rfl, rd_eq (σ' := (σ.1, false)) rfl jf_f⟩
theorem tdE_y (h : ¬ σ.2 = false) (h2 : 48 ≤ pC L σ.1 ∧ pC L σ.1 ≤ 48 + m) : zI (((pC L σ.1 : Nat) : Int) - ((48 : Nat) : Int)) = nI (pDv L m σ) ∧ jput M a (.inr (11, rdV a tx dp (σ.1 + 1) (jb (σ.2 = false)))) = jput M a (.inr (11, rdF a tx (pDig L m σ) dp)) := by
  rw [(td_y (ok_t h) h2).1, (td_y (ok_t h) h2).2]; exact ⟨zI_sub48 h2.1, rd_eq (σ' := (σ.1 + 1, true)) rfl (jf_o (ok_t h))⟩
end RD
set_option maxHeartbeats 4000000 in
set_option maxRecDepth 100000 in
theorem m_X7_sign {G : jG} {M : jM} {a tx dp : Nat} {L : List Nat} {σ : pS} {Z : jH} (hs : (gL G).stackTraces = false) (h1 : M.1 a = some (.inr (11, rdF a tx σ dp))) (htx : strR Z tx L) (hz : sub Z M.1) (hp : σ.1 ≤ 200) : CM G M jX7_sign 0 0 4 [.ref a] (some (.int (nI (pC L σ.1)))) (M) := by
  refine jMet_of [some (.ref (a))] (by decide) rfl (Nat.le_of_ble_eq_true rfl) (rfl) hs ?_
  intro C hC9 hG
  have hC := hC9.z
  have hs9 := jOK0_tr hC
  have hL5 := htx.2.1
  refine j_aload_n hC dX7_sign_0 rfl (jrf_ref _) ?_
  refine j_get (v := .int (nI (σ.1))) hC kf_X7_9 dX7_sign_1 (h1) (rfl) ?_
  refine j_aload_n hC dX7_sign_4 rfl (jrf_ref _) ?_
  refine j_get (v := .ref (tx)) hC kf_X7_26 dX7_sign_5 (h1) (rfl) ?_
  refine c_V hC kv_X7_32 dX7_sign_8 (m_J0_length_8abf5 hs9 (htx.mono hz)) ((htx.mono hz).obj.choose_spec) rfl rfl rfl rfl (by decide) (Nat.le_of_ble_eq_true rfl) ?_
  refine n_icmp_ge (tgt := 28) hC dX7_sign_11 (by decide) (by omega) (by omega) (fun c1 => ?_) (fun c1 => ?_)
  · refine j_iconst (v := nI 0) hC dX7_sign_28 (by decide) ?_
    exact j_iret hC9 rfl (rfl) dX7_sign_29 ⟨(jv (by rw [pC_beyond (by omega)])), rfl⟩
  · refine j_aload_n hC dX7_sign_14 rfl (jrf_ref _) ?_
    refine j_get (v := .ref (tx)) hC kf_X7_26 dX7_sign_15 (h1) (rfl) ?_
    refine j_aload_n hC dX7_sign_18 rfl (jrf_ref _) ?_
    refine j_get (v := .int (nI (σ.1))) hC kf_X7_9 dX7_sign_19 (h1) (rfl) ?_
    refine c_V hC kv_X7_146 dX7_sign_22 (m_J0_charAt_5068e hs9 (htx.mono hz) (by omega)) ((htx.mono hz).obj.choose_spec) rfl rfl rfl rfl (by decide) (Nat.le_of_ble_eq_true rfl) ?_
    refine j_goto (tgt := 29) hC dX7_sign_25 (by decide) ?_
    exact j_iret hC9 rfl (rfl) dX7_sign_29 ⟨rfl, rfl⟩
set_option maxHeartbeats 4000000 in
set_option maxRecDepth 100000 in
theorem m_X7_take {G : jG} {M : jM} {a tx dp : Nat} {L : List Nat} {σ : pS} {Z : jH} {c : Nat} (hs : (gL G).stackTraces = false) (h1 : M.1 a = some (.inr (11, rdF a tx σ dp))) (htx : strR Z tx L) (hz : sub Z M.1) (hza : Z a = none) (hBa : gB G ≤ a) (hp : σ.1 ≤ 200) (hc : c ≤ 126) : JMet G jX7_take [.ref a, .int (nI c)] (M) 0 0 5 (fun w M' => w = none ∧ M' = jput M a (.inr (11, rdF a tx (pWant L c σ) dp))) jNo := by
  refine jMet_of [some (.ref (a)), some (.int (nI (c)))] (by decide) rfl (Nat.le_of_ble_eq_true rfl) (rfl) hs ?_
  intro C hC9 hG
  have hC := hC9.z
  have hs9 := jOK0_tr hC
  refine j_lt (fun hlt => ?_)
  have hBg : jB C = gB G := by rw [jB, hG]
  subst hG
  have hL5 := htx.2.1
  have hc5 : pC L σ.1 ≤ 126 := chr_le htx.2
  refine j_aload_n hC dX7_take_0 rfl (jrf_ref _) ?_
  refine j_get (v := .int (jb (σ.2 = false))) hC kf_X7_22 dX7_take_1 (h1) (rfl) ?_
  refine jb_if_ne (tgt := 15) hC dX7_take_4 (by decide) (fun c1 => ?_) (fun c1 => ?_)
  · refine j_aload_n hC dX7_take_15 rfl (jrf_ref _) ?_
    refine j_iconst (v := nI 1) hC dX7_take_16 (by decide) ?_
    refine c_put (fs' := [.ref (a + 4), .int (nI σ.1), .ref tx, .ref (a + 3), .int (nI dp), .int (nI (1))]) hC kp_X7_22 dX7_take_17 (h1) (by omega) (by decide) (by decide) rfl ?_
    refine j_goto (tgt := 33) hC dX7_take_20 (by decide) ?_
    exact j_vret hC9 rfl dX7_take_33 (⟨rfl, by first | exact tkE_w (by assumption) | exact tkE_n (by assumption) (by assumption)⟩)
  · refine j_aload_n hC dX7_take_7 rfl (jrf_ref _) ?_
    refine c_V hC kv_X7_45 dX7_take_8 (m_X7_sign (σ := σ) hs9 (h1) htx hz (by omega)) (h1) rfl rfl rfl rfl (by decide) (Nat.le_of_ble_eq_true rfl) ?_
    refine j_iload_n hC dX7_take_11 rfl ?_
    refine n_icmp_eq (tgt := 23) hC dX7_take_12 (by decide) (by omega) (by omega) (fun c2 => ?_) (fun c2 => ?_)
    · refine j_aload_n hC dX7_take_23 rfl (jrf_ref _) ?_
      refine j_dup hC dX7_take_24 rfl ?_
      refine j_get (v := .int (nI (σ.1))) hC kf_X7_9 dX7_take_25 (h1) (rfl) ?_
      refine j_iconst (v := nI 1) hC dX7_take_28 (by decide) ?_
      refine n_iadd hC dX7_take_29 ?_
      refine c_put (fs' := [.ref (a + 4), .int (nI ((σ.1) + (1))), .ref tx, .ref (a + 3), .int (nI dp), .int (jb (σ.2 = false))]) hC kp_X7_9 dX7_take_30 (h1) (by omega) (rfl) (rfl) rfl ?_
      exact j_vret hC9 rfl dX7_take_33 (⟨rfl, tkE_y (by assumption) (by assumption)⟩)
    · refine j_aload_n hC dX7_take_15 rfl (jrf_ref _) ?_
      refine j_iconst (v := nI 1) hC dX7_take_16 (by decide) ?_
      refine c_put (fs' := [.ref (a + 4), .int (nI σ.1), .ref tx, .ref (a + 3), .int (nI dp), .int (nI (1))]) hC kp_X7_22 dX7_take_17 (h1) (by omega) (by decide) (by decide) rfl ?_
      refine j_goto (tgt := 33) hC dX7_take_20 (by decide) ?_
      exact j_vret hC9 rfl dX7_take_33 (⟨rfl, by first | exact tkE_w (by assumption) | exact tkE_n (by assumption) (by assumption)⟩)
set_option maxHeartbeats 4000000 in
set_option maxRecDepth 100000 in
theorem m_X7_takeDigit {G : jG} {M : jM} {a tx dp : Nat} {L : List Nat} {σ : pS} {Z : jH} {m : Nat} (hs : (gL G).stackTraces = false) (h1 : M.1 a = some (.inr (11, rdF a tx σ dp))) (htx : strR Z tx L) (hz : sub Z M.1) (hza : Z a = none) (hBa : gB G ≤ a) (hp : σ.1 ≤ 200) (hm : m ≤ 9) : JMet G jX7_takeDigit [.ref a, .int (nI m)] (M) 0 0 5 (fun w M' => w = some (.int (nI (pDv L m σ))) ∧ M' = jput M a (.inr (11, rdF a tx (pDig L m σ) dp))) jNo := by
  refine jMet_of [some (.ref (a)), some (.int (nI (m))), none] (by decide) rfl (Nat.le_of_ble_eq_true rfl) (rfl) hs ?_
  intro C hC9 hG
  have hC := hC9.z
  have hs9 := jOK0_tr hC
  refine j_lt (fun hlt => ?_)
  have hBg : jB C = gB G := by rw [jB, hG]
  subst hG
  have hL5 := htx.2.1
  have hc5 : pC L σ.1 ≤ 126 := chr_le htx.2
  refine j_aload_n hC dX7_takeDigit_0 rfl (jrf_ref _) ?_
  refine c_V hC kv_X7_45 dX7_takeDigit_1 (m_X7_sign (σ := σ) hs9 (h1) htx hz (by omega)) (h1) rfl rfl rfl rfl (by decide) (Nat.le_of_ble_eq_true rfl) ?_
  refine j_bipush (v := nI 48) hC dX7_takeDigit_4 (by decide) ?_
  refine z_isub (a := ((pC L σ.1 : Nat) : Int)) (b := ((48 : Nat) : Int)) hC dX7_takeDigit_6 ?_
  refine j_istore_n2 hC dX7_takeDigit_7 (by decide) rfl ?_
  refine j_aload_n hC dX7_takeDigit_8 rfl (jrf_ref _) ?_
  refine j_get (v := .int (jb (σ.2 = false))) hC kf_X7_22 dX7_takeDigit_9 (h1) (rfl) ?_
  refine jb_if_ne (tgt := 24) hC dX7_takeDigit_12 (by decide) (fun c1 => ?_) (fun c1 => ?_)
  · refine j_aload_n hC dX7_takeDigit_24 rfl (jrf_ref _) ?_
    refine j_iconst (v := nI 1) hC dX7_takeDigit_25 (by decide) ?_
    refine c_put (fs' := [.ref (a + 4), .int (nI σ.1), .ref tx, .ref (a + 3), .int (nI dp), .int (nI (1))]) hC kp_X7_22 dX7_takeDigit_26 (h1) (by omega) (by decide) (by decide) rfl ?_
    refine j_iconst (v := nI 0) hC dX7_takeDigit_29 (by decide) ?_
    have ht9 : nI 0 = nI (pDv L m σ) ∧ jput M a (.inr (11, rdV a tx dp σ.1 (nI 1))) = jput M a (.inr (11, rdF a tx (pDig L m σ) dp)) := by first | exact tdE_w (M := M) (a := a) (tx := tx) (dp := dp) (by assumption) | exact tdE_n (M := M) (a := a) (tx := tx) (dp := dp) (by assumption) (by omega)
    exact j_iret hC9 rfl (rfl) dX7_takeDigit_30 (⟨jv ht9.1, ht9.2⟩)
  · refine j_iload_n hC dX7_takeDigit_15 rfl ?_
    refine z_if_lt (a := ((((pC L σ.1 : Nat) : Int) - ((48 : Nat) : Int)))) (tgt := 24) hC dX7_takeDigit_16 (by decide) (by unfold zB; omega) (fun c2 => ?_) (fun c2 => ?_)
    · refine j_aload_n hC dX7_takeDigit_24 rfl (jrf_ref _) ?_
      refine j_iconst (v := nI 1) hC dX7_takeDigit_25 (by decide) ?_
      refine c_put (fs' := [.ref (a + 4), .int (nI σ.1), .ref tx, .ref (a + 3), .int (nI dp), .int (nI (1))]) hC kp_X7_22 dX7_takeDigit_26 (h1) (by omega) (by decide) (by decide) rfl ?_
      refine j_iconst (v := nI 0) hC dX7_takeDigit_29 (by decide) ?_
      have ht9 : nI 0 = nI (pDv L m σ) ∧ jput M a (.inr (11, rdV a tx dp σ.1 (nI 1))) = jput M a (.inr (11, rdF a tx (pDig L m σ) dp)) := by first | exact tdE_w (M := M) (a := a) (tx := tx) (dp := dp) (by assumption) | exact tdE_n (M := M) (a := a) (tx := tx) (dp := dp) (by assumption) (by omega)
      exact j_iret hC9 rfl (rfl) dX7_takeDigit_30 (⟨jv ht9.1, ht9.2⟩)
    · refine j_iload_n hC dX7_takeDigit_19 rfl ?_
      refine j_iload_n hC dX7_takeDigit_20 rfl ?_
      refine z_icmp_le (a := ((((pC L σ.1 : Nat) : Int) - ((48 : Nat) : Int)))) (b := ((m : Nat) : Int)) (tgt := 31) hC dX7_takeDigit_21 (by decide) (by unfold zB; omega) (by unfold zB; omega) (fun c3 => ?_) (fun c3 => ?_)
      · refine j_aload_n hC dX7_takeDigit_31 rfl (jrf_ref _) ?_
        refine j_dup hC dX7_takeDigit_32 rfl ?_
        refine j_get (v := .int (nI (σ.1))) hC kf_X7_9 dX7_takeDigit_33 (h1) (rfl) ?_
        refine j_iconst (v := nI 1) hC dX7_takeDigit_36 (by decide) ?_
        refine n_iadd hC dX7_takeDigit_37 ?_
        refine c_put (fs' := [.ref (a + 4), .int (nI ((σ.1) + (1))), .ref tx, .ref (a + 3), .int (nI dp), .int (jb (σ.2 = false))]) hC kp_X7_9 dX7_takeDigit_38 (h1) (by omega) (rfl) (rfl) rfl ?_
        refine j_iload_n hC dX7_takeDigit_41 rfl ?_
        have ht9 := tdE_y (L := L) (m := m) (M := M) (a := a) (tx := tx) (dp := dp) (σ := σ) (by assumption) (by omega)
        exact j_iret hC9 rfl (rfl) dX7_takeDigit_42 (⟨jv ht9.1, ht9.2⟩)
      · refine j_aload_n hC dX7_takeDigit_24 rfl (jrf_ref _) ?_
        refine j_iconst (v := nI 1) hC dX7_takeDigit_25 (by decide) ?_
        refine c_put (fs' := [.ref (a + 4), .int (nI σ.1), .ref tx, .ref (a + 3), .int (nI dp), .int (nI (1))]) hC kp_X7_22 dX7_takeDigit_26 (h1) (by omega) (by decide) (by decide) rfl ?_
        refine j_iconst (v := nI 0) hC dX7_takeDigit_29 (by decide) ?_
        have ht9 : nI 0 = nI (pDv L m σ) ∧ jput M a (.inr (11, rdV a tx dp σ.1 (nI 1))) = jput M a (.inr (11, rdF a tx (pDig L m σ) dp)) := by first | exact tdE_w (M := M) (a := a) (tx := tx) (dp := dp) (by assumption) | exact tdE_n (M := M) (a := a) (tx := tx) (dp := dp) (by assumption) (by omega)
        exact j_iret hC9 rfl (rfl) dX7_takeDigit_30 (⟨jv ht9.1, ht9.2⟩)
theorem td_le {L : List Nat} {m : Nat} {σ : pS} : pDv L m σ ≤ m ∧ (pDig L m σ).1 ≤ σ.1 + 1 := by
  unfold pDv pDig
  constructor
  · split <;> omega
  · split
    · split
      · exact Nat.le_refl _
      · exact Nat.le_succ _
    · exact Nat.le_succ _
theorem num_y {L : List Nat} {σ : pS} (h1 : (pDig L 9 σ).2 = true) (h2 : ¬ pDv L 9 σ = 0) (h3 : 48 ≤ pC L (pDig L 9 σ).1 ∧ pC L (pDig L 9 σ).1 ≤ 57) : pNumV L σ = 10 * pDv L 9 σ + pDv L 9 (pDig L 9 σ) ∧ pNum L σ = pDig L 9 (pDig L 9 σ) := ⟨if_pos ⟨h1, h2, h3⟩, if_pos ⟨h1, h2, h3⟩⟩
theorem num_n {L : List Nat} {σ : pS} (h : ¬ ((pDig L 9 σ).2 = true ∧ ¬ pDv L 9 σ = 0 ∧ (48 ≤ pC L (pDig L 9 σ).1 ∧ pC L (pDig L 9 σ).1 ≤ 57))) : pNumV L σ = pDv L 9 σ ∧ pNum L σ = pDig L 9 σ := ⟨if_neg h, if_neg h⟩
set_option maxHeartbeats 4000000 in
set_option maxRecDepth 100000 in
theorem m_X7_takeNumber {G : jG} {M : jM} {a tx dp : Nat} {L : List Nat} {σ : pS} {Z : jH} (hs : (gL G).stackTraces = false) (h1 : M.1 a = some (.inr (11, rdF a tx σ dp))) (htx : strR Z tx L) (hz : sub Z M.1) (hza : Z a = none) (hBa : gB G ≤ a) (hp : σ.1 ≤ 198)  : JMet G jX7_takeNumber [.ref a] (M) 0 0 6 (fun w M' => w = some (.int (nI (pNumV L σ))) ∧ M' = jput M a (.inr (11, rdF a tx (pNum L σ) dp))) jNo := by
  refine jMet_of [some (.ref (a)), none, none] (by decide) rfl (Nat.le_of_ble_eq_true rfl) (rfl) hs ?_
  intro C hC9 hG
  have hC := hC9.z
  have hs9 := jOK0_tr hC
  refine j_lt (fun hlt => ?_)
  have hBg : jB C = gB G := by rw [jB, hG]
  subst hG
  have hL5 := htx.2.1
  have hc5 : pC L σ.1 ≤ 126 := chr_le htx.2
  refine j_aload_n hC dX7_takeNumber_0 rfl (jrf_ref _) ?_
  refine j_bipush (v := nI 9) hC dX7_takeNumber_1 (by decide) ?_
  refine c_Pv (kc' := 0) (ks' := 0) hC kv_X7_130 dX7_takeNumber_3 (m_X7_takeDigit (m := 9) (σ := σ) hs9 (h1) htx hz hza hBa (by omega) (by decide)) (h1) rfl rfl rfl rfl (by decide) (Nat.le_of_ble_eq_true rfl) ?_
  intro v9 N1 h9
  obtain ⟨rfl, e9⟩ := h9
  refine j_M e9 ?_
  clear e9
  have hd3 := td_le (L := L) (m := 9) (σ := σ)
  refine j_istore_n1 hC dX7_takeNumber_6 (by decide) rfl ?_
  suffices K : J C (jput (M) (a) (.inr (11, rdF a tx (pDig L 9 σ) dp))) 0 0 23 [some (.ref (a)), some (.int (nI (pDv L 9 σ))), none] [.int (jb ((pDig L 9 σ).2 = true ∧ ¬ pDv L 9 σ = 0))] by
    refine j_aload_n hC dX7_takeNumber_7 rfl (jrf_ref _) ?_
    refine j_get (v := .int (jb ((pDig L 9 σ).2 = false))) hC kf_X7_22 dX7_takeNumber_8 (jput_at) (rfl) ?_
    refine jb_if_ne (tgt := 22) hC dX7_takeNumber_11 (by decide) (fun c2 => ?_) (fun c2 => ?_)
    · refine j_iconst (v := nI 0) hC dX7_takeNumber_22 (by decide) ?_
      exact j_top (jb_f0 (by rintro ⟨e1, e2⟩; first | contradiction | exact absurd (show true = false from e1.symm.trans (by assumption)) (by decide))) K
    · refine j_iload_n hC dX7_takeNumber_14 rfl ?_
      refine n_if_eq (tgt := 22) hC dX7_takeNumber_15 (by decide) (by omega) (fun c3 => ?_) (fun c3 => ?_)
      · refine j_iconst (v := nI 0) hC dX7_takeNumber_22 (by decide) ?_
        exact j_top (jb_f0 (by rintro ⟨e1, e2⟩; first | contradiction | exact absurd (show true = false from e1.symm.trans (by assumption)) (by decide))) K
      · refine j_iconst (v := nI 1) hC dX7_takeNumber_18 (by decide) ?_
        refine j_goto (tgt := 23) hC dX7_takeNumber_19 (by decide) ?_
        exact j_top (jb_t1 (⟨ok_t (by assumption), by assumption⟩)) K
  refine j_istore_n2 hC dX7_takeNumber_23 (by decide) rfl ?_
  refine j_iload_n hC dX7_takeNumber_24 rfl ?_
  refine jb_if_eq (tgt := 58) hC dX7_takeNumber_25 (by decide) (fun c4 => ?_) (fun c4 => ?_)
  · have hgo : ¬ ((pDig L 9 σ).2 = true ∧ ¬ pDv L 9 σ = 0) := by assumption
    refine j_iload_n hC dX7_takeNumber_58 rfl ?_
    have hnn := num_n (L := L) (σ := σ) (fun e => by first | exact hgo ⟨e.1, e.2.1⟩ | omega)
    exact j_iret hC9 rfl (rfl) dX7_takeNumber_59 (⟨jv (by rw [hnn.1]), by rw [hnn.2]⟩)
  · have hgo : (pDig L 9 σ).2 = true ∧ ¬ pDv L 9 σ = 0 := by assumption
    have hc6 : pC L (pDig L 9 σ).1 ≤ 126 := chr_le htx.2
    refine j_aload_n hC dX7_takeNumber_28 rfl (jrf_ref _) ?_
    refine c_V hC kv_X7_45 dX7_takeNumber_29 (m_X7_sign (σ := (pDig L 9 σ)) hs9 (jput_at) htx (sub_put (hza) hz) (by omega)) (jput_at) rfl rfl rfl rfl (by decide) (Nat.le_of_ble_eq_true rfl) ?_
    refine j_bipush (v := nI 48) hC dX7_takeNumber_32 (by decide) ?_
    refine n_icmp_lt (tgt := 58) hC dX7_takeNumber_34 (by decide) (by omega) (by omega) (fun c5 => ?_) (fun c5 => ?_)
    · refine j_iload_n hC dX7_takeNumber_58 rfl ?_
      have hnn := num_n (L := L) (σ := σ) (fun e => by first | exact hgo ⟨e.1, e.2.1⟩ | omega)
      exact j_iret hC9 rfl (rfl) dX7_takeNumber_59 (⟨jv (by rw [hnn.1]), by rw [hnn.2]⟩)
    · refine j_aload_n hC dX7_takeNumber_37 rfl (jrf_ref _) ?_
      refine c_V hC kv_X7_45 dX7_takeNumber_38 (m_X7_sign (σ := (pDig L 9 σ)) hs9 (jput_at) htx (sub_put (hza) hz) (by omega)) (jput_at) rfl rfl rfl rfl (by decide) (Nat.le_of_ble_eq_true rfl) ?_
      refine j_bipush (v := nI 57) hC dX7_takeNumber_41 (by decide) ?_
      refine n_icmp_gt (tgt := 58) hC dX7_takeNumber_43 (by decide) (by omega) (by omega) (fun c6 => ?_) (fun c6 => ?_)
      · refine j_iload_n hC dX7_takeNumber_58 rfl ?_
        have hnn := num_n (L := L) (σ := σ) (fun e => by first | exact hgo ⟨e.1, e.2.1⟩ | omega)
        exact j_iret hC9 rfl (rfl) dX7_takeNumber_59 (⟨jv (by rw [hnn.1]), by rw [hnn.2]⟩)
      · refine j_iload_n hC dX7_takeNumber_46 rfl ?_
        refine j_bipush (v := nI 10) hC dX7_takeNumber_47 (by decide) ?_
        refine n_imul hC dX7_takeNumber_49 ?_
        refine j_aload_n hC dX7_takeNumber_50 rfl (jrf_ref _) ?_
        refine j_bipush (v := nI 9) hC dX7_takeNumber_51 (by decide) ?_
        refine c_Pv (kc' := 0) (ks' := 0) hC kv_X7_130 dX7_takeNumber_53 (m_X7_takeDigit (m := 9) (σ := (pDig L 9 σ)) hs9 (jput_at) htx (sub_put (hza) hz) hza hBa (by omega) (by decide)) (jput_at) rfl rfl rfl rfl (by decide) (Nat.le_of_ble_eq_true rfl) ?_
        intro v9 N7 h9
        obtain ⟨rfl, e9⟩ := h9
        refine j_M e9 ?_
        clear e9
        have hd53 := td_le (L := L) (m := 9) (σ := (pDig L 9 σ))
        refine j_M jput_jput ?_
        refine n_iadd hC dX7_takeNumber_56 ?_
        refine j_istore_n1 hC dX7_takeNumber_57 (by decide) rfl ?_
        refine j_iload_n hC dX7_takeNumber_58 rfl ?_
        exact j_iret hC9 rfl (rfl) dX7_takeNumber_59 (⟨jv (by rw [(num_y hgo.1 hgo.2 (by omega)).1, Nat.mul_comm]), by rw [(num_y hgo.1 hgo.2 (by omega)).2]⟩)
