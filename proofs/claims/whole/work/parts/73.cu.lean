/-! ===== a reader of templates: fields and conditions ===== -/
def lyF (a : Nat) (L : List Nat) (n dd f br : Nat) : List Value := [.int (nI L.length), .ref (a + 3), .int (nI n), .int (nI dd), .int (nI f), .int (nI br)]
theorem or_bit : ∀ f, f < 32 → ∀ v, v < 5 → nI f ||| (nI 1 <<< (nI v &&& 31)) = nI (f ||| 2 ^ v) := by decide +kernel
theorem or_32 : ∀ f, f < 32 → ∀ v, v < 5 → f ||| 2 ^ v < 32 := by decide +kernel
def relK (c : Nat) : Nat := if c = 60 then 2 else if c = 61 then 3 else 4
section RL
variable {L : List Nat} {σ : pS} {a tx dp : Nat} {M : jM}
theorem rel_y (h : σ.2 = true) (h2 : pC L σ.1 = 60 ∨ pC L σ.1 = 61 ∨ pC L σ.1 = 62) : pWant L (pSig (relK (pC L σ.1))) σ = (σ.1 + 1, true) := by
  refine tk_y h ?_
  rcases h2 with e | e | e <;> rw [e] <;> rfl
theorem rel_n (h : σ.2 = true) (h2 : ¬ (pC L σ.1 = 60 ∨ pC L σ.1 = 61 ∨ pC L σ.1 = 62)) : pWant L (pSig (relK (pC L σ.1))) σ = (σ.1, false) := by
  refine tk_n h (fun e => h2 ?_)
  unfold relK at e
  by_cases e1 : pC L σ.1 = 60
  · exact Or.inl e1
  · rw [if_neg e1] at e
    by_cases e2 : pC L σ.1 = 61
    · exact Or.inr (Or.inl e2)
    · rw [if_neg e2] at e; exact Or.inr (Or.inr e)
theorem relE_y (h : σ.2 = true) (h2 : pC L σ.1 = 60 ∨ pC L σ.1 = 61 ∨ pC L σ.1 = 62) : jput M a (.inr (11, rdV a tx dp (σ.1 + 1) (jb (σ.2 = false)))) = jput M a (.inr (11, rdF a tx (pWant L (pSig (relK (pC L σ.1))) σ) dp)) := by
  rw [rel_y h h2]; exact rd_eq (σ' := (σ.1 + 1, true)) rfl (jf_o h)
theorem relE_n (h : σ.2 = true) (h2 : ¬ (pC L σ.1 = 60 ∨ pC L σ.1 = 61 ∨ pC L σ.1 = 62)) : jput M a (.inr (11, rdV a tx dp σ.1 (nI 1))) = jput M a (.inr (11, rdF a tx (pWant L (pSig (relK (pC L σ.1))) σ) dp)) := by
  rw [rel_n h h2]; exact rd_eq (σ' := (σ.1, false)) rfl jf_f
end RL
set_option maxHeartbeats 4000000 in
set_option maxRecDepth 100000 in
theorem m_X7_takeRelation {G : jG} {M : jM} {a tx dp : Nat} {L : List Nat} {σ : pS} {Z : jH} (hs : (gL G).stackTraces = false) (h1 : M.1 a = some (.inr (11, rdF a tx σ dp))) (htx : strR Z tx L) (hz : sub Z M.1) (hza : Z a = none) (hBa : gB G ≤ a) (hp : σ.1 ≤ 200) (hok : σ.2 = true) : JMet G jX7_takeRelation [.ref a] (M) 0 0 5 (fun w M' => w = some (.int (nI (pC L σ.1))) ∧ M' = jput M a (.inr (11, rdF a tx (pWant L (pSig (relK (pC L σ.1))) σ) dp))) jNo := by
  refine jMet_of [some (.ref (a)), none] (by decide) rfl (Nat.le_of_ble_eq_true rfl) (rfl) hs ?_
  intro C hC9 hG
  have hC := hC9.z
  have hs9 := jOK0_tr hC
  refine j_lt (fun hlt => ?_)
  have hBg : jB C = gB G := by rw [jB, hG]
  subst hG
  have hL5 := htx.2.1
  have hc5 : pC L σ.1 ≤ 126 := chr_le htx.2
  refine j_aload_n hC dX7_takeRelation_0 rfl (jrf_ref _) ?_
  refine c_V hC kv_X7_45 dX7_takeRelation_1 (m_X7_sign (σ := σ) hs9 (h1) htx hz (by omega)) (h1) rfl rfl rfl rfl (by decide) (Nat.le_of_ble_eq_true rfl) ?_
  refine j_istore_n1 hC dX7_takeRelation_4 (by decide) rfl ?_
  refine j_iload_n hC dX7_takeRelation_5 rfl ?_
  refine j_bipush (v := nI 60) hC dX7_takeRelation_6 (by decide) ?_
  refine n_icmp_eq (tgt := 23) hC dX7_takeRelation_8 (by decide) (by omega) (by omega) (fun c1 => ?_) (fun c1 => ?_)
  · refine j_aload_n hC dX7_takeRelation_23 rfl (jrf_ref _) ?_
    refine j_dup hC dX7_takeRelation_24 rfl ?_
    refine j_get (v := .int (nI (σ.1))) hC kf_X7_9 dX7_takeRelation_25 (h1) (rfl) ?_
    refine j_iconst (v := nI 1) hC dX7_takeRelation_28 (by decide) ?_
    refine n_iadd hC dX7_takeRelation_29 ?_
    refine c_put (fs' := [.ref (a + 2), .int (nI ((σ.1) + (1))), .ref tx, .ref (a + 1), .int (nI dp), .int (jb (σ.2 = false))]) hC kp_X7_9 dX7_takeRelation_30 (h1) (by omega) (rfl) (rfl) rfl ?_
    refine j_goto (tgt := 41) hC dX7_takeRelation_33 (by decide) ?_
    refine j_iload_n hC dX7_takeRelation_41 rfl ?_
    exact j_iret hC9 rfl (rfl) dX7_takeRelation_42 (⟨rfl, relE_y hok (by omega)⟩)
  · refine j_iload_n hC dX7_takeRelation_11 rfl ?_
    refine j_bipush (v := nI 61) hC dX7_takeRelation_12 (by decide) ?_
    refine n_icmp_eq (tgt := 23) hC dX7_takeRelation_14 (by decide) (by omega) (by omega) (fun c2 => ?_) (fun c2 => ?_)
    · refine j_aload_n hC dX7_takeRelation_23 rfl (jrf_ref _) ?_
      refine j_dup hC dX7_takeRelation_24 rfl ?_
      refine j_get (v := .int (nI (σ.1))) hC kf_X7_9 dX7_takeRelation_25 (h1) (rfl) ?_
      refine j_iconst (v := nI 1) hC dX7_takeRelation_28 (by decide) ?_
      refine n_iadd hC dX7_takeRelation_29 ?_
      refine c_put (fs' := [.ref (a + 2), .int (nI ((σ.1) + (1))), .ref tx, .ref (a + 1), .int (nI dp), .int (jb (σ.2 = false))]) hC kp_X7_9 dX7_takeRelation_30 (h1) (by omega) (rfl) (rfl) rfl ?_
      refine j_goto (tgt := 41) hC dX7_takeRelation_33 (by decide) ?_
      refine j_iload_n hC dX7_takeRelation_41 rfl ?_
      exact j_iret hC9 rfl (rfl) dX7_takeRelation_42 (⟨rfl, relE_y hok (by omega)⟩)
    · refine j_iload_n hC dX7_takeRelation_17 rfl ?_
      refine j_bipush (v := nI 62) hC dX7_takeRelation_18 (by decide) ?_
      refine n_icmp_ne (tgt := 36) hC dX7_takeRelation_20 (by decide) (by omega) (by omega) (fun c3 => ?_) (fun c3 => ?_)
      · refine j_aload_n hC dX7_takeRelation_36 rfl (jrf_ref _) ?_
        refine j_iconst (v := nI 1) hC dX7_takeRelation_37 (by decide) ?_
        refine c_put (fs' := [.ref (a + 2), .int (nI σ.1), .ref tx, .ref (a + 1), .int (nI dp), .int (nI (1))]) hC kp_X7_22 dX7_takeRelation_38 (h1) (by omega) (by decide) (by decide) rfl ?_
        refine j_iload_n hC dX7_takeRelation_41 rfl ?_
        exact j_iret hC9 rfl (rfl) dX7_takeRelation_42 (⟨rfl, relE_n hok (by omega)⟩)
      · refine j_aload_n hC dX7_takeRelation_23 rfl (jrf_ref _) ?_
        refine j_dup hC dX7_takeRelation_24 rfl ?_
        refine j_get (v := .int (nI (σ.1))) hC kf_X7_9 dX7_takeRelation_25 (h1) (rfl) ?_
        refine j_iconst (v := nI 1) hC dX7_takeRelation_28 (by decide) ?_
        refine n_iadd hC dX7_takeRelation_29 ?_
        refine c_put (fs' := [.ref (a + 2), .int (nI ((σ.1) + (1))), .ref tx, .ref (a + 1), .int (nI dp), .int (jb (σ.2 = false))]) hC kp_X7_9 dX7_takeRelation_30 (h1) (by omega) (rfl) (rfl) rfl ?_
        refine j_goto (tgt := 41) hC dX7_takeRelation_33 (by decide) ?_
        refine j_iload_n hC dX7_takeRelation_41 rfl ?_
        exact j_iret hC9 rfl (rfl) dX7_takeRelation_42 (⟨rfl, relE_y hok (by omega)⟩)
set_option maxHeartbeats 4000000 in
set_option maxRecDepth 100000 in
theorem m_X7_takeField {G : jG} {M : jM} {a tx dp : Nat} {L : List Nat} {σ : pS} {Z : jH} {n dd f br : Nat} (hs : (gL G).stackTraces = false) (h1 : M.1 a = some (.inr (11, rdF a tx σ dp))) (htx : strR Z tx L) (hz : sub Z M.1) (hza : Z a = none) (hBa : gB G ≤ a) (hp : σ.1 ≤ 198) (hly : M.1 (a + 2) = some (.inr (6, lyF a L n dd f br))) (hza2 : Z (a + 2) = none) (hf : f < 32) : JMet G jX7_takeField [.ref a] (M) 0 0 6 (fun w M' => w = some (.int (nI (pDv L 4 σ))) ∧ M' = jput (jput M a (.inr (11, rdF a tx (pDig L 4 σ) dp))) (a + 2) (.inr (6, lyF a L n dd (f ||| 2 ^ pDv L 4 σ) br))) jNo := by
  refine jMet_of [some (.ref (a)), none] (by decide) rfl (Nat.le_of_ble_eq_true rfl) (rfl) hs ?_
  intro C hC9 hG
  have hC := hC9.z
  have hs9 := jOK0_tr hC
  refine j_lt (fun hlt => ?_)
  have hBg : jB C = gB G := by rw [jB, hG]
  subst hG
  have hL5 := htx.2.1
  have hc5 : pC L σ.1 ≤ 126 := chr_le htx.2
  refine j_aload_n hC dX7_takeField_0 rfl (jrf_ref _) ?_
  refine j_iconst (v := nI 4) hC dX7_takeField_1 (by decide) ?_
  refine c_Pv (kc' := 0) (ks' := 0) hC kv_X7_130 dX7_takeField_2 (m_X7_takeDigit (m := 4) (σ := σ) hs9 (h1) htx hz hza hBa (by omega) (by decide)) (h1) rfl rfl rfl rfl (by decide) (Nat.le_of_ble_eq_true rfl) ?_
  intro v9 N1 h9
  obtain ⟨rfl, e9⟩ := h9
  refine j_M e9 ?_
  clear e9
  have hd2 := td_le (L := L) (m := 4) (σ := σ)
  refine j_istore_n1 hC dX7_takeField_5 (by decide) rfl ?_
  refine j_aload_n hC dX7_takeField_6 rfl (jrf_ref _) ?_
  refine j_get (v := .ref (a + 2)) hC kf_X7_41 dX7_takeField_7 (jput_at) (rfl) ?_
  refine j_dup hC dX7_takeField_10 rfl ?_
  refine j_get (v := .int (nI (f))) hC kf_X7_143 dX7_takeField_11 ((jput_ne (by show (a + 2) ≠ (a); omega)).trans (hly)) (rfl) ?_
  refine j_iconst (v := nI 1) hC dX7_takeField_14 (by decide) ?_
  refine j_iload_n hC dX7_takeField_15 rfl ?_
  refine j_ishl hC dX7_takeField_16 ?_
  refine j_ior hC dX7_takeField_17 ?_
  refine j_top (or_bit f hf _ (by omega)) ?_
  refine c_put (fs' := [.int (nI L.length), .ref (a + 3), .int (nI n), .int (nI dd), .int (nI (f ||| 2 ^ pDv L 4 σ)), .int (nI br)]) hC kp_X7_143 dX7_takeField_18 ((jput_ne (by show (a + 2) ≠ (a); omega)).trans (hly)) (by omega) (rfl) (rfl) rfl ?_
  refine j_iload_n hC dX7_takeField_21 rfl ?_
  exact j_iret hC9 rfl (rfl) dX7_takeField_22 (⟨rfl, rfl⟩)
