/-! ===== a reader of templates: fields and conditions ===== -/
def lyF (a : Nat) (L : List Nat) (n dd f br : Nat) : List Value := [.int (nI L.length), .ref (a + 5), .int (nI n), .int (nI dd), .int (nI f), .int (nI br)]
theorem or_bit : ∀ f, f < 32 → ∀ v, v < 5 → nI f ||| (nI 1 <<< (nI v &&& 31)) = nI (f ||| 2 ^ v) := by decide +kernel
theorem or_32 : ∀ f, f < 32 → ∀ v, v < 5 → f ||| 2 ^ v < 32 := by decide +kernel
def relK (c : Nat) : Nat := if c = 60 then 2 else if c = 61 then 3 else 4
section RL
variable {L : List Nat} {σ : pS} {a tx dp : Nat} {M : jM}
theorem rel_y (h : σ.2 = true) (h2 : pC L σ.1 = 60 ∨ pC L σ.1 = 61 ∨ pC L σ.1 = 62) : pWant L (pSig (relK (pC L σ.1))) σ = (σ.1 + 1, true) := by
  refine tk_y h ?_
  rcases h2 with e | e | e <;> rw [e] <;> rfl
theorem rel_n (h : σ.2 = true) (h2 : ¬ (pC L σ.1 = 60 ∨ pC L σ.1 = 61 ∨ pC L σ.1 = 62)) : pWant L (pSig (relK (pC L σ.1))) σ = (σ.1, false) := by
  refine tk_n h (fun e => h2 ?_)
  unfold relK at e
  by_cases e1 : pC L σ.1 = 60
  · exact Or.inl e1
  · rw [if_neg e1] at e
    by_cases e2 : pC L σ.1 = 61
    · exact Or.inr (Or.inl e2)
    · rw [if_neg e2] at e; exact Or.inr (Or.inr e)
theorem relE_y (h : σ.2 = true) (h2 : pC L σ.1 = 60 ∨ pC L σ.1 = 61 ∨ pC L σ.1 = 62) : jput M a (.inr (11, rdV a tx dp (σ.1 + 1) (jb (σ.2 = false)))) = jput M a (.inr (11, rdF a tx (pWant L (pSig (relK (pC L σ.1))) σ) dp)) := by
  rw [rel_y h h2]; exact rd_eq (σ' := (σ.1 + 1, true)) rfl (jf_o h)
theorem relE_n (h : σ.2 = true) (h2 : ¬ (pC L σ.1 = 60 ∨ pC L σ.1 = 61 ∨ pC L σ.1 = 62)) : jput M a (.inr (11, rdV a tx dp σ.1 (nI 1))) = jput M a (.inr (11, rdF a tx (pWant L (pSig (relK (pC L σ.1))) σ) dp)) := by
  rw [rel_n h h2]; exact rd_eq (σ' := (σ.1, false)) rfl jf_f
end RL
set_option maxHeartbeats 4000000 in
set_option maxRecDepth 100000 in
theorem m_X7_takeRelation {G : jG} {M : jM} {a tx dp : Nat} {L : List Nat} {σ : pS} {Z : jH} (hs : (gL G).stackTraces = false) (h1 : M.1 a = some (.inr (11, rdF a tx σ dp))) (htx : strR Z tx L) (hz : sub Z M.1) (hza : Z a = none) (hBa : gB G ≤ a) (hp : σ.1 ≤ 200) (hok : σ.2 = true) : JMet G jX7_takeRelation [.ref a] (M) 0 0 5 (fun w M' => w = some (.int (nI (pC L σ.1))) ∧ M' = jput M a (.inr (11, rdF a tx (pWant L (pSig (relK (pC L σ.1))) σ) dp))) jNo := by
  refine jMet_of [some (.ref (a)), none] (by decide) rfl (Nat.le_of_ble_eq_true rfl) (rfl) hs ?_
  intro C hC9 hG
  have hC := hC9.z
  have hs9 := jOK0_tr hC
  refine j_lt (fun hlt => ?_)
  have hBg : jB C = gB G := by rw [jB, hG]
  subst hG
  have hL5 := htx.2.1
  have hc5 : pC L σ.1 ≤ 126 := chr_le htx.2
  refine j_aload_n hC dX7_takeRelation_0 rfl (jrf_ref _) ?_
  refine c_V hC kv_X7_45 dX7_takeRelation_1 (m_X7_sign (σ := σ) hs9 (h1) htx hz (by omega)) (h1) rfl rfl rfl rfl (by decide) (Nat.le_of_ble_eq_true rfl) ?_
  refine j_istore_n1 hC dX7_takeRelation_4 (by decide) rfl ?_
  refine j_iload_n hC dX7_takeRelation_5 rfl ?_
  refine j_bipush (v := nI 60) hC dX7_takeRelation_6 (by decide) ?_
  refine n_icmp_eq (tgt := 23) hC dX7_takeRelation_8 (by decide) (by omega) (by omega) (fun c1 => ?_) (fun c1 => ?_)
  · refine j_aload_n hC dX7_takeRelation_23 rfl (jrf_ref _) ?_
    refine j_dup hC dX7_takeRelation_24 rfl ?_
    refine j_get (v := .int (nI (σ.1))) hC kf_X7_9 dX7_takeRelation_25 (h1) (rfl) ?_
    refine j_iconst (v := nI 1) hC dX7_takeRelation_28 (by decide) ?_
    refine n_iadd hC dX7_takeRelation_29 ?_
    refine c_put (fs' := [.ref (a + 4), .int (nI ((σ.1) + (1))), .ref tx, .ref (a + 3), .int (nI dp), .int (jb (σ.2 = false))]) hC kp_X7_9 dX7_takeRelation_30 (h1) (by omega) (rfl) (rfl) rfl ?_
    refine j_goto (tgt := 41) hC dX7_takeRelation_33 (by decide) ?_
    refine j_iload_n hC dX7_takeRelation_41 rfl ?_
    exact j_iret hC9 rfl (rfl) dX7_takeRelation_42 (⟨rfl, relE_y hok (by omega)⟩)
  · refine j_iload_n hC dX7_takeRelation_11 rfl ?_
    refine j_bipush (v := nI 61) hC dX7_takeRelation_12 (by decide) ?_
    refine n_icmp_eq (tgt := 23) hC dX7_takeRelation_14 (by decide) (by omega) (by omega) (fun c2 => ?_) (fun c2 => ?_)
    · refine j_aload_n hC dX7_takeRelation_23 rfl (jrf_ref _) ?_
      refine j_dup hC dX7_takeRelation_24 rfl ?_
      refine j_get (v := .int (nI (σ.1))) hC kf_X7_9 dX7_takeRelation_25 (h1) (rfl) ?_
      refine j_iconst (v := nI 1) hC dX7_takeRelation_28 (by decide) ?_
      refine n_iadd hC dX7_takeRelation_29 ?_
      refine c_put (fs' := [.ref (a + 4), .int (nI ((σ.1) + (1))), .ref tx, .ref (a + 3), .int (nI dp), .int (jb (σ.2 = false))]) hC kp_X7_9 dX7_takeRelation_30 (h1) (by omega) (rfl) (rfl) rfl ?_
      refine j_goto (tgt := 41) hC dX7_takeRelation_33 (by decide) ?_
      refine j_iload_n hC dX7_takeRelation_41 rfl ?_
      exact j_iret hC9 rfl (rfl) dX7_takeRelation_42 (⟨rfl, relE_y hok (by omega)⟩)
    · refine j_iload_n hC dX7_takeRelation_17 rfl ?_
      refine j_bipush (v := nI 62) hC dX7_takeRelation_18 (by decide) ?_
      refine n_icmp_ne (tgt := 36) hC dX7_takeRelation_20 (by decide) (by omega) (by omega) (fun c3 => ?_) (fun c3 => ?_)
      · refine j_aload_n hC dX7_takeRelation_36 rfl (jrf_ref _) ?_
        refine j_iconst (v := nI 1) hC dX7_takeRelation_37 (by decide) ?_
        refine c_put (fs' := [.ref (a + 4), .int (nI σ.1), .ref tx, .ref (a + 3), .int (nI dp), .int (nI (1))]) hC kp_X7_22 dX7_takeRelation_38 (h1) (by omega) (by decide) (by decide) rfl ?_
        refine j_iload_n hC dX7_takeRelation_41 rfl ?_
        exact j_iret hC9 rfl (rfl) dX7_takeRelation_42 (⟨rfl, relE_n hok (by omega)⟩)
      · refine j_aload_n hC dX7_takeRelation_23 rfl (jrf_ref _) ?_
        refine j_dup hC dX7_takeRelation_24 rfl ?_
        refine j_get (v := .int (nI (σ.1))) hC kf_X7_9 dX7_takeRelation_25 (h1) (rfl) ?_
        refine j_iconst (v := nI 1) hC dX7_takeRelation_28 (by decide) ?_
        refine n_iadd hC dX7_takeRelation_29 ?_
        refine c_put (fs' := [.ref (a + 4), .int (nI ((σ.1) + (1))), .ref tx, .ref (a + 3), .int (nI dp), .int (jb (σ.2 = false))]) hC kp_X7_9 dX7_takeRelation_30 (h1) (by omega) (rfl) (rfl) rfl ?_
        refine j_goto (tgt := 41) hC dX7_takeRelation_33 (by decide) ?_
        refine j_iload_n hC dX7_takeRelation_41 rfl ?_
        exact j_iret hC9 rfl (rfl) dX7_takeRelation_42 (⟨rfl, relE_y hok (by omega)⟩)
set_option maxHeartbeats 4000000 in
set_option maxRecDepth 100000 in
theorem m_X7_takeField {G : jG} {M : jM} {a tx dp : Nat} {L : List Nat} {σ : pS} {Z : jH} {n dd f br : Nat} (hs : (gL G).stackTraces = false) (h1 : M.1 a = some (.inr (11, rdF a tx σ dp))) (htx : strR Z tx L) (hz : sub Z M.1) (hza : Z a = none) (hBa : gB G ≤ a) (hp : σ.1 ≤ 198) (hly : M.1 (a + 4) = some (.inr (6, lyF a L n dd f br))) (hza2 : Z (a + 4) = none) (hf : f < 32) : JMet G jX7_takeField [.ref a] (M) 0 0 6 (fun w M' => w = some (.int (nI (pDv L 4 σ))) ∧ M' = jput (jput M a (.inr (11, rdF a tx (pDig L 4 σ) dp))) (a + 4) (.inr (6, lyF a L n dd (f ||| 2 ^ pDv L 4 σ) br))) jNo := by
  refine jMet_of [some (.ref (a)), none] (by decide) rfl (Nat.le_of_ble_eq_true rfl) (rfl) hs ?_
  intro C hC9 hG
  have hC := hC9.z
  have hs9 := jOK0_tr hC
  refine j_lt (fun hlt => ?_)
  have hBg : jB C = gB G := by rw [jB, hG]
  subst hG
  have hL5 := htx.2.1
  have hc5 : pC L σ.1 ≤ 126 := chr_le htx.2
  refine j_aload_n hC dX7_takeField_0 rfl (jrf_ref _) ?_
  refine j_iconst (v := nI 4) hC dX7_takeField_1 (by decide) ?_
  refine c_Pv (kc' := 0) (ks' := 0) hC kv_X7_130 dX7_takeField_2 (m_X7_takeDigit (m := 4) (σ := σ) hs9 (h1) htx hz hza hBa (by omega) (by decide)) (h1) rfl rfl rfl rfl (by decide) (Nat.le_of_ble_eq_true rfl) ?_
  intro v9 N1 h9
  obtain ⟨rfl, e9⟩ := h9
  refine j_M e9 ?_
  clear e9
  have hd2 := td_le (L := L) (m := 4) (σ := σ)
  refine j_istore_n1 hC dX7_takeField_5 (by decide) rfl ?_
  refine j_aload_n hC dX7_takeField_6 rfl (jrf_ref _) ?_
  refine j_get (v := .ref (a + 4)) hC kf_X7_41 dX7_takeField_7 (jput_at) (rfl) ?_
  refine j_dup hC dX7_takeField_10 rfl ?_
  refine j_get (v := .int (nI (f))) hC kf_X7_143 dX7_takeField_11 ((jput_ne (by show (a + 4) ≠ (a); omega)).trans (hly)) (rfl) ?_
  refine j_iconst (v := nI 1) hC dX7_takeField_14 (by decide) ?_
  refine j_iload_n hC dX7_takeField_15 rfl ?_
  refine j_ishl hC dX7_takeField_16 ?_
  refine j_ior hC dX7_takeField_17 ?_
  refine j_top (or_bit f hf _ (by omega)) ?_
  refine c_put (fs' := [.int (nI L.length), .ref (a + 5), .int (nI n), .int (nI dd), .int (nI (f ||| 2 ^ pDv L 4 σ)), .int (nI br)]) hC kp_X7_143 dX7_takeField_18 ((jput_ne (by show (a + 4) ≠ (a); omega)).trans (hly)) (by omega) (rfl) (rfl) rfl ?_
  refine j_iload_n hC dX7_takeField_21 rfl ?_
  exact j_iret hC9 rfl (rfl) dX7_takeField_22 (⟨rfl, rfl⟩)
section NX
variable {L : List Nat} {σ : pS} {c a tx dp : Nat} {M : jM}
theorem nx_y (h : σ.2 = true) (h2 : pC L σ.1 = c) : pNext L c σ = (σ.1 + 1, true) := pNext_of (pNx_iff.mpr ⟨h, h2⟩)
theorem nx_n (h2 : ¬ pC L σ.1 = c) : pNext L c σ = σ := pNext_no (fun e => h2 (pNx_iff.mp e).2)
theorem nx_ok (h : σ.2 = true) : (pNext L c σ).2 = true := by
  by_cases e : pC L σ.1 = c
  · rw [nx_y h e]
  · rw [nx_n e]; exact h
theorem nx_le : (pNext L c σ).1 ≤ σ.1 + 1 := by
  by_cases e : pNx L c σ = true
  · rw [pNext_of e]; exact Nat.le_refl _
  · rw [pNext_no e]; exact Nat.le_succ _
theorem nxE (h : σ.2 = true) : jput M a (.inr (11, rdV a tx dp (σ.1 + if pC L σ.1 = c then 1 else 0) (jb (σ.2 = false)))) = jput M a (.inr (11, rdF a tx (pNext L c σ) dp)) := by
  by_cases e : pC L σ.1 = c
  · rw [nx_y h e, if_pos e]; exact rd_eq (σ' := (σ.1 + 1, true)) rfl (jf_o h)
  · rw [nx_n e, if_neg e]; rfl
theorem nxE1 (h : σ.2 = true) (e : pC L σ.1 = c) : jput M a (.inr (11, rdV a tx dp (σ.1 + 1) (jb (σ.2 = false)))) = jput M a (.inr (11, rdF a tx (pNext L c σ) dp)) := by
  rw [nx_y h e]; exact rd_eq (σ' := (σ.1 + 1, true)) rfl (jf_o h)
theorem nx_i (h : σ.2 = true) : jb (pC L σ.1 = c) = jb (pNx L c σ = true) := jb_congr ⟨fun e => pNx_iff.mpr ⟨h, e⟩, fun e => (pNx_iff.mp e).2⟩
theorem cd_g (h : σ.2 = true) (hg : pC L σ.1 = 103) : pCond1 L σ = pDig L 9 (pNext L 103 σ) ∧ pCondK L σ = 1 ∧ pCond1V L σ = pDv L 9 (pNext L 103 σ) := by
  have hx : pNx L 103 σ = true := pNx_iff.mpr ⟨h, hg⟩
  exact ⟨if_pos hx, if_pos hx, if_pos hx⟩
theorem cd_n (h : σ.2 = true) (hn : pC L σ.1 = 110) : pCond1 L σ = pNum L (pWant L (pSig (relK (pC L (pNext L 110 σ).1))) (pNext L 110 σ)) ∧ pCondK L σ = relK (pC L (pNext L 110 σ).1) ∧ pCond1V L σ = pNumV L (pWant L (pSig (relK (pC L (pNext L 110 σ).1))) (pNext L 110 σ)) := by
  have hx : ¬ pNx L 103 σ = true := fun e => by have := (pNx_iff.mp e).2; omega
  have hy : pNx L 110 σ = true := pNx_iff.mpr ⟨h, hn⟩
  have hk : pCondK L σ = relK (pC L (pNext L 110 σ).1) := by
    rw [pCondK, if_neg hx, if_pos hy, pNext_of hy]
    rfl
  refine ⟨?_, hk, ?_⟩
  · rw [pCond1, if_neg hx, if_pos hy, hk]
  · rw [pCond1V, if_neg hx, if_pos hy, hk]
theorem cd_f (h1 : ¬ pC L σ.1 = 103) (h2 : ¬ pC L σ.1 = 110) : pCond1 L σ = pDig L 4 σ ∧ pCondK L σ = 0 ∧ pCond1V L σ = pDv L 4 σ := by
  have hx : ¬ pNx L 103 σ = true := fun e => h1 (pNx_iff.mp e).2
  have hy : ¬ pNx L 110 σ = true := fun e => h2 (pNx_iff.mp e).2
  refine ⟨?_, ?_, ?_⟩
  · rw [pCond1, if_neg hx, if_neg hy]
  · rw [pCondK, if_neg hx, if_neg hy]
  · rw [pCond1V, if_neg hx, if_neg hy]
theorem relK_0 {k : Nat} : ¬ relK k = 0 := by
  unfold relK
  split
  · decide
  · split <;> decide
theorem dig_ok {m : Nat} (h : (pDig L m σ).2 = true) : σ.2 = true := by
  cases e : σ.2 with
  | false => rw [(td_w e).1, e] at h; exact h
  | true => rfl
theorem num_ok (h : (pNum L σ).2 = true) : σ.2 = true := by
  unfold pNum at h
  split at h
  · exact dig_ok (dig_ok h)
  · exact dig_ok h
theorem wt_le : (pWant L c σ).1 ≤ σ.1 + 1 := by
  unfold pWant
  split
  · split
    · exact Nat.le_refl _
    · exact Nat.le_succ _
  · exact Nat.le_succ _
theorem rel_s (h : (pWant L (pSig (relK (pC L σ.1))) σ).2 = true) (h0 : σ.2 = true) : kSig (relK (pC L σ.1)) = pC L σ.1 := by
  by_cases e : pC L σ.1 = 60 ∨ pC L σ.1 = 61 ∨ pC L σ.1 = 62
  · rcases e with e | e | e <;> rw [e] <;> rfl
  · rw [rel_n h0 e] at h; cases h
end NX
theorem numV_b {L : List Nat} {σ : pS} : pNumV L σ ≤ 99 := by
  have h1 := td_le (L := L) (m := 9) (σ := σ)
  have h2 := td_le (L := L) (m := 9) (σ := pDig L 9 σ)
  unfold pNumV
  split <;> omega
set_option maxHeartbeats 4000000 in
set_option maxRecDepth 100000 in
theorem m_X7_readCondition {G : jG} {M : jM} {a tx dp : Nat} {L : List Nat} {σ : pS} {Z : jH} {n dd f br : Nat} {w0 : Value} (hs : (gL G).stackTraces = false) (h1 : M.1 a = some (.inr (11, rdF a tx σ dp))) (htx : strR Z tx L) (hz : sub Z M.1) (hza : Z a = none) (hBa : gB G ≤ a) (hp : σ.1 ≤ 150) (hok : σ.2 = true) (hw0 : jrf w0) (hly : M.1 (a + 4) = some (.inr (6, lyF a L n dd f br))) (hza2 : Z (a + 4) = none) (hf : f < 32) : JMet G jX7_readCondition [.ref a, w0] (M) 1 4 7 (fun w M' => w = some (.ref M.2) ∧ M'.1 a = some (.inr (11, rdF a tx (pCond L σ) dp)) ∧ M'.1 (a + 4) = some (.inr (6, lyF a L n dd (if (pCondC L σ).2.1 = 0 then f ||| 2 ^ (pCondC L σ).2.2 else f) br)) ∧ (∃ fs, M'.1 M.2 = some (.inr (4, fs)) ∧ ((pCond L σ).2 = true → fs = [.int (jb ((pCondC L σ).1 = true)), .int (nI (kSig (pCondC L σ).2.1)), .int (nI (pCondC L σ).2.2), w0])) ∧ (∀ b o, M.1 b = some o → b ≠ a → b ≠ a + 4 → M'.1 b = some o) ∧ M'.2 = M.2 + 1) jNo := by
  refine jMet_of [some (.ref (a)), some (w0), none, none, none] (by decide) rfl (by rcases hw0 with rfl | ⟨a9, rfl⟩ <;> exact Nat.le_of_ble_eq_true rfl) (by rcases hw0 with rfl | ⟨a9, rfl⟩ <;> rfl) hs ?_
  intro C hC9 hG
  have hC := hC9.z
  have hs9 := jOK0_tr hC
  refine j_lt (fun hlt => ?_)
  have hBg : jB C = gB G := by rw [jB, hG]
  subst hG
  have hL5 := htx.2.1
  have hc5 : pC L σ.1 ≤ 126 := chr_le htx.2
  have ha2 := hlt _ _ h1
  have hal := hlt _ _ hly
  have hZM : Z M.2 = none := by
    cases e : Z M.2 with
    | none => rfl
    | some o => exact absurd (hlt _ _ (hz _ _ e)) (Nat.lt_irrefl _)
  suffices K : J C (M) 1 4 14 [some (.ref (a)), some (w0), none, none, none] [.int (jb (pC L σ.1 = 33))] by
    refine j_aload_n hC dX7_readCondition_0 rfl (jrf_ref _) ?_
    refine c_V hC kv_X7_45 dX7_readCondition_1 (m_X7_sign (σ := σ) hs9 (h1) htx hz (by omega)) (h1) rfl rfl rfl rfl (by decide) (Nat.le_of_ble_eq_true rfl) ?_
    refine j_bipush (v := nI 33) hC dX7_readCondition_4 (by decide) ?_
    refine n_icmp_ne (tgt := 13) hC dX7_readCondition_6 (by decide) (by omega) (by omega) (fun c1 => ?_) (fun c1 => ?_)
    · refine j_iconst (v := nI 0) hC dX7_readCondition_13 (by decide) ?_
      exact j_top (jb_f0 (by assumption)) K
    · refine j_iconst (v := nI 1) hC dX7_readCondition_9 (by decide) ?_
      refine j_goto (tgt := 14) hC dX7_readCondition_10 (by decide) ?_
      exact j_top (jb_t1 (by assumption)) K
  refine j_istore_n2 hC dX7_readCondition_14 (by decide) (jrf_c1 hw0) ?_
  refine j_aload_n hC dX7_readCondition_15 rfl (jrf_ref _) ?_
  refine j_dup hC dX7_readCondition_16 rfl ?_
  refine j_get (v := .int (nI (σ.1))) hC kf_X7_9 dX7_readCondition_17 (h1) (rfl) ?_
  suffices K : J C (M) 1 4 29 [some (.ref (a)), some (w0), some (.int (jb (pC L σ.1 = 33))), none, none] [.int (nI (if pC L σ.1 = 33 then 1 else 0)), .int (nI (σ.1)), .ref (a)] by
    refine j_iload_n hC dX7_readCondition_20 rfl ?_
    refine jb_if_eq (tgt := 28) hC dX7_readCondition_21 (by decide) (fun c2 => ?_) (fun c2 => ?_)
    · refine j_iconst (v := nI 0) hC dX7_readCondition_28 (by decide) ?_
      exact j_top (by first | rw [if_pos (by assumption)] | rw [if_neg (by assumption)]) K
    · refine j_iconst (v := nI 1) hC dX7_readCondition_24 (by decide) ?_
      refine j_goto (tgt := 29) hC dX7_readCondition_25 (by decide) ?_
      exact j_top (by first | rw [if_pos (by assumption)] | rw [if_neg (by assumption)]) K
  refine n_iadd hC dX7_readCondition_29 ?_
  refine c_put (fs' := [.ref (a + 4), .int (nI ((σ.1) + (if pC L σ.1 = 33 then 1 else 0))), .ref tx, .ref (a + 3), .int (nI dp), .int (jb (σ.2 = false))]) hC kp_X7_9 dX7_readCondition_30 (h1) (by omega) (rfl) (rfl) rfl ?_
  refine j_M (nxE (c := 33) hok) ?_
  have hok1 := nx_ok (L := L) (c := 33) hok
  have hp1 := nx_le (L := L) (c := 33) (σ := σ)
  have hc6 : pC L (pNext L 33 σ).1 ≤ 126 := chr_le htx.2
  refine j_aload_n hC dX7_readCondition_33 rfl (jrf_ref _) ?_
  refine c_V hC kv_X7_45 dX7_readCondition_34 (m_X7_sign (σ := (pNext L 33 σ)) hs9 (jput_at) htx (sub_put (hza) hz) (by omega)) (jput_at) rfl rfl rfl rfl (by decide) (Nat.le_of_ble_eq_true rfl) ?_
  refine j_istore_n3 hC dX7_readCondition_37 (by decide) rfl ?_
  refine j_iload_n hC dX7_readCondition_38 rfl ?_
  refine j_bipush (v := nI 103) hC dX7_readCondition_39 (by decide) ?_
  refine n_icmp_ne (tgt := 72) hC dX7_readCondition_41 (by decide) (by omega) (by omega) (fun c3 => ?_) (fun c3 => ?_)
  · refine j_iload_n hC dX7_readCondition_72 rfl ?_
    refine j_bipush (v := nI 110) hC dX7_readCondition_73 (by decide) ?_
    refine n_icmp_ne (tgt := 110) hC dX7_readCondition_75 (by decide) (by omega) (by omega) (fun c4 => ?_) (fun c4 => ?_)
    · refine c_new (kc := 0) (ks := 0) hC kn_X7_128 dX7_readCondition_110 rfl ?_
      refine j_dup hC dX7_readCondition_113 rfl ?_
      refine j_iload_n hC dX7_readCondition_114 rfl ?_
      refine j_bipush (v := nI 102) hC dX7_readCondition_115 (by decide) ?_
      refine j_aload_n hC dX7_readCondition_117 rfl (jrf_ref _) ?_
      refine c_Pv (kc' := 0) (ks' := 0) hC kv_X7_76 dX7_readCondition_118 (m_X7_takeField (σ := (pNext L 33 σ)) hs9 ((jnew_ne (by show (a) ≠ M.2; omega)).trans (jput_at)) htx (sub_new (hZM) (sub_put (hza) hz)) hza hBa (by omega) ((jnew_ne (by show (a + 4) ≠ M.2; omega)).trans ((jput_ne (by show (a + 4) ≠ (a); omega)).trans (hly))) hza2 hf) ((jnew_ne (by show (a) ≠ M.2; omega)).trans (jput_at)) rfl rfl rfl rfl (by decide) (Nat.le_of_ble_eq_true rfl) ?_
      intro v9 N5 h9
      obtain ⟨rfl, e9⟩ := h9
      refine j_M e9 ?_
      clear e9
      have hd4 := td_le (L := L) (m := 4) (σ := (pNext L 33 σ))
      refine j_aload_n hC dX7_readCondition_121 rfl (hw0) ?_
      refine c_Ik (kc' := 0) (ks' := 0) (kc := 0) (ks := 0) hC ki_X7_134 dX7_readCondition_122 (m_X0_init (p := pC L σ.1 = 33) (r := 102) (n := pDv L 4 (pNext L 33 σ)) (w := w0) hs9 ((jput_ne (by show (M.2) ≠ (a + 4); omega)).trans ((jput_ne (by show (M.2) ≠ (a); omega)).trans (jnew_at))) (by show _ ≤ M.2; omega) hw0 (by omega)) rfl rfl (by decide) (Nat.le_of_ble_eq_true rfl) ?_
      have hx := cd_f (L := L) (σ := (pNext L 33 σ)) (by assumption) (by assumption)
      exact j_aret hC9 rfl (by first | exact Or.inl ⟨_, rfl⟩ | exact Or.inr ⟨_, rfl⟩) dX7_readCondition_125 (⟨rfl, by rw [show pCond L σ = _ from hx.1]; exact (jput_ne (by show (a) ≠ (M.2); omega)).trans ((jput_ne (by show (a) ≠ (a + 4); omega)).trans (jput_at)), by rw [if_pos (show (pCondC L σ).2.1 = 0 from hx.2.1), show (pCondC L σ).2.2 = _ from hx.2.2]; exact (jput_ne (by show (a + 4) ≠ (M.2); omega)).trans (jput_at), ⟨_, jput_at, fun _ => by show _ = [.int (jb (pNx L 33 σ = true)), .int (nI (kSig (pCondK L (pNext L 33 σ)))), .int (nI (pCond1V L (pNext L 33 σ))), w0]; rw [hx.2.1, hx.2.2, ← nx_i hok]; rfl⟩, fun a9 o9 ha9 hn1 hn2 => by
  have hl9 := hlt _ _ ha9
  exact (jput_ne (by show (a9) ≠ (M.2); omega)).trans ((jput_ne (by show (a9) ≠ (a + 4); omega)).trans ((jput_ne (by show (a9) ≠ (a); omega)).trans ((jnew_ne (by show (a9) ≠ M.2; omega)).trans ((jput_ne (by show (a9) ≠ (a); omega)).trans (ha9))))), rfl⟩) (jrf_ref _)
    · refine j_aload_n hC dX7_readCondition_78 rfl (jrf_ref _) ?_
      refine j_dup hC dX7_readCondition_79 rfl ?_
      refine j_get (v := .int (nI ((pNext L 33 σ).1))) hC kf_X7_9 dX7_readCondition_80 (jput_at) (rfl) ?_
      refine j_iconst (v := nI 1) hC dX7_readCondition_83 (by decide) ?_
      refine n_iadd hC dX7_readCondition_84 ?_
      refine c_put2 (fs' := [.ref (a + 4), .int (nI (((pNext L 33 σ).1) + (1))), .ref tx, .ref (a + 3), .int (nI dp), .int (jb ((pNext L 33 σ).2 = false))]) hC kp_X7_9 dX7_readCondition_85 (by omega) (rfl) (rfl) rfl ?_
      refine j_M (nxE1 (c := 110) hok1 (by assumption)) ?_
      have hp2 := nx_le (L := L) (c := 110) (σ := (pNext L 33 σ))
      have hc7 : pC L (pNext L 110 (pNext L 33 σ)).1 ≤ 126 := chr_le htx.2
      refine j_aload_n hC dX7_readCondition_88 rfl (jrf_ref _) ?_
      refine c_Pv (kc' := 0) (ks' := 0) hC kv_X7_137 dX7_readCondition_89 (m_X7_takeRelation (σ := (pNext L 110 (pNext L 33 σ))) hs9 (jput_at) htx (sub_put (hza) hz) hza hBa (by omega) (nx_ok hok1)) (jput_at) rfl rfl rfl rfl (by decide) (Nat.le_of_ble_eq_true rfl) ?_
      intro v9 N6 h9
      obtain ⟨rfl, e9⟩ := h9
      refine j_M e9 ?_
      clear e9
      have hw7 := wt_le (L := L) (c := pSig (relK (pC L (pNext L 110 (pNext L 33 σ)).1))) (σ := (pNext L 110 (pNext L 33 σ)))
      refine j_M jput_jput ?_
      refine j_istore_4 hC dX7_readCondition_92 (by decide) rfl ?_
      refine c_new (kc := 0) (ks := 0) hC kn_X7_128 dX7_readCondition_94 rfl ?_
      refine j_dup hC dX7_readCondition_97 rfl ?_
      refine j_iload_n hC dX7_readCondition_98 rfl ?_
      refine j_iload hC dX7_readCondition_99 rfl ?_
      refine j_aload_n hC dX7_readCondition_101 rfl (jrf_ref _) ?_
      refine c_Pv (kc' := 0) (ks' := 0) hC kv_X7_140 dX7_readCondition_102 (m_X7_takeNumber (σ := (pWant L (pSig (relK (pC L (pNext L 110 (pNext L 33 σ)).1))) (pNext L 110 (pNext L 33 σ)))) hs9 ((jnew_ne (by show (a) ≠ M.2; omega)).trans (jput_at)) htx (sub_new (hZM) (sub_put (hza) hz)) hza hBa (by omega)) ((jnew_ne (by show (a) ≠ M.2; omega)).trans (jput_at)) rfl rfl rfl rfl (by decide) (Nat.le_of_ble_eq_true rfl) ?_
      intro v9 N7 h9
      obtain ⟨rfl, e9⟩ := h9
      refine j_M e9 ?_
      clear e9
      have hnb := numV_b (L := L) (σ := (pWant L (pSig (relK (pC L (pNext L 110 (pNext L 33 σ)).1))) (pNext L 110 (pNext L 33 σ))))
      refine j_aload_n hC dX7_readCondition_105 rfl (hw0) ?_
      refine c_Ik (kc' := 0) (ks' := 0) (kc := 0) (ks := 0) hC ki_X7_134 dX7_readCondition_106 (m_X0_init (p := pC L σ.1 = 33) (r := pC L (pNext L 110 (pNext L 33 σ)).1) (n := pNumV L (pWant L (pSig (relK (pC L (pNext L 110 (pNext L 33 σ)).1))) (pNext L 110 (pNext L 33 σ)))) (w := w0) hs9 ((jput_ne (by show (M.2) ≠ (a); omega)).trans (jnew_at)) (by show _ ≤ M.2; omega) hw0 (by omega)) rfl rfl (by decide) (Nat.le_of_ble_eq_true rfl) ?_
      have hx := cd_n hok1 (by assumption)
      exact j_aret hC9 rfl (by first | exact Or.inl ⟨_, rfl⟩ | exact Or.inr ⟨_, rfl⟩) dX7_readCondition_109 (⟨rfl, by rw [show pCond L σ = _ from hx.1]; exact (jput_ne (by show (a) ≠ (M.2); omega)).trans (jput_at), by rw [if_neg (show ¬ (pCondC L σ).2.1 = 0 by rw [show (pCondC L σ).2.1 = _ from hx.2.1]; exact relK_0)]; exact (jput_ne (by show (a + 4) ≠ (M.2); omega)).trans ((jput_ne (by show (a + 4) ≠ (a); omega)).trans ((jnew_ne (by show (a + 4) ≠ M.2; omega)).trans ((jput_ne (by show (a + 4) ≠ (a); omega)).trans (hly)))), ⟨_, jput_at, fun e => by
    rw [show pCond L σ = _ from hx.1] at e
    show _ = [.int (jb (pNx L 33 σ = true)), .int (nI (kSig (pCondK L (pNext L 33 σ)))), .int (nI (pCond1V L (pNext L 33 σ))), w0]
    rw [hx.2.1, hx.2.2, ← nx_i hok, rel_s (num_ok e) (nx_ok hok1)]⟩, fun a9 o9 ha9 hn1 hn2 => by
  have hl9 := hlt _ _ ha9
  exact (jput_ne (by show (a9) ≠ (M.2); omega)).trans ((jput_ne (by show (a9) ≠ (a); omega)).trans ((jnew_ne (by show (a9) ≠ M.2; omega)).trans ((jput_ne (by show (a9) ≠ (a); omega)).trans (ha9)))), rfl⟩) (jrf_ref _)
  · refine j_aload_n hC dX7_readCondition_44 rfl (jrf_ref _) ?_
    refine j_dup hC dX7_readCondition_45 rfl ?_
    refine j_get (v := .int (nI ((pNext L 33 σ).1))) hC kf_X7_9 dX7_readCondition_46 (jput_at) (rfl) ?_
    refine j_iconst (v := nI 1) hC dX7_readCondition_49 (by decide) ?_
    refine n_iadd hC dX7_readCondition_50 ?_
    refine c_put2 (fs' := [.ref (a + 4), .int (nI (((pNext L 33 σ).1) + (1))), .ref tx, .ref (a + 3), .int (nI dp), .int (jb ((pNext L 33 σ).2 = false))]) hC kp_X7_9 dX7_readCondition_51 (by omega) (rfl) (rfl) rfl ?_
    refine j_M (nxE1 (c := 103) hok1 (by assumption)) ?_
    have hp2 := nx_le (L := L) (c := 103) (σ := (pNext L 33 σ))
    have hc7 : pC L (pNext L 103 (pNext L 33 σ)).1 ≤ 126 := chr_le htx.2
    refine c_new (kc := 0) (ks := 0) hC kn_X7_128 dX7_readCondition_54 rfl ?_
    refine j_dup hC dX7_readCondition_57 rfl ?_
    refine j_iload_n hC dX7_readCondition_58 rfl ?_
    refine j_bipush (v := nI 103) hC dX7_readCondition_59 (by decide) ?_
    refine j_aload_n hC dX7_readCondition_61 rfl (jrf_ref _) ?_
    refine j_bipush (v := nI 9) hC dX7_readCondition_62 (by decide) ?_
    refine c_Pv (kc' := 0) (ks' := 0) hC kv_X7_130 dX7_readCondition_64 (m_X7_takeDigit (m := 9) (σ := (pNext L 103 (pNext L 33 σ))) hs9 ((jnew_ne (by show (a) ≠ M.2; omega)).trans (jput_at)) htx (sub_new (hZM) (sub_put (hza) hz)) hza hBa (by omega) (by decide)) ((jnew_ne (by show (a) ≠ M.2; omega)).trans (jput_at)) rfl rfl rfl rfl (by decide) (Nat.le_of_ble_eq_true rfl) ?_
    intro v9 N8 h9
    obtain ⟨rfl, e9⟩ := h9
    refine j_M e9 ?_
    clear e9
    have hd64 := td_le (L := L) (m := 9) (σ := (pNext L 103 (pNext L 33 σ)))
    refine j_aload_n hC dX7_readCondition_67 rfl (hw0) ?_
    refine c_Ik (kc' := 0) (ks' := 0) (kc := 0) (ks := 0) hC ki_X7_134 dX7_readCondition_68 (m_X0_init (p := pC L σ.1 = 33) (r := 103) (n := pDv L 9 (pNext L 103 (pNext L 33 σ))) (w := w0) hs9 ((jput_ne (by show (M.2) ≠ (a); omega)).trans (jnew_at)) (by show _ ≤ M.2; omega) hw0 (by omega)) rfl rfl (by decide) (Nat.le_of_ble_eq_true rfl) ?_
    have hx := cd_g hok1 (by assumption)
    exact j_aret hC9 rfl (by first | exact Or.inl ⟨_, rfl⟩ | exact Or.inr ⟨_, rfl⟩) dX7_readCondition_71 (⟨rfl, by rw [show pCond L σ = _ from hx.1]; exact (jput_ne (by show (a) ≠ (M.2); omega)).trans (jput_at), by rw [if_neg (show ¬ (pCondC L σ).2.1 = 0 by rw [show (pCondC L σ).2.1 = 1 from hx.2.1]; decide)]; exact (jput_ne (by show (a + 4) ≠ (M.2); omega)).trans ((jput_ne (by show (a + 4) ≠ (a); omega)).trans ((jnew_ne (by show (a + 4) ≠ M.2; omega)).trans ((jput_ne (by show (a + 4) ≠ (a); omega)).trans (hly)))), ⟨_, jput_at, fun _ => by show _ = [.int (jb (pNx L 33 σ = true)), .int (nI (kSig (pCondK L (pNext L 33 σ)))), .int (nI (pCond1V L (pNext L 33 σ))), w0]; rw [hx.2.1, hx.2.2, ← nx_i hok]; rfl⟩, fun a9 o9 ha9 hn1 hn2 => by
  have hl9 := hlt _ _ ha9
  exact (jput_ne (by show (a9) ≠ (M.2); omega)).trans ((jput_ne (by show (a9) ≠ (a); omega)).trans ((jnew_ne (by show (a9) ≠ M.2; omega)).trans ((jput_ne (by show (a9) ≠ (a); omega)).trans (ha9)))), rfl⟩) (jrf_ref _)
