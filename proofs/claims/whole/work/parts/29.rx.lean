section LE9
variable {L : List Nat} {σ : pS} {c n : Nat}
theorem lt_of_pC {i : Nat} (h : 0 < pC L i) : i < L.length := by
  by_cases e : i < L.length
  · exact e
  · rw [pC_out (by omega)] at h
    exact absurd h (by decide)
theorem pNext_le (hc : 0 < c) (h : σ.1 ≤ L.length) : (pNext L c σ).1 ≤ L.length := by
  unfold pNext
  split
  · rename_i e
    have := lt_of_pC (L := L) (i := σ.1) (by rw [(pNx_iff.mp e).2]; exact hc)
    exact this
  · exact h
theorem pWant_le (hc : 0 < c) (h : σ.1 ≤ L.length) : (pWant L c σ).1 ≤ L.length := by
  unfold pWant
  split
  · split
    · rename_i e
      exact lt_of_pC (L := L) (i := σ.1) (by rw [e]; exact hc)
    · exact h
  · exact h
theorem pDig_le (h : σ.1 ≤ L.length) : (pDig L n σ).1 ≤ L.length := by
  unfold pDig
  split
  · split
    · rename_i e
      exact lt_of_pC (L := L) (i := σ.1) (by omega)
    · exact h
  · exact h
theorem pDv_le (hn : n ≤ 9) : pDv L n σ ≤ n := by
  unfold pDv
  split <;> omega
/-- a condition is laid -/
def coR (R : rR) (m : Nat) (x : pCo) : rR := rs (ra (ra (ra R 25 m (jb (x.1 = true))) 23 m (nI x.2.1)) 24 m (nI x.2.2)) 22 (nI (m + 1))
theorem sg_rs {R : rR} {k : Nat} {v : Int32} (h12 : k ≠ 12) (h13 : k ≠ 13) : rs (sgR R σ) k v = sgR (rs R k v) σ := by
  refine Prod.ext (funext fun j => ?_) rfl
  show (if j = k then v else if j = 13 then zI (pF σ) else if j = 12 then nI σ.1 else R.1 j) = if j = 13 then zI (pF σ) else if j = 12 then nI σ.1 else if j = k then v else R.1 j
  by_cases h : j = k
  · rw [if_pos h, if_neg (by omega), if_neg (by omega), if_pos h]
  · rw [if_neg h]
    by_cases h1 : j = 13
    · rw [if_pos h1, if_pos h1]
    · rw [if_neg h1, if_neg h1]
      by_cases h2 : j = 12
      · rw [if_pos h2, if_pos h2]
      · rw [if_neg h2, if_neg h2, if_neg h]
theorem co_end {R : rR} {m k v : Nat} {τ : pS} (h : pCondK L (pNext L 33 σ) = k ∧ pCond1V L (pNext L 33 σ) = v ∧ pCond1 L (pNext L 33 σ) = τ) : rs (ra (ra (sgR (ra R 25 m (jb (pNx L 33 σ = true))) τ) 23 m (nI k)) 24 m (nI v)) 22 (nI (m + 1)) = sgR (coR R m (pCondC L σ)) (pCond L σ) := by
  obtain ⟨rfl, rfl, rfl⟩ := h
  show rs (sgR (ra (ra (ra R 25 m (jb (pNx L 33 σ = true))) 23 m _) 24 m _) _) 22 _ = _
  rw [sg_rs (by decide) (by decide)]
  rfl
theorem cg (h : pNx L 103 σ = true) : pCondK L σ = 1 ∧ pCond1V L σ = pDv L 9 (pNext L 103 σ) ∧ pCond1 L σ = pDig L 9 (pNext L 103 σ) := ⟨if_pos h, if_pos h, if_pos h⟩
theorem ce (h : ¬ pNx L 103 σ = true) (h2 : ¬ pNx L 110 σ = true) : pCondK L σ = 0 ∧ pCond1V L σ = pDv L 4 σ ∧ pCond1 L σ = pDig L 4 σ := ⟨(if_neg h).trans (if_neg h2), (if_neg h).trans (if_neg h2), (if_neg h).trans (if_neg h2)⟩
theorem kd_b (h : ¬ pNx L 103 σ = true) (h2 : pNx L 110 σ = true) : pCondK L σ = if pC L (pNext L 110 σ).1 = 60 then 2 else if pC L (pNext L 110 σ).1 = 61 then 3 else 4 := by
  rw [pCondK, if_neg h, if_pos h2, pNext_of h2]
theorem kd_2 (hL : ∀ c ∈ L, 32 ≤ c ∧ c ≤ 126) (h : ¬ pNx L 103 σ = true) (h2 : pNx L 110 σ = true) (e : hereZ L (pNext L 110 σ).1 = ((60 : Nat) : Int)) : nI 2 = nI (pCondK L σ) := by
  rw [kd_b h h2, if_pos ((here_iff hL (by decide)).mp e)]
theorem kd_3 (hL : ∀ c ∈ L, 32 ≤ c ∧ c ≤ 126) (h : ¬ pNx L 103 σ = true) (h2 : pNx L 110 σ = true) (e : ¬ hereZ L (pNext L 110 σ).1 = ((60 : Nat) : Int)) (e2 : hereZ L (pNext L 110 σ).1 = ((61 : Nat) : Int)) : nI 3 = nI (pCondK L σ) := by
  rw [kd_b h h2, if_neg (fun q => e ((here_iff hL (by decide)).mpr q)), if_pos ((here_iff hL (by decide)).mp e2)]
theorem kd_4 (hL : ∀ c ∈ L, 32 ≤ c ∧ c ≤ 126) (h : ¬ pNx L 103 σ = true) (h2 : pNx L 110 σ = true) (e : ¬ hereZ L (pNext L 110 σ).1 = ((60 : Nat) : Int)) (e2 : ¬ hereZ L (pNext L 110 σ).1 = ((61 : Nat) : Int)) : nI 4 = nI (pCondK L σ) := by
  rw [kd_b h h2, if_neg (fun q => e ((here_iff hL (by decide)).mpr q)), if_neg (fun q => e2 ((here_iff hL (by decide)).mpr q))]
theorem pCondK_le : pCondK L σ ≤ 4 := by
  unfold pCondK
  split
  · omega
  · split
    · split
      · omega
      · split <;> omega
    · omega
theorem pSig_b {k : Nat} : 60 ≤ pSig k ∧ pSig k ≤ 62 := by
  unfold pSig
  split
  · omega
  · split <;> omega
theorem nm_no {τ : pS} (h : 0 ≤ pF (pDig L 9 τ) ∨ pDv L 9 τ = 0 ∨ ¬ (((48 : Nat) : Int) ≤ hereZ L (pDig L 9 τ).1 ∧ hereZ L (pDig L 9 τ).1 ≤ ((57 : Nat) : Int))) : ¬ ((pDig L 9 τ).2 = true ∧ pDv L 9 τ ≠ 0 ∧ (48 ≤ pC L (pDig L 9 τ).1 ∧ pC L (pDig L 9 τ).1 ≤ 57)) := by
  intro h9
  obtain ⟨a, b, d⟩ := h9
  rcases h with h | h | h
  · rw [pF_nn h] at a; exact absurd a (by decide)
  · exact b h
  · exact h ((here_in (by decide)).mpr d)
theorem cn0 (h : ¬ pNx L 103 σ = true) (h2 : pNx L 110 σ = true) {τ : pS} (hτ : τ = pWant L (pSig (pCondK L σ)) (pNext L 110 σ)) (h3 : ¬ ((pDig L 9 τ).2 = true ∧ pDv L 9 τ ≠ 0 ∧ (48 ≤ pC L (pDig L 9 τ).1 ∧ pC L (pDig L 9 τ).1 ≤ 57))) : pCondK L σ = pCondK L σ ∧ pCond1V L σ = pDv L 9 τ ∧ pCond1 L σ = pDig L 9 τ := by
  subst hτ
  exact ⟨rfl, (if_neg h).trans ((if_pos h2).trans (if_neg h3)), (if_neg h).trans ((if_pos h2).trans (if_neg h3))⟩
theorem cn1 (h : ¬ pNx L 103 σ = true) (h2 : pNx L 110 σ = true) {τ : pS} (hτ : τ = pWant L (pSig (pCondK L σ)) (pNext L 110 σ)) (h3 : pF (pDig L 9 τ) < 0) (h4 : ¬ pDv L 9 τ = 0) (h5 : ((48 : Nat) : Int) ≤ hereZ L (pDig L 9 τ).1 ∧ hereZ L (pDig L 9 τ).1 ≤ ((57 : Nat) : Int)) : pCondK L σ = pCondK L σ ∧ pCond1V L σ = 10 * pDv L 9 τ + pDv L 9 (pDig L 9 τ) ∧ pCond1 L σ = pDig L 9 (pDig L 9 τ) := by
  subst hτ
  have h6 := And.intro (pF_neg h3) (And.intro h4 ((here_in (by decide)).mp h5))
  exact ⟨rfl, (if_neg h).trans ((if_pos h2).trans (if_pos h6)), (if_neg h).trans ((if_pos h2).trans (if_pos h6))⟩
theorem jb_vn {p : Prop} [Decidable p] : vp_nar .boolean (jb p) = jb p := by
  unfold jb
  split <;> rfl
end LE9
set_option maxHeartbeats 4000000 in
set_option maxRecDepth 100000 in
theorem m_X10_condition {R : rR} {L : List Nat} {σ : pS} {m : Nat} (hL : lnR R L) (hσ : σ.1 ≤ L.length) (h22 : R.1 22 = nI m) (hm9 : m < 120) : RV jX10_condition 3 [] (sgR R σ) (sgR (coR R m (pCondC L σ)) (pCond L σ)) := by
  intro G o M0 hs hBo
  refine jMet_of [some (.ref o), none, none] (by decide) rfl (Nat.le_of_ble_eq_true rfl) rfl hs ?_
  intro C hC9 hG
  have hC := hC9.z
  have hB : jB C ≤ o := by rw [jB, hG]; exact hBo
  have hLc := hL.2.2.2
  have hL120 := hL.2.2.1
  have hfb := pF_b (σ := σ)
  have hhb := hereZ_b hLc (i := σ.1)
  have hkk := pCondK_le (L := L) (σ := pNext L 33 σ)
  have hsg := pSig_b (k := pCondK L (pNext L 33 σ))
  refine j_aload_n hC dX10_condition_0 rfl (jrf_ref _) ?_
  refine r_get hC kf_X10_53 dX10_condition_1 rfl ?_
  refine j_aload_n hC dX10_condition_4 rfl (jrf_ref _) ?_
  refine r_getN (x := nI (m)) hC kf_X10_165 dX10_condition_5 rfl (h22) ?_
  refine j_aload_n hC dX10_condition_8 rfl (jrf_ref _) ?_
  refine j_bipush (v := nI 33) hC dX10_condition_9 (by decide) ?_
  refine r_ci1 hC kv_X10_159 dX10_condition_11 (m_X10_isNext (R := R) (σ := σ) (c := 33) hL hσ (by omega) (by omega)) hB rfl (by decide) (Nat.le_of_ble_eq_true rfl) ?_
  have hb1a := pF_b (σ := (pNext L (33) σ))
  have hb1b := hereZ_b hLc (i := (pNext L (33) σ).1)
  have hb1c : (pNext L (33) σ).1 ≤ L.length := pNext_le (by omega) hσ
  refine r_zast (k := 25) (j := m) hC dX10_condition_14 (c := 14) (n := 120) (by decide) (fun _ => rfl) (rO_k25) hB rfl (by omega) (by decide) (jb_vn) ?_
  refine j_R (R' := (sgR (ra R 25 m (jb (pNx L (33) σ = true))) (pNext L (33) σ))) (rfl) ?_
  refine j_iconst (v := nI 0) hC dX10_condition_15 (by decide) ?_
  refine j_istore_n1 hC dX10_condition_16 (by decide) rfl ?_
  refine j_iconst (v := nI 0) hC dX10_condition_17 (by decide) ?_
  refine j_istore_n2 hC dX10_condition_18 (by decide) rfl ?_
  refine j_aload_n hC dX10_condition_19 rfl (jrf_ref _) ?_
  refine j_bipush (v := nI 103) hC dX10_condition_20 (by decide) ?_
  refine r_ci1 hC kv_X10_159 dX10_condition_22 (m_X10_isNext (R := (ra R 25 m (jb (pNx L (33) σ = true)))) (σ := (pNext L (33) σ)) (c := 103) hL (pNext_le (by omega) hσ) (by omega) (by omega)) hB rfl (by decide) (Nat.le_of_ble_eq_true rfl) ?_
  have hb2a := pF_b (σ := (pNext L (103) (pNext L (33) σ)))
  have hb2b := hereZ_b hLc (i := (pNext L (103) (pNext L (33) σ)).1)
  have hb2c : (pNext L (103) (pNext L (33) σ)).1 ≤ L.length := pNext_le (by omega) (pNext_le (by omega) hσ)
  refine jb_if_eq (tgt := 40) hC dX10_condition_25 (by decide) (fun c3 => ?_) (fun c3 => ?_)
  · refine j_R (R' := (sgR (ra R 25 m (jb (pNx L (33) σ = true))) (pNext L (33) σ))) (by rw [pNext_no (by assumption)]) ?_
    refine j_aload_n hC dX10_condition_40 rfl (jrf_ref _) ?_
    refine j_bipush (v := nI 110) hC dX10_condition_41 (by decide) ?_
    refine r_ci1 hC kv_X10_159 dX10_condition_43 (m_X10_isNext (R := (ra R 25 m (jb (pNx L (33) σ = true)))) (σ := (pNext L (33) σ)) (c := 110) hL (pNext_le (by omega) hσ) (by omega) (by omega)) hB rfl (by decide) (Nat.le_of_ble_eq_true rfl) ?_
    have hb4a := pF_b (σ := (pNext L (110) (pNext L (33) σ)))
    have hb4b := hereZ_b hLc (i := (pNext L (110) (pNext L (33) σ)).1)
    have hb4c : (pNext L (110) (pNext L (33) σ)).1 ≤ L.length := pNext_le (by omega) (pNext_le (by omega) hσ)
    refine jb_if_eq (tgt := 150) hC dX10_condition_46 (by decide) (fun c5 => ?_) (fun c5 => ?_)
    · refine j_R (R' := (sgR (ra R 25 m (jb (pNx L (33) σ = true))) (pNext L (33) σ))) (by rw [pNext_no (by assumption)]) ?_
      refine j_aload_n hC dX10_condition_150 rfl (jrf_ref _) ?_
      refine j_iconst (v := nI 4) hC dX10_condition_151 (by decide) ?_
      refine r_ci1 hC kv_X10_168 dX10_condition_152 (m_X10_digit (R := (ra R 25 m (jb (pNx L (33) σ = true)))) (σ := (pNext L (33) σ)) (n := 4) hL (pNext_le (by omega) hσ) (by omega)) hB rfl (by decide) (Nat.le_of_ble_eq_true rfl) ?_
      have hb6a := pF_b (σ := (pDig L (4) (pNext L (33) σ)))
      have hb6b := hereZ_b hLc (i := (pDig L (4) (pNext L (33) σ)).1)
      have hb6c : (pDig L (4) (pNext L (33) σ)).1 ≤ L.length := pDig_le (pNext_le (by omega) hσ)
      have hb6d := pDv_le (L := L) (n := 4) (σ := (pNext L (33) σ)) (by omega)
      refine j_istore_n2 hC dX10_condition_155 (by decide) rfl ?_
      refine j_aload_n hC dX10_condition_156 rfl (jrf_ref _) ?_
      refine r_get hC kf_X10_47 dX10_condition_157 rfl ?_
      refine j_aload_n hC dX10_condition_160 rfl (jrf_ref _) ?_
      refine r_getN (x := nI (m)) hC kf_X10_165 dX10_condition_161 rfl (h22) ?_
      refine j_iload_n hC dX10_condition_164 rfl ?_
      refine r_ast (k := 23) (j := m) hC dX10_condition_165 (c := 12) (n := 120) (by decide) (fun _ => rfl) (rO_k23) hB rfl (by omega) (by decide) ?_
      refine j_aload_n hC dX10_condition_166 rfl (jrf_ref _) ?_
      refine r_get hC kf_X10_50 dX10_condition_167 rfl ?_
      refine j_aload_n hC dX10_condition_170 rfl (jrf_ref _) ?_
      refine r_getN (x := nI (m)) hC kf_X10_165 dX10_condition_171 rfl (h22) ?_
      refine j_iload_n hC dX10_condition_174 rfl ?_
      refine r_ast (k := 24) (j := m) hC dX10_condition_175 (c := 13) (n := 120) (by decide) (fun _ => rfl) (rO_k24) hB rfl (by omega) (by decide) ?_
      refine j_aload_n hC dX10_condition_176 rfl (jrf_ref _) ?_
      refine j_dup hC dX10_condition_177 rfl ?_
      refine r_getN (x := nI (m)) hC kf_X10_165 dX10_condition_178 rfl (h22) ?_
      refine j_iconst (v := nI 1) hC dX10_condition_181 (by decide) ?_
      refine n_iadd hC dX10_condition_182 ?_
      refine r_put hC kp_X10_165 dX10_condition_183 hB rfl rfl rF_set_22 ?_
      exact j_vret hC9 rfl dX10_condition_186 ⟨_, ⟨rfl, (co_end (by first | exact cg (by assumption) | exact ce (by assumption) (by assumption) | exact cn1 (by assumption) (by assumption) rfl (by assumption) (by assumption) (by assumption) | exact cn0 (by assumption) (by assumption) rfl (nm_no (by first | exact Or.inl (by assumption) | exact Or.inr (Or.inl (by assumption)) | exact Or.inr (Or.inr (by assumption))))))⟩, rfl⟩
    · refine j_aload_n hC dX10_condition_49 rfl (jrf_ref _) ?_
      refine r_ci0 hC kv_X10_156 dX10_condition_50 (m_X10_here (R := (ra R 25 m (jb (pNx L (33) σ = true)))) (σ := (pNext L (110) (pNext L (33) σ))) hL (pNext_le (by omega) (pNext_le (by omega) hσ))) hB rfl (by decide) (Nat.le_of_ble_eq_true rfl) ?_
      refine j_bipush (v := nI 60) hC dX10_condition_53 (by decide) ?_
      suffices K : J C (rM o M0 ((sgR (ra R 25 m (jb (pNx L (33) σ = true))) (pNext L (110) (pNext L (33) σ))))) 0 0 76 [some (.ref o), some (.int (nI (0))), some (.int (nI (0)))] [.int (nI (pCondK L (pNext L (33) σ)))] by
        refine z_icmp_ne (a := (hereZ L (pNext L (110) (pNext L (33) σ)).1)) (b := ((60 : Nat) : Int)) (tgt := 62) hC dX10_condition_55 (by decide) (by unfold zB; omega) (by unfold zB; omega) (fun c7 => ?_) (fun c7 => ?_)
        · refine j_aload_n hC dX10_condition_62 rfl (jrf_ref _) ?_
          refine r_ci0 hC kv_X10_156 dX10_condition_63 (m_X10_here (R := (ra R 25 m (jb (pNx L (33) σ = true)))) (σ := (pNext L (110) (pNext L (33) σ))) hL (pNext_le (by omega) (pNext_le (by omega) hσ))) hB rfl (by decide) (Nat.le_of_ble_eq_true rfl) ?_
          refine j_bipush (v := nI 61) hC dX10_condition_66 (by decide) ?_
          refine z_icmp_ne (a := (hereZ L (pNext L (110) (pNext L (33) σ)).1)) (b := ((61 : Nat) : Int)) (tgt := 75) hC dX10_condition_68 (by decide) (by unfold zB; omega) (by unfold zB; omega) (fun c8 => ?_) (fun c8 => ?_)
          · refine j_iconst (v := nI 4) hC dX10_condition_75 (by decide) ?_
            exact j_top (kd_4 hLc (by assumption) (by assumption) (by assumption) (by assumption)) K
          · refine j_iconst (v := nI 3) hC dX10_condition_71 (by decide) ?_
            refine j_goto (tgt := 76) hC dX10_condition_72 (by decide) ?_
            exact j_top (kd_3 hLc (by assumption) (by assumption) (by assumption) (by assumption)) K
        · refine j_iconst (v := nI 2) hC dX10_condition_58 (by decide) ?_
          refine j_goto (tgt := 76) hC dX10_condition_59 (by decide) ?_
          exact j_top (kd_2 hLc (by assumption) (by assumption) (by assumption)) K
      refine j_istore_n1 hC dX10_condition_76 (by decide) rfl ?_
      refine j_aload_n hC dX10_condition_77 rfl (jrf_ref _) ?_
      refine j_iload_n hC dX10_condition_78 rfl ?_
      refine j_iconst (v := nI 2) hC dX10_condition_79 (by decide) ?_
      suffices K : J C (rM o M0 ((sgR (ra R 25 m (jb (pNx L (33) σ = true))) (pNext L (110) (pNext L (33) σ))))) 0 0 100 [some (.ref o), some (.int (nI (pCondK L (pNext L (33) σ)))), some (.int (nI (0)))] [.int (nI (pSig (pCondK L (pNext L (33) σ)))), .ref o] by
        refine n_icmp_ne (tgt := 88) hC dX10_condition_80 (by decide) (by omega) (by omega) (fun c9 => ?_) (fun c9 => ?_)
        · refine j_iload_n hC dX10_condition_88 rfl ?_
          refine j_iconst (v := nI 3) hC dX10_condition_89 (by decide) ?_
          refine n_icmp_ne (tgt := 98) hC dX10_condition_90 (by decide) (by omega) (by omega) (fun c10 => ?_) (fun c10 => ?_)
          · refine j_bipush (v := nI 62) hC dX10_condition_98 (by decide) ?_
            exact j_top (by unfold pSig; first | rw [if_pos (by assumption)] | rw [if_neg (by assumption), if_pos (by assumption)] | rw [if_neg (by assumption), if_neg (by assumption)]) K
          · refine j_bipush (v := nI 61) hC dX10_condition_93 (by decide) ?_
            refine j_goto (tgt := 100) hC dX10_condition_95 (by decide) ?_
            exact j_top (by unfold pSig; first | rw [if_pos (by assumption)] | rw [if_neg (by assumption), if_pos (by assumption)] | rw [if_neg (by assumption), if_neg (by assumption)]) K
        · refine j_bipush (v := nI 60) hC dX10_condition_83 (by decide) ?_
          refine j_goto (tgt := 100) hC dX10_condition_85 (by decide) ?_
          exact j_top (by unfold pSig; first | rw [if_pos (by assumption)] | rw [if_neg (by assumption), if_pos (by assumption)] | rw [if_neg (by assumption), if_neg (by assumption)]) K
      refine r_cv1 hC kv_X10_171 dX10_condition_100 (m_X10_wants (R := (ra R 25 m (jb (pNx L (33) σ = true)))) (σ := (pNext L (110) (pNext L (33) σ))) (c := pSig (pCondK L (pNext L (33) σ))) hL (pNext_le (by omega) (pNext_le (by omega) hσ)) (by omega) (by omega)) hB rfl (by decide) (Nat.le_of_ble_eq_true rfl) ?_
      have hb11a := pF_b (σ := (pWant L (pSig (pCondK L (pNext L (33) σ))) (pNext L (110) (pNext L (33) σ))))
      have hb11b := hereZ_b hLc (i := (pWant L (pSig (pCondK L (pNext L (33) σ))) (pNext L (110) (pNext L (33) σ))).1)
      have hb11c : (pWant L (pSig (pCondK L (pNext L (33) σ))) (pNext L (110) (pNext L (33) σ))).1 ≤ L.length := pWant_le (by omega) (pNext_le (by omega) (pNext_le (by omega) hσ))
      refine j_aload_n hC dX10_condition_103 rfl (jrf_ref _) ?_
      refine j_bipush (v := nI 9) hC dX10_condition_104 (by decide) ?_
      refine r_ci1 hC kv_X10_168 dX10_condition_106 (m_X10_digit (R := (ra R 25 m (jb (pNx L (33) σ = true)))) (σ := (pWant L (pSig (pCondK L (pNext L (33) σ))) (pNext L (110) (pNext L (33) σ)))) (n := 9) hL (pWant_le (by omega) (pNext_le (by omega) (pNext_le (by omega) hσ))) (by omega)) hB rfl (by decide) (Nat.le_of_ble_eq_true rfl) ?_
      have hb12a := pF_b (σ := (pDig L (9) (pWant L (pSig (pCondK L (pNext L (33) σ))) (pNext L (110) (pNext L (33) σ)))))
      have hb12b := hereZ_b hLc (i := (pDig L (9) (pWant L (pSig (pCondK L (pNext L (33) σ))) (pNext L (110) (pNext L (33) σ)))).1)
      have hb12c : (pDig L (9) (pWant L (pSig (pCondK L (pNext L (33) σ))) (pNext L (110) (pNext L (33) σ)))).1 ≤ L.length := pDig_le (pWant_le (by omega) (pNext_le (by omega) (pNext_le (by omega) hσ)))
      have hb12d := pDv_le (L := L) (n := 9) (σ := (pWant L (pSig (pCondK L (pNext L (33) σ))) (pNext L (110) (pNext L (33) σ)))) (by omega)
      refine j_istore_n2 hC dX10_condition_109 (by decide) rfl ?_
      refine j_aload_n hC dX10_condition_110 rfl (jrf_ref _) ?_
      refine r_getN (x := zI (pF (pDig L (9) (pWant L (pSig (pCondK L (pNext L (33) σ))) (pNext L (110) (pNext L (33) σ)))))) hC kf_X10_153 dX10_condition_111 rfl (rfl) ?_
      refine z_if_ge (a := (pF (pDig L (9) (pWant L (pSig (pCondK L (pNext L (33) σ))) (pNext L (110) (pNext L (33) σ)))))) (tgt := 156) hC dX10_condition_114 (by decide) (by unfold zB; omega) (fun c13 => ?_) (fun c13 => ?_)
      · refine j_aload_n hC dX10_condition_156 rfl (jrf_ref _) ?_
        refine r_get hC kf_X10_47 dX10_condition_157 rfl ?_
        refine j_aload_n hC dX10_condition_160 rfl (jrf_ref _) ?_
        refine r_getN (x := nI (m)) hC kf_X10_165 dX10_condition_161 rfl (h22) ?_
        refine j_iload_n hC dX10_condition_164 rfl ?_
        refine r_ast (k := 23) (j := m) hC dX10_condition_165 (c := 12) (n := 120) (by decide) (fun _ => rfl) (rO_k23) hB rfl (by omega) (by decide) ?_
        refine j_aload_n hC dX10_condition_166 rfl (jrf_ref _) ?_
        refine r_get hC kf_X10_50 dX10_condition_167 rfl ?_
        refine j_aload_n hC dX10_condition_170 rfl (jrf_ref _) ?_
        refine r_getN (x := nI (m)) hC kf_X10_165 dX10_condition_171 rfl (h22) ?_
        refine j_iload_n hC dX10_condition_174 rfl ?_
        refine r_ast (k := 24) (j := m) hC dX10_condition_175 (c := 13) (n := 120) (by decide) (fun _ => rfl) (rO_k24) hB rfl (by omega) (by decide) ?_
        refine j_aload_n hC dX10_condition_176 rfl (jrf_ref _) ?_
        refine j_dup hC dX10_condition_177 rfl ?_
        refine r_getN (x := nI (m)) hC kf_X10_165 dX10_condition_178 rfl (h22) ?_
        refine j_iconst (v := nI 1) hC dX10_condition_181 (by decide) ?_
        refine n_iadd hC dX10_condition_182 ?_
        refine r_put hC kp_X10_165 dX10_condition_183 hB rfl rfl rF_set_22 ?_
        exact j_vret hC9 rfl dX10_condition_186 ⟨_, ⟨rfl, (co_end (by first | exact cg (by assumption) | exact ce (by assumption) (by assumption) | exact cn1 (by assumption) (by assumption) rfl (by assumption) (by assumption) (by assumption) | exact cn0 (by assumption) (by assumption) rfl (nm_no (by first | exact Or.inl (by assumption) | exact Or.inr (Or.inl (by assumption)) | exact Or.inr (Or.inr (by assumption))))))⟩, rfl⟩
      · refine j_iload_n hC dX10_condition_117 rfl ?_
        refine n_if_eq (tgt := 156) hC dX10_condition_118 (by decide) (by omega) (fun c14 => ?_) (fun c14 => ?_)
        · refine j_aload_n hC dX10_condition_156 rfl (jrf_ref _) ?_
          refine r_get hC kf_X10_47 dX10_condition_157 rfl ?_
          refine j_aload_n hC dX10_condition_160 rfl (jrf_ref _) ?_
          refine r_getN (x := nI (m)) hC kf_X10_165 dX10_condition_161 rfl (h22) ?_
          refine j_iload_n hC dX10_condition_164 rfl ?_
          refine r_ast (k := 23) (j := m) hC dX10_condition_165 (c := 12) (n := 120) (by decide) (fun _ => rfl) (rO_k23) hB rfl (by omega) (by decide) ?_
          refine j_aload_n hC dX10_condition_166 rfl (jrf_ref _) ?_
          refine r_get hC kf_X10_50 dX10_condition_167 rfl ?_
          refine j_aload_n hC dX10_condition_170 rfl (jrf_ref _) ?_
          refine r_getN (x := nI (m)) hC kf_X10_165 dX10_condition_171 rfl (h22) ?_
          refine j_iload_n hC dX10_condition_174 rfl ?_
          refine r_ast (k := 24) (j := m) hC dX10_condition_175 (c := 13) (n := 120) (by decide) (fun _ => rfl) (rO_k24) hB rfl (by omega) (by decide) ?_
          refine j_aload_n hC dX10_condition_176 rfl (jrf_ref _) ?_
          refine j_dup hC dX10_condition_177 rfl ?_
          refine r_getN (x := nI (m)) hC kf_X10_165 dX10_condition_178 rfl (h22) ?_
          refine j_iconst (v := nI 1) hC dX10_condition_181 (by decide) ?_
          refine n_iadd hC dX10_condition_182 ?_
          refine r_put hC kp_X10_165 dX10_condition_183 hB rfl rfl rF_set_22 ?_
          exact j_vret hC9 rfl dX10_condition_186 ⟨_, ⟨rfl, (co_end (by first | exact cg (by assumption) | exact ce (by assumption) (by assumption) | exact cn1 (by assumption) (by assumption) rfl (by assumption) (by assumption) (by assumption) | exact cn0 (by assumption) (by assumption) rfl (nm_no (by first | exact Or.inl (by assumption) | exact Or.inr (Or.inl (by assumption)) | exact Or.inr (Or.inr (by assumption))))))⟩, rfl⟩
        · refine j_aload_n hC dX10_condition_121 rfl (jrf_ref _) ?_
          refine r_ci0 hC kv_X10_156 dX10_condition_122 (m_X10_here (R := (ra R 25 m (jb (pNx L (33) σ = true)))) (σ := (pDig L (9) (pWant L (pSig (pCondK L (pNext L (33) σ))) (pNext L (110) (pNext L (33) σ))))) hL (pDig_le (pWant_le (by omega) (pNext_le (by omega) (pNext_le (by omega) hσ))))) hB rfl (by decide) (Nat.le_of_ble_eq_true rfl) ?_
          refine j_bipush (v := nI 48) hC dX10_condition_125 (by decide) ?_
          refine j_bipush (v := nI 57) hC dX10_condition_127 (by decide) ?_
          refine s_ci3 hC ks_X10_88 dX10_condition_129 (m_X10_in) rfl (by decide) (Nat.le_of_ble_eq_true rfl) ?_
          refine j_top (jb_inZ (by unfold zB; omega) (by omega) (by omega)) ?_
          refine jb_if_eq (tgt := 156) hC dX10_condition_132 (by decide) (fun c15 => ?_) (fun c15 => ?_)
          · refine j_aload_n hC dX10_condition_156 rfl (jrf_ref _) ?_
            refine r_get hC kf_X10_47 dX10_condition_157 rfl ?_
            refine j_aload_n hC dX10_condition_160 rfl (jrf_ref _) ?_
            refine r_getN (x := nI (m)) hC kf_X10_165 dX10_condition_161 rfl (h22) ?_
            refine j_iload_n hC dX10_condition_164 rfl ?_
            refine r_ast (k := 23) (j := m) hC dX10_condition_165 (c := 12) (n := 120) (by decide) (fun _ => rfl) (rO_k23) hB rfl (by omega) (by decide) ?_
            refine j_aload_n hC dX10_condition_166 rfl (jrf_ref _) ?_
            refine r_get hC kf_X10_50 dX10_condition_167 rfl ?_
            refine j_aload_n hC dX10_condition_170 rfl (jrf_ref _) ?_
            refine r_getN (x := nI (m)) hC kf_X10_165 dX10_condition_171 rfl (h22) ?_
            refine j_iload_n hC dX10_condition_174 rfl ?_
            refine r_ast (k := 24) (j := m) hC dX10_condition_175 (c := 13) (n := 120) (by decide) (fun _ => rfl) (rO_k24) hB rfl (by omega) (by decide) ?_
            refine j_aload_n hC dX10_condition_176 rfl (jrf_ref _) ?_
            refine j_dup hC dX10_condition_177 rfl ?_
            refine r_getN (x := nI (m)) hC kf_X10_165 dX10_condition_178 rfl (h22) ?_
            refine j_iconst (v := nI 1) hC dX10_condition_181 (by decide) ?_
            refine n_iadd hC dX10_condition_182 ?_
            refine r_put hC kp_X10_165 dX10_condition_183 hB rfl rfl rF_set_22 ?_
            exact j_vret hC9 rfl dX10_condition_186 ⟨_, ⟨rfl, (co_end (by first | exact cg (by assumption) | exact ce (by assumption) (by assumption) | exact cn1 (by assumption) (by assumption) rfl (by assumption) (by assumption) (by assumption) | exact cn0 (by assumption) (by assumption) rfl (nm_no (by first | exact Or.inl (by assumption) | exact Or.inr (Or.inl (by assumption)) | exact Or.inr (Or.inr (by assumption))))))⟩, rfl⟩
          · refine j_bipush (v := nI 10) hC dX10_condition_135 (by decide) ?_
            refine j_iload_n hC dX10_condition_137 rfl ?_
            refine n_imul hC dX10_condition_138 ?_
            refine j_aload_n hC dX10_condition_139 rfl (jrf_ref _) ?_
            refine j_bipush (v := nI 9) hC dX10_condition_140 (by decide) ?_
            refine r_ci1 hC kv_X10_168 dX10_condition_142 (m_X10_digit (R := (ra R 25 m (jb (pNx L (33) σ = true)))) (σ := (pDig L (9) (pWant L (pSig (pCondK L (pNext L (33) σ))) (pNext L (110) (pNext L (33) σ))))) (n := 9) hL (pDig_le (pWant_le (by omega) (pNext_le (by omega) (pNext_le (by omega) hσ)))) (by omega)) hB rfl (by decide) (Nat.le_of_ble_eq_true rfl) ?_
            have hb16a := pF_b (σ := (pDig L (9) (pDig L (9) (pWant L (pSig (pCondK L (pNext L (33) σ))) (pNext L (110) (pNext L (33) σ))))))
            have hb16b := hereZ_b hLc (i := (pDig L (9) (pDig L (9) (pWant L (pSig (pCondK L (pNext L (33) σ))) (pNext L (110) (pNext L (33) σ))))).1)
            have hb16c : (pDig L (9) (pDig L (9) (pWant L (pSig (pCondK L (pNext L (33) σ))) (pNext L (110) (pNext L (33) σ))))).1 ≤ L.length := pDig_le (pDig_le (pWant_le (by omega) (pNext_le (by omega) (pNext_le (by omega) hσ))))
            have hb16d := pDv_le (L := L) (n := 9) (σ := (pDig L (9) (pWant L (pSig (pCondK L (pNext L (33) σ))) (pNext L (110) (pNext L (33) σ))))) (by omega)
            refine n_iadd hC dX10_condition_145 ?_
            refine j_istore_n2 hC dX10_condition_146 (by decide) rfl ?_
            refine j_goto (tgt := 156) hC dX10_condition_147 (by decide) ?_
            refine j_aload_n hC dX10_condition_156 rfl (jrf_ref _) ?_
            refine r_get hC kf_X10_47 dX10_condition_157 rfl ?_
            refine j_aload_n hC dX10_condition_160 rfl (jrf_ref _) ?_
            refine r_getN (x := nI (m)) hC kf_X10_165 dX10_condition_161 rfl (h22) ?_
            refine j_iload_n hC dX10_condition_164 rfl ?_
            refine r_ast (k := 23) (j := m) hC dX10_condition_165 (c := 12) (n := 120) (by decide) (fun _ => rfl) (rO_k23) hB rfl (by omega) (by decide) ?_
            refine j_aload_n hC dX10_condition_166 rfl (jrf_ref _) ?_
            refine r_get hC kf_X10_50 dX10_condition_167 rfl ?_
            refine j_aload_n hC dX10_condition_170 rfl (jrf_ref _) ?_
            refine r_getN (x := nI (m)) hC kf_X10_165 dX10_condition_171 rfl (h22) ?_
            refine j_iload_n hC dX10_condition_174 rfl ?_
            refine r_ast (k := 24) (j := m) hC dX10_condition_175 (c := 13) (n := 120) (by decide) (fun _ => rfl) (rO_k24) hB rfl (by omega) (by decide) ?_
            refine j_aload_n hC dX10_condition_176 rfl (jrf_ref _) ?_
            refine j_dup hC dX10_condition_177 rfl ?_
            refine r_getN (x := nI (m)) hC kf_X10_165 dX10_condition_178 rfl (h22) ?_
            refine j_iconst (v := nI 1) hC dX10_condition_181 (by decide) ?_
            refine n_iadd hC dX10_condition_182 ?_
            refine r_put hC kp_X10_165 dX10_condition_183 hB rfl rfl rF_set_22 ?_
            exact j_vret hC9 rfl dX10_condition_186 ⟨_, ⟨rfl, (co_end (by first | exact cg (by assumption) | exact ce (by assumption) (by assumption) | exact cn1 (by assumption) (by assumption) rfl (by assumption) (by assumption) (by assumption) | exact cn0 (by assumption) (by assumption) rfl (nm_no (by first | exact Or.inl (by assumption) | exact Or.inr (Or.inl (by assumption)) | exact Or.inr (Or.inr (by assumption))))))⟩, rfl⟩
  · refine j_iconst (v := nI 1) hC dX10_condition_28 (by decide) ?_
    refine j_istore_n1 hC dX10_condition_29 (by decide) rfl ?_
    refine j_aload_n hC dX10_condition_30 rfl (jrf_ref _) ?_
    refine j_bipush (v := nI 9) hC dX10_condition_31 (by decide) ?_
    refine r_ci1 hC kv_X10_168 dX10_condition_33 (m_X10_digit (R := (ra R 25 m (jb (pNx L (33) σ = true)))) (σ := (pNext L (103) (pNext L (33) σ))) (n := 9) hL (pNext_le (by omega) (pNext_le (by omega) hσ)) (by omega)) hB rfl (by decide) (Nat.le_of_ble_eq_true rfl) ?_
    have hb17a := pF_b (σ := (pDig L (9) (pNext L (103) (pNext L (33) σ))))
    have hb17b := hereZ_b hLc (i := (pDig L (9) (pNext L (103) (pNext L (33) σ))).1)
    have hb17c : (pDig L (9) (pNext L (103) (pNext L (33) σ))).1 ≤ L.length := pDig_le (pNext_le (by omega) (pNext_le (by omega) hσ))
    have hb17d := pDv_le (L := L) (n := 9) (σ := (pNext L (103) (pNext L (33) σ))) (by omega)
    refine j_istore_n2 hC dX10_condition_36 (by decide) rfl ?_
    refine j_goto (tgt := 156) hC dX10_condition_37 (by decide) ?_
    refine j_aload_n hC dX10_condition_156 rfl (jrf_ref _) ?_
    refine r_get hC kf_X10_47 dX10_condition_157 rfl ?_
    refine j_aload_n hC dX10_condition_160 rfl (jrf_ref _) ?_
    refine r_getN (x := nI (m)) hC kf_X10_165 dX10_condition_161 rfl (h22) ?_
    refine j_iload_n hC dX10_condition_164 rfl ?_
    refine r_ast (k := 23) (j := m) hC dX10_condition_165 (c := 12) (n := 120) (by decide) (fun _ => rfl) (rO_k23) hB rfl (by omega) (by decide) ?_
    refine j_aload_n hC dX10_condition_166 rfl (jrf_ref _) ?_
    refine r_get hC kf_X10_50 dX10_condition_167 rfl ?_
    refine j_aload_n hC dX10_condition_170 rfl (jrf_ref _) ?_
    refine r_getN (x := nI (m)) hC kf_X10_165 dX10_condition_171 rfl (h22) ?_
    refine j_iload_n hC dX10_condition_174 rfl ?_
    refine r_ast (k := 24) (j := m) hC dX10_condition_175 (c := 13) (n := 120) (by decide) (fun _ => rfl) (rO_k24) hB rfl (by omega) (by decide) ?_
    refine j_aload_n hC dX10_condition_176 rfl (jrf_ref _) ?_
    refine j_dup hC dX10_condition_177 rfl ?_
    refine r_getN (x := nI (m)) hC kf_X10_165 dX10_condition_178 rfl (h22) ?_
    refine j_iconst (v := nI 1) hC dX10_condition_181 (by decide) ?_
    refine n_iadd hC dX10_condition_182 ?_
    refine r_put hC kp_X10_165 dX10_condition_183 hB rfl rfl rF_set_22 ?_
    exact j_vret hC9 rfl dX10_condition_186 ⟨_, ⟨rfl, (co_end (by first | exact cg (by assumption) | exact ce (by assumption) (by assumption) | exact cn1 (by assumption) (by assumption) rfl (by assumption) (by assumption) (by assumption) | exact cn0 (by assumption) (by assumption) rfl (nm_no (by first | exact Or.inl (by assumption) | exact Or.inr (Or.inl (by assumption)) | exact Or.inr (Or.inr (by assumption))))))⟩, rfl⟩
