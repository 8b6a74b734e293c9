/-- where it went wrong; -1: nowhere -/
def pF (σ : pS) : Int := if σ.2 = true then -1 else σ.1
/-- the reference at a place of the line -/
def sgR (R : rR) (σ : pS) : rR := rs (rs R 12 (nI σ.1)) 13 (zI (pF σ))
def lnR (R : rR) (L : List Nat) : Prop := R.1 11 = nI L.length ∧ (∀ i, i < L.length → R.2 10 i = nI (pC L i)) ∧ L.length ≤ 120 ∧ ∀ c ∈ L, 32 ≤ c ∧ c ≤ 126
def hereZ (L : List Nat) (i : Nat) : Int := if i < L.length then (pC L i : Int) else -1
theorem pC_in {L : List Nat} (hL : ∀ c ∈ L, 32 ≤ c ∧ c ≤ 126) {i : Nat} (h : i < L.length) : 32 ≤ pC L i ∧ pC L i ≤ 126 := getD_lt126 hL h
theorem pC_le {L : List Nat} (hL : ∀ c ∈ L, 32 ≤ c ∧ c ≤ 126) {i : Nat} : pC L i ≤ 126 := by
  by_cases h : i < L.length
  · exact (pC_in hL h).2
  · rw [pC_out (by omega)]; decide
theorem hereZ_b {L : List Nat} (hL : ∀ c ∈ L, 32 ≤ c ∧ c ≤ 126) {i : Nat} : -1 ≤ hereZ L i ∧ hereZ L i ≤ 126 := by
  unfold hereZ
  split
  · have := pC_le hL (i := i); omega
  · omega
theorem pF_b {σ : pS} : -1 ≤ pF σ ∧ pF σ ≤ σ.1 := by
  unfold pF
  split <;> omega
theorem pF_neg {σ : pS} (h : pF σ < 0) : σ.2 = true := by
  unfold pF at h
  split at h
  · assumption
  · omega
theorem pF_nn {σ : pS} (h : 0 ≤ pF σ) : σ.2 = false := by
  unfold pF at h
  split at h
  · omega
  · rename_i h2
    exact Bool.eq_false_iff.mpr h2
theorem here_iff {L : List Nat} (hL : ∀ c ∈ L, 32 ≤ c ∧ c ≤ 126) {i c : Nat} (hc : 0 < c) : hereZ L i = (c : Int) ↔ pC L i = c := by
  unfold hereZ
  by_cases h : i < L.length
  · rw [if_pos h]; omega
  · rw [if_neg h, pC_out (by omega)]; omega
theorem nx_t {L : List Nat} (hL : ∀ c ∈ L, 32 ≤ c ∧ c ≤ 126) {σ : pS} {c : Nat} (hc : 0 < c) (h1 : pF σ < 0) (h2 : hereZ L σ.1 = (c : Int)) : pNx L c σ = true := pNx_iff.mpr ⟨pF_neg h1, (here_iff hL hc).mp h2⟩
theorem nx_f1 {L : List Nat} {σ : pS} {c : Nat} (h1 : 0 ≤ pF σ) : ¬ pNx L c σ = true := fun h => by
  have h2 := (pNx_iff.mp h).1
  rw [pF_nn h1] at h2
  exact absurd h2 (by decide)
theorem nx_f2 {L : List Nat} (hL : ∀ c ∈ L, 32 ≤ c ∧ c ≤ 126) {σ : pS} {c : Nat} (hc : 0 < c) (h2 : ¬ hereZ L σ.1 = (c : Int)) : ¬ pNx L c σ = true := fun h => h2 ((here_iff hL hc).mpr (pNx_iff.mp h).2)
theorem sg_at {R : rR} {σ : pS} {i : Nat} {x : Int32} (hw : pF σ < 0) (hx : x = nI i) : rs (sgR R σ) 12 x = sgR R (i, true) := by
  subst hx
  refine Prod.ext (funext fun j => ?_) rfl
  have h2 : pF σ = pF (i, true) := by unfold pF; rw [pF_neg hw, if_pos rfl]; rfl
  show (if j = 12 then nI i else if j = 13 then zI (pF σ) else if j = 12 then nI σ.1 else R.1 j) = if j = 13 then zI (pF (i, true)) else if j = 12 then nI i else R.1 j
  rw [h2]
  by_cases h : j = 12
  · rw [if_pos h, if_neg (by omega), if_pos h]
  · rw [if_neg h, if_neg h, if_neg h]
theorem sg_bad {R : rR} {σ : pS} {x : Int32} (hx : x = nI σ.1) : rs (sgR R σ) 13 x = sgR R (σ.1, false) := by
  subst hx
  refine Prod.ext (funext fun j => ?_) rfl
  show (if j = 13 then nI σ.1 else if j = 13 then zI (pF σ) else if j = 12 then nI σ.1 else R.1 j) = if j = 13 then zI (pF (σ.1, false)) else if j = 12 then nI σ.1 else R.1 j
  by_cases h : j = 13
  · rw [if_pos h, if_pos h]
    rfl
  · rw [if_neg h, if_neg h, if_neg h]
set_option maxHeartbeats 4000000 in
set_option maxRecDepth 100000 in
theorem m_X10_here {R : rR} {L : List Nat} {σ : pS} (hL : lnR R L) (hσ : σ.1 ≤ L.length) : RI jX10_here 0 [] (sgR R σ) (zI (hereZ L σ.1)) (sgR R σ) := by
  intro G o M0 hs hBo
  refine jMet_of [some (.ref o)] (by decide) rfl (Nat.le_of_ble_eq_true rfl) rfl hs ?_
  intro C hC9 hG
  have hC := hC9.z
  have hB : jB C ≤ o := by rw [jB, hG]; exact hBo
  have hLc := hL.2.2.2
  have hL120 := hL.2.2.1
  have hfb := pF_b (σ := σ)
  have hhb := hereZ_b hLc (i := σ.1)
  refine j_aload_n hC dX10_here_0 rfl (jrf_ref _) ?_
  refine r_getN (x := nI (σ.1)) hC kf_X10_147 dX10_here_1 rfl (rfl) ?_
  refine j_aload_n hC dX10_here_4 rfl (jrf_ref _) ?_
  refine r_getN (x := nI (L.length)) hC kf_X10_150 dX10_here_5 rfl (hL.1) ?_
  refine n_icmp_ge (tgt := 23) hC dX10_here_8 (by decide) (by omega) (by omega) (fun c1 => ?_) (fun c1 => ?_)
  · refine j_iconst (v := zI (-1)) hC dX10_here_23 (by decide) ?_
    exact j_iret hC9 rfl rfl dX10_here_24 ⟨_, ⟨(jv (by rw [hereZ, if_neg (by omega)])), rfl⟩, rfl⟩
  · refine j_aload_n hC dX10_here_11 rfl (jrf_ref _) ?_
    refine r_get hC kf_X10_29 dX10_here_12 rfl ?_
    refine j_aload_n hC dX10_here_15 rfl (jrf_ref _) ?_
    refine r_getN (x := nI (σ.1)) hC kf_X10_147 dX10_here_16 rfl (rfl) ?_
    refine r_aldN (k := 10) (j := σ.1) (x := nI (pC L (σ.1))) hC dX10_here_19 (c := 6) (n := 120) (by decide) rfl rfl (by omega) (by decide) (hL.2.1 _ (by omega)) ?_
    refine j_goto (tgt := 24) hC dX10_here_20 (by decide) ?_
    exact j_iret hC9 rfl rfl dX10_here_24 ⟨_, ⟨(jv (by rw [hereZ, if_pos (by omega)]; rfl)), rfl⟩, rfl⟩
theorem jb_inZ {z : Int} {a b : Nat} (hz : zB z) (ha : a < 2 ^ 31) (hb : b < 2 ^ 31) : jb (nI a ≤ zI z ∧ zI z ≤ nI b) = jb ((a : Int) ≤ z ∧ z ≤ (b : Int)) := jb_congr (and_congr (zI_le (zB_n ha) hz) (zI_le hz (zB_n hb)))
set_option maxHeartbeats 4000000 in
set_option maxRecDepth 100000 in
theorem m_X10_isNext {R : rR} {L : List Nat} {σ : pS} {c : Nat} (hL : lnR R L) (hσ : σ.1 ≤ L.length) (hc0 : 0 < c) (hc1 : c < 128) : RI jX10_isNext 1 [.int (nI c)] (sgR R σ) (jb (pNx L c σ = true)) (sgR R (pNext L c σ)) := by
  intro G o M0 hs hBo
  refine jMet_of [some (.ref o), some (.int (nI c))] (by decide) rfl (Nat.le_of_ble_eq_true rfl) rfl hs ?_
  intro C hC9 hG
  have hC := hC9.z
  have hB : jB C ≤ o := by rw [jB, hG]; exact hBo
  have hLc := hL.2.2.2
  have hL120 := hL.2.2.1
  have hfb := pF_b (σ := σ)
  have hhb := hereZ_b hLc (i := σ.1)
  refine j_aload_n hC dX10_isNext_0 rfl (jrf_ref _) ?_
  refine r_getN (x := zI (pF σ)) hC kf_X10_153 dX10_isNext_1 rfl (rfl) ?_
  refine z_if_ge (a := (pF σ)) (tgt := 15) hC dX10_isNext_4 (by decide) (by unfold zB; omega) (fun c1 => ?_) (fun c1 => ?_)
  · refine j_iconst (v := nI 0) hC dX10_isNext_15 (by decide) ?_
    exact j_iret hC9 rfl rfl dX10_isNext_16 ⟨_, ⟨(jv (jb_f0 (by first | exact nx_f1 (by omega) | exact nx_f2 hLc hc0 (by assumption)))), (by rw [pNext_no (by first | exact nx_f1 (by omega) | exact nx_f2 hLc hc0 (by assumption))])⟩, rfl⟩
  · refine j_aload_n hC dX10_isNext_7 rfl (jrf_ref _) ?_
    refine r_ci0 hC kv_X10_156 dX10_isNext_8 (m_X10_here (R := R) (σ := σ) hL (by omega)) hB rfl (by decide) (Nat.le_of_ble_eq_true rfl) ?_
    refine j_iload_n hC dX10_isNext_11 rfl ?_
    refine z_icmp_eq (a := (hereZ L σ.1)) (b := ((c : Nat) : Int)) (tgt := 17) hC dX10_isNext_12 (by decide) (by unfold zB; omega) (by unfold zB; omega) (fun c2 => ?_) (fun c2 => ?_)
    · refine j_aload_n hC dX10_isNext_17 rfl (jrf_ref _) ?_
      refine j_dup hC dX10_isNext_18 rfl ?_
      refine r_getN (x := nI (σ.1)) hC kf_X10_147 dX10_isNext_19 rfl (rfl) ?_
      refine j_iconst (v := nI 1) hC dX10_isNext_22 (by decide) ?_
      refine n_iadd hC dX10_isNext_23 ?_
      refine r_put hC kp_X10_147 dX10_isNext_24 hB rfl rfl rF_set_12 ?_
      refine j_iconst (v := nI 1) hC dX10_isNext_27 (by decide) ?_
      exact j_iret hC9 rfl rfl dX10_isNext_28 ⟨_, ⟨(jv (jb_t1 (nx_t hLc hc0 (by omega) (by omega)))), (by rw [pNext_of (nx_t hLc hc0 (by omega) (by omega))]; exact sg_at (by omega) rfl)⟩, rfl⟩
    · refine j_iconst (v := nI 0) hC dX10_isNext_15 (by decide) ?_
      exact j_iret hC9 rfl rfl dX10_isNext_16 ⟨_, ⟨(jv (jb_f0 (by first | exact nx_f1 (by omega) | exact nx_f2 hLc hc0 (by assumption)))), (by rw [pNext_no (by first | exact nx_f1 (by omega) | exact nx_f2 hLc hc0 (by assumption))])⟩, rfl⟩
theorem want_f {L : List Nat} {σ : pS} {c : Nat} (h : 0 ≤ pF σ) : pWant L c σ = σ := by
  rw [pWant, if_neg (by rw [pF_nn h]; decide)]
theorem want_t {L : List Nat} {σ : pS} {c : Nat} (h : pNx L c σ = true) : pWant L c σ = pNext L c σ := by
  rw [pWant, if_pos (pNx_iff.mp h).1, if_pos (pNx_iff.mp h).2, pNext_of h]
theorem want_n {L : List Nat} {σ : pS} {c : Nat} (h0 : pF σ < 0) (h : ¬ pNx L c σ = true) : pWant L c σ = (σ.1, false) := by
  rw [pWant, if_pos (pF_neg h0), if_neg (fun e => h (pNx_iff.mpr ⟨pF_neg h0, e⟩))]
theorem dig_f {L : List Nat} {σ : pS} {n : Nat} (h : 0 ≤ pF σ) : pDig L n σ = σ ∧ pDv L n σ = 0 := by
  rw [pDig, if_neg (by rw [pF_nn h]; decide), pDv, if_neg (by rw [pF_nn h]; intro e; exact absurd e.1 (by decide))]
  exact ⟨rfl, rfl⟩
theorem here_in {L : List Nat} {i : Nat} {a b : Nat} (ha : 0 < a) : ((a : Int) ≤ hereZ L i ∧ hereZ L i ≤ (b : Int)) ↔ (a ≤ pC L i ∧ pC L i ≤ b) := by
  unfold hereZ
  by_cases h : i < L.length
  · rw [if_pos h]; omega
  · rw [if_neg h, pC_out (by omega)]; omega
theorem dig_n {L : List Nat} {σ : pS} {n : Nat} (h0 : pF σ < 0) (h : ¬ (((48 : Nat) : Int) ≤ hereZ L σ.1 ∧ hereZ L σ.1 ≤ ((48 + n : Nat) : Int))) : pDig L n σ = (σ.1, false) ∧ pDv L n σ = 0 := by
  rw [here_in (by decide)] at h
  rw [pDig, if_pos (pF_neg h0), if_neg h, pDv, if_neg (fun e => h e.2)]
  exact ⟨rfl, rfl⟩
theorem dig_t {L : List Nat} {σ : pS} {n : Nat} (h0 : pF σ < 0) (h : ((48 : Nat) : Int) ≤ hereZ L σ.1 ∧ hereZ L σ.1 ≤ ((48 + n : Nat) : Int)) : pDig L n σ = (σ.1 + 1, true) ∧ pDv L n σ = pC L σ.1 - 48 := by
  rw [here_in (by decide)] at h
  rw [pDig, if_pos (pF_neg h0), if_pos h, pDv, if_pos ⟨pF_neg h0, h⟩]
  exact ⟨rfl, rfl⟩
theorem lit_yes {c : Nat} (h : 32 ≤ c ∧ c ≤ 126 ∧ c ≠ 35 ∧ c ≠ 64 ∧ c ≠ 123 ∧ c ≠ 125 ∧ c ≠ 60 ∧ c ≠ 62 ∧ c ≠ 124 ∧ c ≠ 91 ∧ c ≠ 93 ∧ c ≠ 47) : isLit c = true := decide_eq_true h
theorem lit_no {c : Nat} (h : ¬ (32 ≤ c ∧ c ≤ 126 ∧ c ≠ 35 ∧ c ≠ 64 ∧ c ≠ 123 ∧ c ≠ 125 ∧ c ≠ 60 ∧ c ≠ 62 ∧ c ≠ 124 ∧ c ≠ 91 ∧ c ≠ 93 ∧ c ≠ 47)) : ¬ isLit c = true := fun e => h (of_decide_eq_true e)
theorem here_lt {L : List Nat} {i : Nat} (h : 0 ≤ hereZ L i) : i < L.length := by
  unfold hereZ at h
  split at h
  · assumption
  · omega
set_option maxHeartbeats 4000000 in
set_option maxRecDepth 100000 in
theorem m_X10_wants {R : rR} {L : List Nat} {σ : pS} {c : Nat} (hL : lnR R L) (hσ : σ.1 ≤ L.length) (hc0 : 0 < c) (hc1 : c < 128) : RV jX10_wants 2 [.int (nI c)] (sgR R σ) (sgR R (pWant L c σ)) := by
  intro G o M0 hs hBo
  refine jMet_of [some (.ref o), some (.int (nI c))] (by decide) rfl (Nat.le_of_ble_eq_true rfl) rfl hs ?_
  intro C hC9 hG
  have hC := hC9.z
  have hB : jB C ≤ o := by rw [jB, hG]; exact hBo
  have hLc := hL.2.2.2
  have hL120 := hL.2.2.1
  have hfb := pF_b (σ := σ)
  have hhb := hereZ_b hLc (i := σ.1)
  refine j_aload_n hC dX10_wants_0 rfl (jrf_ref _) ?_
  refine r_getN (x := zI (pF σ)) hC kf_X10_153 dX10_wants_1 rfl (rfl) ?_
  refine z_if_ge (a := (pF σ)) (tgt := 23) hC dX10_wants_4 (by decide) (by unfold zB; omega) (fun c1 => ?_) (fun c1 => ?_)
  · exact j_vret hC9 rfl dX10_wants_23 ⟨_, ⟨rfl, (by first | rw [want_f (by omega)] | rw [want_t (by assumption)] | (rw [want_n (by omega) (by assumption), pNext_no (by assumption)]; exact sg_bad rfl))⟩, rfl⟩
  · refine j_aload_n hC dX10_wants_7 rfl (jrf_ref _) ?_
    refine j_iload_n hC dX10_wants_8 rfl ?_
    refine r_ci1 hC kv_X10_159 dX10_wants_9 (m_X10_isNext (R := R) (σ := σ) (c := c) hL (by omega) (by omega) (by omega)) hB rfl (by decide) (Nat.le_of_ble_eq_true rfl) ?_
    refine jb_if_ne (tgt := 23) hC dX10_wants_12 (by decide) (fun c2 => ?_) (fun c2 => ?_)
    · exact j_vret hC9 rfl dX10_wants_23 ⟨_, ⟨rfl, (by first | rw [want_f (by omega)] | rw [want_t (by assumption)] | (rw [want_n (by omega) (by assumption), pNext_no (by assumption)]; exact sg_bad rfl))⟩, rfl⟩
    · refine j_aload_n hC dX10_wants_15 rfl (jrf_ref _) ?_
      refine j_aload_n hC dX10_wants_16 rfl (jrf_ref _) ?_
      refine r_getN (x := nI ((pNext L (c) σ).1)) hC kf_X10_147 dX10_wants_17 rfl (rfl) ?_
      refine r_put hC kp_X10_153 dX10_wants_20 hB rfl rfl rF_set_13 ?_
      exact j_vret hC9 rfl dX10_wants_23 ⟨_, ⟨rfl, (by first | rw [want_f (by omega)] | rw [want_t (by assumption)] | (rw [want_n (by omega) (by assumption), pNext_no (by assumption)]; exact sg_bad rfl))⟩, rfl⟩
set_option maxHeartbeats 4000000 in
set_option maxRecDepth 100000 in
theorem m_X10_digit {R : rR} {L : List Nat} {σ : pS} {n : Nat} (hL : lnR R L) (hσ : σ.1 ≤ L.length) (hn : n ≤ 9) : RI jX10_digit 1 [.int (nI n)] (sgR R σ) (nI (pDv L n σ)) (sgR R (pDig L n σ)) := by
  intro G o M0 hs hBo
  refine jMet_of [some (.ref o), some (.int (nI n))] (by decide) rfl (Nat.le_of_ble_eq_true rfl) rfl hs ?_
  intro C hC9 hG
  have hC := hC9.z
  have hB : jB C ≤ o := by rw [jB, hG]; exact hBo
  have hLc := hL.2.2.2
  have hL120 := hL.2.2.1
  have hfb := pF_b (σ := σ)
  have hhb := hereZ_b hLc (i := σ.1)
  refine j_aload_n hC dX10_digit_0 rfl (jrf_ref _) ?_
  refine r_getN (x := zI (pF σ)) hC kf_X10_153 dX10_digit_1 rfl (rfl) ?_
  refine z_if_ge (a := (pF σ)) (tgt := 31) hC dX10_digit_4 (by decide) (by unfold zB; omega) (fun c1 => ?_) (fun c1 => ?_)
  · refine j_aload_n hC dX10_digit_31 rfl (jrf_ref _) ?_
    refine r_getN (x := zI (pF σ)) hC kf_X10_153 dX10_digit_32 rfl (rfl) ?_
    refine z_if_lt (a := (pF σ)) (tgt := 40) hC dX10_digit_35 (by decide) (by unfold zB; omega) (fun c2 => ?_) (fun c2 => ?_)
    · exact (show False by omega).elim
    · refine j_iconst (v := nI 0) hC dX10_digit_38 (by decide) ?_
      exact j_iret hC9 rfl rfl dX10_digit_39 ⟨_, ⟨(jv (by first | rw [(dig_f (by omega)).2] | rw [(dig_n (by omega) (by assumption)).2] | rw [(dig_t (by omega) (by assumption)).2])), (by first | rw [(dig_f (by omega)).1] | (rw [(dig_n (by omega) (by assumption)).1]; exact sg_bad rfl) | (rw [(dig_t (by omega) (by assumption)).1]; exact sg_at (by omega) rfl))⟩, rfl⟩
  · refine j_aload_n hC dX10_digit_7 rfl (jrf_ref _) ?_
    refine r_ci0 hC kv_X10_156 dX10_digit_8 (m_X10_here (R := R) (σ := σ) hL (by omega)) hB rfl (by decide) (Nat.le_of_ble_eq_true rfl) ?_
    refine j_bipush (v := nI 48) hC dX10_digit_11 (by decide) ?_
    refine j_bipush (v := nI 48) hC dX10_digit_13 (by decide) ?_
    refine j_iload_n hC dX10_digit_15 rfl ?_
    refine n_iadd hC dX10_digit_16 ?_
    refine s_ci3 hC ks_X10_88 dX10_digit_17 (m_X10_in) rfl (by decide) (Nat.le_of_ble_eq_true rfl) ?_
    refine j_top (jb_inZ (by unfold zB; omega) (by omega) (by omega)) ?_
    refine jb_if_ne (tgt := 31) hC dX10_digit_20 (by decide) (fun c3 => ?_) (fun c3 => ?_)
    · refine j_aload_n hC dX10_digit_31 rfl (jrf_ref _) ?_
      refine r_getN (x := zI (pF σ)) hC kf_X10_153 dX10_digit_32 rfl (rfl) ?_
      refine z_if_lt (a := (pF σ)) (tgt := 40) hC dX10_digit_35 (by decide) (by unfold zB; omega) (fun c4 => ?_) (fun c4 => ?_)
      · refine j_aload_n hC dX10_digit_40 rfl (jrf_ref _) ?_
        refine j_dup hC dX10_digit_41 rfl ?_
        refine r_getN (x := nI (σ.1)) hC kf_X10_147 dX10_digit_42 rfl (rfl) ?_
        refine j_iconst (v := nI 1) hC dX10_digit_45 (by decide) ?_
        refine n_iadd hC dX10_digit_46 ?_
        refine r_put hC kp_X10_147 dX10_digit_47 hB rfl rfl rF_set_12 ?_
        have h48 := ((here_in (L := L) (i := σ.1) (a := 48) (b := 48 + n) (by decide)).mp (by assumption)).1
        refine j_aload_n hC dX10_digit_50 rfl (jrf_ref _) ?_
        refine r_get hC kf_X10_29 dX10_digit_51 rfl ?_
        refine j_aload_n hC dX10_digit_54 rfl (jrf_ref _) ?_
        refine r_getN (x := nI ((σ.1) + (1))) hC kf_X10_147 dX10_digit_55 rfl (rfl) ?_
        refine j_iconst (v := nI 1) hC dX10_digit_58 (by decide) ?_
        refine n_isub hC dX10_digit_59 (by omega) ?_
        refine r_aldN (k := 10) (j := ((σ.1) + (1)) - (1)) (x := nI (pC L σ.1)) hC dX10_digit_60 (c := 6) (n := 120) (by decide) rfl rfl (by have := here_lt (L := L) (i := σ.1) (by omega); have := hL.2.2.1; omega) (by decide) (hL.2.1 σ.1 (here_lt (by omega))) ?_
        refine j_bipush (v := nI 48) hC dX10_digit_61 (by decide) ?_
        refine n_isub hC dX10_digit_63 (by omega) ?_
        exact j_iret hC9 rfl rfl dX10_digit_64 ⟨_, ⟨(jv (by first | rw [(dig_f (by omega)).2] | rw [(dig_n (by omega) (by assumption)).2] | rw [(dig_t (by omega) (by assumption)).2])), (by first | rw [(dig_f (by omega)).1] | (rw [(dig_n (by omega) (by assumption)).1]; exact sg_bad rfl) | (rw [(dig_t (by omega) (by assumption)).1]; exact sg_at (by omega) rfl))⟩, rfl⟩
      · exact (show False by omega).elim
    · refine j_aload_n hC dX10_digit_23 rfl (jrf_ref _) ?_
      refine j_aload_n hC dX10_digit_24 rfl (jrf_ref _) ?_
      refine r_getN (x := nI (σ.1)) hC kf_X10_147 dX10_digit_25 rfl (rfl) ?_
      refine r_put hC kp_X10_153 dX10_digit_28 hB rfl rfl rF_set_13 ?_
      refine j_aload_n hC dX10_digit_31 rfl (jrf_ref _) ?_
      refine r_getN (x := nI (σ.1)) hC kf_X10_153 dX10_digit_32 rfl (rfl) ?_
      refine n_if_lt (tgt := 40) hC dX10_digit_35 (by decide) (by omega) (fun c5 => ?_) (fun c5 => ?_)
      · exact (show False by omega).elim
      · refine j_iconst (v := nI 0) hC dX10_digit_38 (by decide) ?_
        exact j_iret hC9 rfl rfl dX10_digit_39 ⟨_, ⟨(jv (by first | rw [(dig_f (by omega)).2] | rw [(dig_n (by omega) (by assumption)).2] | rw [(dig_t (by omega) (by assumption)).2])), (by first | rw [(dig_f (by omega)).1] | (rw [(dig_n (by omega) (by assumption)).1]; exact sg_bad rfl) | (rw [(dig_t (by omega) (by assumption)).1]; exact sg_at (by omega) rfl))⟩, rfl⟩
set_option maxHeartbeats 4000000 in
set_option maxRecDepth 100000 in
theorem m_X10_isLiteral {z : Int} (hz1 : -1 ≤ z) (hz2 : z ≤ 126) : SI jX10_isLiteral 1 [.int (zI z)] (jb (isLit z.toNat = true)) := by
  intro G M0 hs
  refine jMet_of [some (.int (zI z))] (by decide) rfl (Nat.le_of_ble_eq_true rfl) rfl hs ?_
  intro C hC9 hG
  have hC := hC9.z
  refine j_iload_n hC dX10_isLiteral_0 rfl ?_
  refine j_bipush (v := nI 32) hC dX10_isLiteral_1 (by decide) ?_
  refine j_bipush (v := nI 126) hC dX10_isLiteral_3 (by decide) ?_
  refine s_ci3 hC ks_X10_88 dX10_isLiteral_5 (m_X10_in) rfl (by decide) (Nat.le_of_ble_eq_true rfl) ?_
  refine j_top (jb_inZ (by unfold zB; omega) (by omega) (by omega)) ?_
  refine jb_if_eq (tgt := 75) hC dX10_isLiteral_8 (by decide) (fun c1 => ?_) (fun c1 => ?_)
  · refine j_iconst (v := nI 0) hC dX10_isLiteral_75 (by decide) ?_
    exact j_iret hC9 rfl rfl dX10_isLiteral_76 ⟨(jv (jb_f0 (lit_no (by omega)))), rfl⟩
  · refine j_iload_n hC dX10_isLiteral_11 rfl ?_
    refine j_bipush (v := nI 35) hC dX10_isLiteral_12 (by decide) ?_
    refine z_icmp_eq (a := (z)) (b := ((35 : Nat) : Int)) (tgt := 75) hC dX10_isLiteral_14 (by decide) (by unfold zB; omega) (by unfold zB; omega) (fun c2 => ?_) (fun c2 => ?_)
    · refine j_iconst (v := nI 0) hC dX10_isLiteral_75 (by decide) ?_
      exact j_iret hC9 rfl rfl dX10_isLiteral_76 ⟨(jv (jb_f0 (lit_no (by omega)))), rfl⟩
    · refine j_iload_n hC dX10_isLiteral_17 rfl ?_
      refine j_bipush (v := nI 64) hC dX10_isLiteral_18 (by decide) ?_
      refine z_icmp_eq (a := (z)) (b := ((64 : Nat) : Int)) (tgt := 75) hC dX10_isLiteral_20 (by decide) (by unfold zB; omega) (by unfold zB; omega) (fun c3 => ?_) (fun c3 => ?_)
      · refine j_iconst (v := nI 0) hC dX10_isLiteral_75 (by decide) ?_
        exact j_iret hC9 rfl rfl dX10_isLiteral_76 ⟨(jv (jb_f0 (lit_no (by omega)))), rfl⟩
      · refine j_iload_n hC dX10_isLiteral_23 rfl ?_
        refine j_bipush (v := nI 123) hC dX10_isLiteral_24 (by decide) ?_
        refine z_icmp_eq (a := (z)) (b := ((123 : Nat) : Int)) (tgt := 75) hC dX10_isLiteral_26 (by decide) (by unfold zB; omega) (by unfold zB; omega) (fun c4 => ?_) (fun c4 => ?_)
        · refine j_iconst (v := nI 0) hC dX10_isLiteral_75 (by decide) ?_
          exact j_iret hC9 rfl rfl dX10_isLiteral_76 ⟨(jv (jb_f0 (lit_no (by omega)))), rfl⟩
        · refine j_iload_n hC dX10_isLiteral_29 rfl ?_
          refine j_bipush (v := nI 125) hC dX10_isLiteral_30 (by decide) ?_
          refine z_icmp_eq (a := (z)) (b := ((125 : Nat) : Int)) (tgt := 75) hC dX10_isLiteral_32 (by decide) (by unfold zB; omega) (by unfold zB; omega) (fun c5 => ?_) (fun c5 => ?_)
          · refine j_iconst (v := nI 0) hC dX10_isLiteral_75 (by decide) ?_
            exact j_iret hC9 rfl rfl dX10_isLiteral_76 ⟨(jv (jb_f0 (lit_no (by omega)))), rfl⟩
          · refine j_iload_n hC dX10_isLiteral_35 rfl ?_
            refine j_bipush (v := nI 60) hC dX10_isLiteral_36 (by decide) ?_
            refine z_icmp_eq (a := (z)) (b := ((60 : Nat) : Int)) (tgt := 75) hC dX10_isLiteral_38 (by decide) (by unfold zB; omega) (by unfold zB; omega) (fun c6 => ?_) (fun c6 => ?_)
            · refine j_iconst (v := nI 0) hC dX10_isLiteral_75 (by decide) ?_
              exact j_iret hC9 rfl rfl dX10_isLiteral_76 ⟨(jv (jb_f0 (lit_no (by omega)))), rfl⟩
            · refine j_iload_n hC dX10_isLiteral_41 rfl ?_
              refine j_bipush (v := nI 62) hC dX10_isLiteral_42 (by decide) ?_
              refine z_icmp_eq (a := (z)) (b := ((62 : Nat) : Int)) (tgt := 75) hC dX10_isLiteral_44 (by decide) (by unfold zB; omega) (by unfold zB; omega) (fun c7 => ?_) (fun c7 => ?_)
              · refine j_iconst (v := nI 0) hC dX10_isLiteral_75 (by decide) ?_
                exact j_iret hC9 rfl rfl dX10_isLiteral_76 ⟨(jv (jb_f0 (lit_no (by omega)))), rfl⟩
              · refine j_iload_n hC dX10_isLiteral_47 rfl ?_
                refine j_bipush (v := nI 124) hC dX10_isLiteral_48 (by decide) ?_
                refine z_icmp_eq (a := (z)) (b := ((124 : Nat) : Int)) (tgt := 75) hC dX10_isLiteral_50 (by decide) (by unfold zB; omega) (by unfold zB; omega) (fun c8 => ?_) (fun c8 => ?_)
                · refine j_iconst (v := nI 0) hC dX10_isLiteral_75 (by decide) ?_
                  exact j_iret hC9 rfl rfl dX10_isLiteral_76 ⟨(jv (jb_f0 (lit_no (by omega)))), rfl⟩
                · refine j_iload_n hC dX10_isLiteral_53 rfl ?_
                  refine j_bipush (v := nI 91) hC dX10_isLiteral_54 (by decide) ?_
                  refine z_icmp_eq (a := (z)) (b := ((91 : Nat) : Int)) (tgt := 75) hC dX10_isLiteral_56 (by decide) (by unfold zB; omega) (by unfold zB; omega) (fun c9 => ?_) (fun c9 => ?_)
                  · refine j_iconst (v := nI 0) hC dX10_isLiteral_75 (by decide) ?_
                    exact j_iret hC9 rfl rfl dX10_isLiteral_76 ⟨(jv (jb_f0 (lit_no (by omega)))), rfl⟩
                  · refine j_iload_n hC dX10_isLiteral_59 rfl ?_
                    refine j_bipush (v := nI 93) hC dX10_isLiteral_60 (by decide) ?_
                    refine z_icmp_eq (a := (z)) (b := ((93 : Nat) : Int)) (tgt := 75) hC dX10_isLiteral_62 (by decide) (by unfold zB; omega) (by unfold zB; omega) (fun c10 => ?_) (fun c10 => ?_)
                    · refine j_iconst (v := nI 0) hC dX10_isLiteral_75 (by decide) ?_
                      exact j_iret hC9 rfl rfl dX10_isLiteral_76 ⟨(jv (jb_f0 (lit_no (by omega)))), rfl⟩
                    · refine j_iload_n hC dX10_isLiteral_65 rfl ?_
                      refine j_bipush (v := nI 47) hC dX10_isLiteral_66 (by decide) ?_
                      refine z_icmp_eq (a := (z)) (b := ((47 : Nat) : Int)) (tgt := 75) hC dX10_isLiteral_68 (by decide) (by unfold zB; omega) (by unfold zB; omega) (fun c11 => ?_) (fun c11 => ?_)
                      · refine j_iconst (v := nI 0) hC dX10_isLiteral_75 (by decide) ?_
                        exact j_iret hC9 rfl rfl dX10_isLiteral_76 ⟨(jv (jb_f0 (lit_no (by omega)))), rfl⟩
                      · refine j_iconst (v := nI 1) hC dX10_isLiteral_71 (by decide) ?_
                        refine j_goto (tgt := 76) hC dX10_isLiteral_72 (by decide) ?_
                        exact j_iret hC9 rfl rfl dX10_isLiteral_76 ⟨(jv (jb_t1 (lit_yes (by omega)))), rfl⟩
/-- an item is laid -/
def lyR (R : rR) (n k p : Nat) : rR := rs (ra (ra (ra (ra R 17 n (nI k)) 18 n (nI p)) 19 n (nI 0)) 20 n (nI 0)) 16 (nI (n + 1))
set_option maxHeartbeats 4000000 in
set_option maxRecDepth 100000 in
theorem m_X10_lays {R : rR} {n k p : Nat} (h16 : R.1 16 = nI n) (hn : n < 120) : RI jX10_lays 0 [.int (nI k), .int (nI p)] R (nI n) (lyR R n k p) := by
  intro G o M0 hs hBo
  refine jMet_of [some (.ref o), some (.int (nI k)), some (.int (nI p))] (by decide) rfl (Nat.le_of_ble_eq_true rfl) rfl hs ?_
  intro C hC9 hG
  have hC := hC9.z
  have hB : jB C ≤ o := by rw [jB, hG]; exact hBo
  refine j_aload_n hC dX10_lays_0 rfl (jrf_ref _) ?_
  refine r_get hC kf_X10_32 dX10_lays_1 rfl ?_
  refine j_aload_n hC dX10_lays_4 rfl (jrf_ref _) ?_
  refine r_getN (x := nI (n)) hC kf_X10_162 dX10_lays_5 rfl (h16) ?_
  refine j_iload_n hC dX10_lays_8 rfl ?_
  refine r_ast (k := 17) (j := n) hC dX10_lays_9 (c := 7) (n := 120) (by decide) (fun _ => rfl) (rO_k17) hB rfl (by omega) (by decide) ?_
  refine j_aload_n hC dX10_lays_10 rfl (jrf_ref _) ?_
  refine r_get hC kf_X10_35 dX10_lays_11 rfl ?_
  refine j_aload_n hC dX10_lays_14 rfl (jrf_ref _) ?_
  refine r_getN (x := nI (n)) hC kf_X10_162 dX10_lays_15 rfl (h16) ?_
  refine j_iload_n hC dX10_lays_18 rfl ?_
  refine r_ast (k := 18) (j := n) hC dX10_lays_19 (c := 8) (n := 120) (by decide) (fun _ => rfl) (rO_k18) hB rfl (by omega) (by decide) ?_
  refine j_aload_n hC dX10_lays_20 rfl (jrf_ref _) ?_
  refine r_get hC kf_X10_38 dX10_lays_21 rfl ?_
  refine j_aload_n hC dX10_lays_24 rfl (jrf_ref _) ?_
  refine r_getN (x := nI (n)) hC kf_X10_162 dX10_lays_25 rfl (h16) ?_
  refine j_iconst (v := nI 0) hC dX10_lays_28 (by decide) ?_
  refine r_ast (k := 19) (j := n) hC dX10_lays_29 (c := 9) (n := 120) (by decide) (fun _ => rfl) (rO_k19) hB rfl (by omega) (by decide) ?_
  refine j_aload_n hC dX10_lays_30 rfl (jrf_ref _) ?_
  refine r_get hC kf_X10_41 dX10_lays_31 rfl ?_
  refine j_aload_n hC dX10_lays_34 rfl (jrf_ref _) ?_
  refine r_getN (x := nI (n)) hC kf_X10_162 dX10_lays_35 rfl (h16) ?_
  refine j_iconst (v := nI 0) hC dX10_lays_38 (by decide) ?_
  refine r_ast (k := 20) (j := n) hC dX10_lays_39 (c := 10) (n := 120) (by decide) (fun _ => rfl) (rO_k20) hB rfl (by omega) (by decide) ?_
  refine j_aload_n hC dX10_lays_40 rfl (jrf_ref _) ?_
  refine j_dup hC dX10_lays_41 rfl ?_
  refine r_getN (x := nI (n)) hC kf_X10_162 dX10_lays_42 rfl (h16) ?_
  refine j_iconst (v := nI 1) hC dX10_lays_45 (by decide) ?_
  refine n_iadd hC dX10_lays_46 ?_
  refine r_put hC kp_X10_162 dX10_lays_47 hB rfl rfl rF_set_16 ?_
  refine j_aload_n hC dX10_lays_50 rfl (jrf_ref _) ?_
  refine r_getN (x := nI (n + 1)) hC kf_X10_162 dX10_lays_51 rfl (rfl) ?_
  refine j_iconst (v := nI 1) hC dX10_lays_54 (by decide) ?_
  refine n_isub hC dX10_lays_55 (by omega) ?_
  exact j_iret hC9 rfl rfl dX10_lays_56 ⟨_, ⟨(jv (by rw [Nat.add_sub_cancel])), rfl⟩, rfl⟩
