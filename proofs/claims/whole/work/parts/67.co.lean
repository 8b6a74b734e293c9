/-! ===== what a run found ===== -/
theorem like_0 {S : aSet} {r q : Nat} (hk : sKeys S = 0) : ∀ f, likeA S r q f = decide (r = q)
  | 0 => by rw [likeA]; exact decide_eq_decide.mpr ⟨fun h => h.elim (fun e => absurd hk e) id, Or.inr⟩
  | f + 1 => by
    rw [likeA, like_0 hk f, hk, Nat.zero_testBit]
    exact Bool.and_true _
theorem kept_0 {S : aSet} {r p : Nat} {b : Bool} (hk : sKeys S = 0) (ho : ¬ outA S (sAt S r) = true) : ∀ k, (keptTo S r p b k = none ∧ ∀ m, m < k → (if b = true then (sRecs S).length - 1 - m else m) ≠ r) ∨ keptTo S r p b k = some r
  | 0 => Or.inl ⟨rfl, fun m hm => absurd hm (Nat.not_lt_zero m)⟩
  | k + 1 => by
    rw [keptTo_s]
    generalize hq : (if b = true then (sRecs S).length - 1 - k else k) = q
    by_cases e : q = r
    · subst e
      have hl : likeA S q q 5 = true := by rw [like_0 hk]; exact decide_eq_true rfl
      refine Or.inr ?_
      rcases kept_0 hk ho k with h | h
      · rw [h.1]; exact (ks_new ho hl).symm
      · rw [h, keptS, if_neg (fun g => g.elim ho (fun e => e hl))]
        split <;> rfl
    · have hl : ¬ likeA S r q 5 = true := by rw [like_0 hk, decide_eq_true_eq]; exact fun g => e g.symm
      rw [← ks_skip (Or.inr hl)]
      refine (kept_0 hk ho k).imp (fun h => ⟨h.1, fun m hm => ?_⟩) id
      by_cases hm2 : m = k
      · rw [hm2, hq]; exact e
      · exact h.2 m (by omega)
theorem keptC_A {S : aSet} {r p : Nat} {b : Bool} (ho : ¬ outA S (sAt S r) = true) (hr : r < (sRecs S).length) : keptC S r p b = keptA S r p b := by
  unfold keptC
  by_cases hk : sKeys S = 0
  · rw [if_pos (Or.inl hk)]
    rcases kept_0 (p := p) (b := b) hk ho (sRecs S).length with h | h
    · refine absurd ?_ (h.2 (if b = true then (sRecs S).length - 1 - r else r) (by split <;> omega))
      by_cases hb : b = true
      · rw [if_pos hb, if_pos hb]; omega
      · rw [if_neg hb, if_neg hb]
    · exact h.symm
  · rw [if_neg (fun e => e.elim hk ho)]
def outF (o : Nat) : Nat → Value := fun j => if j < 20 then .ref (o + 2 + 3 * j) else .null
/-- the outcome at o says L; what of its sheets is not told is left from before -/
def outR (H : jH) (o : Nat) (L : aRun) : Prop := H o = some (.inr (7, [.ref (o + 1), .int (nI L.length)])) ∧ H (o + 1) = some (.inl (.object RX6, 20, outF o)) ∧ L.length ≤ 20 ∧ (∀ j, j < L.length → shR H (o + 2 + 3 * j) (ranAt L j) ∧ (ranAt L j).1 ≤ 4 ∧ (ranAt L j).2.1.length ≤ 200 ∧ (¬ (ranAt L j).1 = 0 → (ranAt L j).2.1.length = 0)) ∧ ∀ j, j < 20 → ∃ (X : List Nat × Bool) (k r lim : Nat) (ch : Nat → Int32), shS H (o + 2 + 3 * j) X k r lim ch
def onO (M M' : jM) (o : Nat) : Prop := ∀ b, ¬ (o ≤ b ∧ b < o + 62) → M'.1 b = M.1 b
def znO (Z : jH) (o : Nat) : Prop := ∀ b, o ≤ b → b < o + 62 → Z b = none
theorem onO_refl {M : jM} {o : Nat} : onO M M o := fun _ _ => rfl
theorem onO.trans {M M' M'' : jM} {o : Nat} (h : onO M M' o) (h2 : onO M' M'' o) : onO M M'' o := fun b hb => (h2 b hb).trans (h b hb)
theorem onO.sub {M M' : jM} {o : Nat} {Z : jH} (h : onO M M' o) (hz : sub Z M.1) (hn : znO Z o) : sub Z M'.1 := fun b x hb => (h b (fun e => by rw [hn b e.1 e.2] at hb; cases hb)).trans (hz b x hb)
theorem on3.O {M M' : jM} {o i : Nat} (h : on3 M M' (o + 2 + 3 * i)) (hi : i < 20) : onO M M' o := fun b hb => h b (by omega) (by omega) (by omega)
theorem znO.z3 {Z : jH} {o i : Nat} (h : znO Z o) (hi : i < 20) : zn3 Z (o + 2 + 3 * i) := ⟨h _ (by omega) (by omega), h _ (by omega) (by omega), h _ (by omega) (by omega)⟩
theorem shR.keep {H H' : jH} {a : Nat} {x : Nat × List Nat × List Nat} (h : shR H a x) (h0 : ∀ b o, b = a ∨ b = a + 1 ∨ b = a + 2 → H b = some o → H' b = some o) : shR H' a x := by
  obtain ⟨X, k, lim, ch, h1, h2⟩ := h
  exact ⟨X, k, lim, ch, h1.keep h0, h2⟩
theorem cnt_lt {p : Nat → Bool} : ∀ n, cntTo p n ≤ n
  | 0 => Nat.le_refl 0
  | n + 1 => by
    have := cnt_lt (p := p) n
    simp only [cntTo]
    split <;> omega
set_option maxHeartbeats 4000000 in
set_option maxRecDepth 100000 in
theorem m_X3_howMany {G : jG} {M : jM} {o k : Nat} {L : aRun} (hs : (gL G).stackTraces = false) (h : outR M.1 o L) (hk : k ≤ 4) : CM G M jX3_howMany 0 0 0 [.ref o, .int (nI k)] (some (.int (nI (ranN L k)))) (M) := by
  refine jMet_of [some (.ref (o)), some (.int (nI (k))), none, none] (by decide) rfl (Nat.le_of_ble_eq_true rfl) (rfl) hs ?_
  intro C hC9 hG
  have hC := hC9.z
  have hs9 := jOK0_tr hC
  obtain ⟨h1, h2, h3, h4, h5⟩ := id h
  refine j_iconst (v := nI 0) hC dX3_howMany_0 (by decide) ?_
  refine j_istore_n2 hC dX3_howMany_1 (by decide) rfl ?_
  refine j_iconst (v := nI 0) hC dX3_howMany_2 (by decide) ?_
  refine j_istore_n3 hC dX3_howMany_3 (by decide) rfl ?_
  suffices K : ∀ (n9 : Nat) (i : Nat), L.length - i < n9 → (i ≤ L.length) → J C (M) 0 0 4 [some (.ref (o)), some (.int (nI (k))), some (.int (nI (cntTo (fun r => decide ((ranAt L r).1 = k)) i))), some (.int (nI (i)))] [] from j_M (rfl) (K _ (0) (Nat.lt_succ_self _) (Nat.zero_le _))
  intro n9
  induction n9 with
  | zero => intro i hm; omega
  | succ n9 ih =>
    intro i hm hi
    refine j_iload_n hC dX3_howMany_4 rfl ?_
    refine j_aload_n hC dX3_howMany_5 rfl (jrf_ref _) ?_
    refine j_get (v := .int (nI (L.length))) hC kf_X3_17 dX3_howMany_6 (h1) (rfl) ?_
    refine n_icmp_ge (tgt := 39) hC dX3_howMany_9 (by decide) (by omega) (by omega) (fun c1 => ?_) (fun c1 => ?_)
    · refine j_iload_n hC dX3_howMany_39 rfl ?_
      exact j_iret hC9 rfl (rfl) dX3_howMany_40 ⟨(jv (by rw [ranN, show L.length = i by omega])), rfl⟩
    · obtain ⟨X9, k9, lim9, ch9, s1, s2, s3⟩ := (h4 i (by omega)).1
      obtain ⟨-, b1, b2, b3⟩ := h4 i (by omega)
      obtain ⟨s4, s5⟩ := id s1
      refine j_iload_n hC dX3_howMany_12 rfl ?_
      refine j_aload_n hC dX3_howMany_13 rfl (jrf_ref _) ?_
      refine j_get (v := .ref (o + 1)) hC kf_X3_11 dX3_howMany_14 (h1) (rfl) ?_
      refine j_iload_n hC dX3_howMany_17 rfl ?_
      refine c_aald (i := i) (v := .ref (o + 2 + 3 * (i))) hC dX3_howMany_18 (h2) rfl (by omega) (by omega) (if_pos (show i < 20 by omega)) ?_
      refine j_get (v := .int (nI ((ranAt L i).1))) hC kf_X3_54 dX3_howMany_19 (s4) (rfl) ?_
      refine j_iload_n hC dX3_howMany_22 rfl ?_
      suffices K : J C (M) 0 0 31 [some (.ref (o)), some (.int (nI (k))), some (.int (nI (cntTo (fun r => decide ((ranAt L r).1 = k)) i))), some (.int (nI (i)))] [.int (nI (if decide ((ranAt L i).1 = k) = true then 1 else 0)), .int (nI (cntTo (fun r => decide ((ranAt L r).1 = k)) i))] by
        refine n_icmp_ne (tgt := 30) hC dX3_howMany_23 (by decide) (by omega) (by omega) (fun c2 => ?_) (fun c2 => ?_)
        · refine j_iconst (v := nI 0) hC dX3_howMany_30 (by decide) ?_
          exact j_top (by first | rw [if_pos (decide_eq_true (by assumption))] | rw [if_neg (by rw [decide_eq_true_eq]; assumption)]) K
        · refine j_iconst (v := nI 1) hC dX3_howMany_26 (by decide) ?_
          refine j_goto (tgt := 31) hC dX3_howMany_27 (by decide) ?_
          exact j_top (by first | rw [if_pos (decide_eq_true (by assumption))] | rw [if_neg (by rw [decide_eq_true_eq]; assumption)]) K
      refine n_iadd hC dX3_howMany_31 ?_
      refine j_top (rfl) ?_
      refine j_istore_n2 hC dX3_howMany_32 (by decide) rfl ?_
      refine j_iinc_3 (v := nI (i + 1)) hC dX3_howMany_33 (nI_add _ _) (by decide) rfl ?_
      refine j_goto (tgt := 4) hC dX3_howMany_36 (by decide) ?_
      exact j_M (rfl) (ih (i + 1) (by omega) (by omega))
set_option maxHeartbeats 4000000 in
set_option maxRecDepth 100000 in
theorem m_X3_totalLength {G : jG} {M : jM} {o : Nat} {L : aRun} (hs : (gL G).stackTraces = false) (h : outR M.1 o L) : CM G M jX3_totalLength 0 0 0 [.ref o] (some (.int (nI (sumL L L.length)))) (M) := by
  refine jMet_of [some (.ref (o)), none, none] (by decide) rfl (Nat.le_of_ble_eq_true rfl) (rfl) hs ?_
  intro C hC9 hG
  have hC := hC9.z
  have hs9 := jOK0_tr hC
  obtain ⟨h1, h2, h3, h4, h5⟩ := id h
  refine j_iconst (v := nI 0) hC dX3_totalLength_0 (by decide) ?_
  refine j_istore_n1 hC dX3_totalLength_1 (by decide) rfl ?_
  refine j_iconst (v := nI 0) hC dX3_totalLength_2 (by decide) ?_
  refine j_istore_n2 hC dX3_totalLength_3 (by decide) rfl ?_
  suffices K : ∀ (n9 : Nat) (i : Nat), L.length - i < n9 → (i ≤ L.length) → J C (M) 0 0 4 [some (.ref (o)), some (.int (nI (sumTo (fun r => (ranAt L r).2.1.length) i))), some (.int (nI (i)))] [] from j_M (rfl) (K _ (0) (Nat.lt_succ_self _) (Nat.zero_le _))
  intro n9
  induction n9 with
  | zero => intro i hm; omega
  | succ n9 ih =>
    intro i hm hi
    refine j_iload_n hC dX3_totalLength_4 rfl ?_
    refine j_aload_n hC dX3_totalLength_5 rfl (jrf_ref _) ?_
    refine j_get (v := .int (nI (L.length))) hC kf_X3_17 dX3_totalLength_6 (h1) (rfl) ?_
    refine n_icmp_ge (tgt := 46) hC dX3_totalLength_9 (by decide) (by omega) (by omega) (fun c1 => ?_) (fun c1 => ?_)
    · refine j_iload_n hC dX3_totalLength_46 rfl ?_
      exact j_iret hC9 rfl (rfl) dX3_totalLength_47 ⟨(jv (by rw [sumL, show L.length = i by omega])), rfl⟩
    · obtain ⟨X9, k9, lim9, ch9, s1, s2, s3⟩ := (h4 i (by omega)).1
      obtain ⟨-, b1, b2, b3⟩ := h4 i (by omega)
      obtain ⟨s4, s5⟩ := id s1
      refine j_iload_n hC dX3_totalLength_12 rfl ?_
      refine j_aload_n hC dX3_totalLength_13 rfl (jrf_ref _) ?_
      refine j_get (v := .ref (o + 1)) hC kf_X3_11 dX3_totalLength_14 (h1) (rfl) ?_
      refine j_iload_n hC dX3_totalLength_17 rfl ?_
      refine c_aald (i := i) (v := .ref (o + 2 + 3 * (i))) hC dX3_totalLength_18 (h2) rfl (by omega) (by omega) (if_pos (show i < 20 by omega)) ?_
      refine j_get (v := .int (nI ((ranAt L i).1))) hC kf_X3_54 dX3_totalLength_19 (s4) (rfl) ?_
      suffices K : J C (M) 0 0 38 [some (.ref (o)), some (.int (nI (sumTo (fun r => (ranAt L r).2.1.length) i))), some (.int (nI (i)))] [.int (nI ((ranAt L i).2.1.length)), .int (nI (sumTo (fun r => (ranAt L r).2.1.length) i))] by
        refine n_if_ne (tgt := 37) hC dX3_totalLength_22 (by decide) (by omega) (fun c2 => ?_) (fun c2 => ?_)
        · refine j_iconst (v := nI 0) hC dX3_totalLength_37 (by decide) ?_
          exact j_top (by first | rw [s2 (by omega)] | rw [b3 (by omega)]) K
        · refine j_aload_n hC dX3_totalLength_25 rfl (jrf_ref _) ?_
          refine j_get (v := .ref (o + 1)) hC kf_X3_11 dX3_totalLength_26 (h1) (rfl) ?_
          refine j_iload_n hC dX3_totalLength_29 rfl ?_
          refine c_aald (i := i) (v := .ref (o + 2 + 3 * (i))) hC dX3_totalLength_30 (h2) rfl (by omega) (by omega) (if_pos (show i < 20 by omega)) ?_
          refine j_get (v := .int (nI (X9.1.length))) hC kf_X3_57 dX3_totalLength_31 (s4) (rfl) ?_
          refine j_goto (tgt := 38) hC dX3_totalLength_34 (by decide) ?_
          exact j_top (by first | rw [s2 (by omega)] | rw [b3 (by omega)]) K
      refine n_iadd hC dX3_totalLength_38 ?_
      refine j_top (rfl) ?_
      refine j_istore_n1 hC dX3_totalLength_39 (by decide) rfl ?_
      refine j_iinc_2 (v := nI (i + 1)) hC dX3_totalLength_40 (nI_add _ _) (by decide) rfl ?_
      refine j_goto (tgt := 4) hC dX3_totalLength_43 (by decide) ?_
      exact j_M (rfl) (ih (i + 1) (by omega) (by omega))
section MF
variable {S : aSet} {i : Nat} {H : jH} {a k lim : Nat} {ch : Nat → Int32} {X : List Nat × Bool}
theorem rnX_1 (h : outA S (sAt S i) = true) : rnX S i = (1, [], []) := by
  have e : rsnA S i (sPol S) false = 1 := rn_1 h
  unfold rnX
  rw [e]
  rfl
theorem rnX_2 (h : ¬ outA S (sAt S i) = true) (hi : i < (sRecs S).length) (h2 : ¬ optZ (keptC S i (sPol S) false) = (i : Int)) : rnX S i = (2, [], []) := by
  rw [keptC_A h hi] at h2
  have e : rsnA S i (sPol S) false = 2 := rn_2 h h2
  unfold rnX
  rw [e]
  rfl
theorem rnX_m (h : ¬ outA S (sAt S i) = true) (hi : i < (sRecs S).length) (h2 : optZ (keptC S i (sPol S) false) = (i : Int)) : rnX S i = ((ltrA S i).1, if (ltrA S i).1 = 0 then (ltrA S i).2.1 else [], if 3 ≤ (ltrA S i).1 then chnA (pIts (pEnd (sTmpl S))) (ltrA S i).2.2 else []) := by
  rw [keptC_A h hi] at h2
  have e : rsnA S i (sPol S) false = (ltrA S i).1 := rn_m h h2
  unfold rnX
  rw [e]
theorem shR_b {n : Nat} (hx : rnX S i = (n, [], [])) (hn : n = 1 ∨ n = 2) (h : shS H a X k n lim ch) : shR H a (rnX S i) := by
  rw [hx]
  exact ⟨X, k, lim, ch, h, fun e => absurd (show n = 0 from e) (by omega), fun e => absurd (show 3 ≤ n from e) (by omega)⟩
theorem shR_m (hx : rnX S i = ((ltrA S i).1, if (ltrA S i).1 = 0 then (ltrA S i).2.1 else [], if 3 ≤ (ltrA S i).1 then chnA (pIts (pEnd (sTmpl S))) (ltrA S i).2.2 else [])) (h : shS H a X k (ltrA S i).1 lim ch) (h1 : (ltrA S i).1 = 0 → X.1 = (ltrA S i).2.1) (h2 : 3 ≤ (ltrA S i).1 → k = (chnA (pIts (pEnd (sTmpl S))) (ltrA S i).2.2).length ∧ ∀ m, m < (chnA (pIts (pEnd (sTmpl S))) (ltrA S i).2.2).length → ch m = nI ((chnA (pIts (pEnd (sTmpl S))) (ltrA S i).2.2).getD m 0)) : shR H a (rnX S i) := by
  rw [hx]
  refine ⟨X, k, lim, ch, h, fun e => ?_, fun e => ?_⟩
  · have e' : (ltrA S i).1 = 0 := e
    show X.1 = if (ltrA S i).1 = 0 then (ltrA S i).2.1 else []
    rw [if_pos e']
    exact h1 e'
  · have e' : 3 ≤ (ltrA S i).1 := e
    show k = (if 3 ≤ (ltrA S i).1 then chnA (pIts (pEnd (sTmpl S))) (ltrA S i).2.2 else []).length ∧ ∀ m, m < (if 3 ≤ (ltrA S i).1 then chnA (pIts (pEnd (sTmpl S))) (ltrA S i).2.2 else []).length → ch m = nI ((if 3 ≤ (ltrA S i).1 then chnA (pIts (pEnd (sTmpl S))) (ltrA S i).2.2 else []).getD m 0)
    rw [if_pos e']
    exact h2 e'
/-- bounds of a run's results -/
theorem rnX_b (hS : setG S) (hi : i < (sRecs S).length) : (rnX S i).1 ≤ 4 ∧ (rnX S i).2.1.length ≤ 200 ∧ (¬ (rnX S i).1 = 0 → (rnX S i).2.1.length = 0) := by
  have hb := ltr_b hS hi
  have h1 : (rnX S i).1 = rsnA S i (sPol S) false := rfl
  refine ⟨?_, ?_, fun h => ?_⟩
  · rw [h1]
    unfold rsnA
    split
    · decide
    · split
      · exact hb.1
      · decide
  · by_cases e : rsnA S i (sPol S) false = 0
    · rw [rnX_yes e]; exact hb.2.1
    · rw [rnX_no e]; decide
  · rw [rnX_no (by rw [h1] at h; exact h)]; rfl
end MF
theorem keptC_lt {S : aSet} {r p m : Nat} {b : Bool} (hr : r < (sRecs S).length) (h20 : (sRecs S).length ≤ 20) (h : keptC S r p b = some m) : m < 20 := by
  unfold keptC at h
  split at h
  · cases h; omega
  · exact Nat.lt_of_lt_of_le (keptTo_lt (Nat.le_refl _) h) h20
set_option maxHeartbeats 4000000 in
set_option maxRecDepth 100000 in
theorem m_X3_makeFrom {G : jG} {M : jM} {o s : Nat} {S : aSet} {L : aRun} {Z : jH} (hs : (gL G).stackTraces = false) (h : outR M.1 o L) (hS : suR M.1 Z s S) (hz : sub Z M.1) (hn : znO Z o) (hso : s + 1 < o ∨ o + 62 ≤ s) (hBo : gB G ≤ o) : JMet G jX3_makeFrom [.ref o, .ref s] (M) 0 0 9 (fun v M' => v = none ∧ outR M'.1 o (runL S) ∧ onO M M' o) jNo := by
  refine jMet_of [some (.ref (o)), some (.ref (s)), none, none] (by decide) rfl (Nat.le_of_ble_eq_true rfl) (rfl) hs ?_
  intro C hC9 hG
  have hC := hC9.z
  have hs9 := jOK0_tr hC
  refine j_lt (fun hlt => ?_)
  have hBg : jB C = gB G := by rw [jB, hG]
  subst hG
  obtain ⟨h1, h2, h3, h4, h5⟩ := id h
  obtain ⟨⟨lay, home, ff, xe, u1, u2, u5, u3, u6, u7⟩, u4⟩ := id hS
  have hn20 : (sRecs S).length ≤ 20 := u4.1.1
  have hk32 : sKeys S < 32 := u4.1.2.1
  have hp3 : sPol S < 3 := u4.1.2.2.1
  have ho1 : sOut S < 1024 := u4.1.2.2.2.1
  have hl2 : sLim S ≤ 200 := u4.1.2.2.2.2.1.2
  have hen : ∀ r, r < (sRecs S).length → (sAt S r).1 < 10 ∧ (sAt S r).2.1 < 100 := fun r hr => ⟨(u3 r hr).2.2.1, (u3 r hr).2.2.2.1⟩
  refine j_aload_n hC dX3_makeFrom_0 rfl (jrf_ref _) ?_
  refine j_aload_n hC dX3_makeFrom_1 rfl (jrf_ref _) ?_
  refine j_get (v := .int (nI ((sRecs S).length))) hC kf_X3_22 dX3_makeFrom_2 (u1) (rfl) ?_
  refine j_aload_n hC dX3_makeFrom_5 rfl (jrf_ref _) ?_
  refine j_get (v := .ref (o + 1)) hC kf_X3_11 dX3_makeFrom_6 (h1) (rfl) ?_
  refine c_alen hC dX3_makeFrom_9 (h2) ?_
  refine c_min (a := (sRecs S).length) (b := 20) hC ks_X3_25 dX3_makeFrom_10 (by omega) (by omega) (by decide) (Nat.le_of_ble_eq_true rfl) ?_
  refine j_top (by rw [show min (sRecs S).length 20 = (sRecs S).length by omega]) ?_
  refine c_put (fs' := [.ref (o + 1), .int (nI ((sRecs S).length))]) hC kp_X3_17 dX3_makeFrom_13 (h1) (by omega) (rfl) (rfl) rfl ?_
  refine j_iconst (v := nI 0) hC dX3_makeFrom_16 (by decide) ?_
  refine j_istore_n2 hC dX3_makeFrom_17 (by decide) rfl ?_
  suffices K : ∀ (n9 : Nat) (Mr : jM) (i : Nat), (sRecs S).length - i < n9 → i ≤ (sRecs S).length → Mr.1 o = some (.inr (7, [.ref (o + 1), .int (nI (sRecs S).length)])) → Mr.1 (o + 1) = some (.inl (.object RX6, 20, outF o)) → (∀ j, j < i → shR Mr.1 (o + 2 + 3 * j) (rnX S j)) → (∀ j, j < 20 → ∃ (X : List Nat × Bool) (k r lim : Nat) (ch : Nat → Int32), shS Mr.1 (o + 2 + 3 * j) X k r lim ch) → onO M Mr o → sub Z Mr.1 → J C Mr 0 0 18 [some (.ref o), some (.ref s), some (.int (nI i)), none] [] by
    refine K _ _ 0 (Nat.lt_succ_self _) (Nat.zero_le _) (jput_at) ((jput_ne (by show (o + 1) ≠ (o); omega)).trans (h2)) (fun j hj => absurd hj (Nat.not_lt_zero j)) (fun j hj => ?_) (fun b hb => jput_ne (by omega)) (fun b x hb => (jput_ne (fun e => by rw [e, hn o (by omega) (by omega)] at hb; cases hb)).trans (hz b x hb))
    obtain ⟨X8, k8, r8, lim8, ch8, h8⟩ := h5 j hj
    exact ⟨X8, k8, r8, lim8, ch8, h8.keep (fun b o9 hb h9 => (jput_ne (show b ≠ o by omega)).trans h9)⟩
  intro n9
  induction n9 with
  | zero => intro Mr i hm; omega
  | succ n9 ih =>
    intro Mr i hm hi ho hrow hdone hany hfr hzr
    have hSr : suR Mr.1 Z s S := hS.at (hfr _ (by omega)) (hfr _ (by omega))
    have u1r := (hfr s (by omega)).trans u1
    have u2r := (hfr (s + 1) (by omega)).trans u2
    refine j_iload_n hC dX3_makeFrom_18 rfl ?_
    refine j_aload_n hC dX3_makeFrom_19 rfl (jrf_ref _) ?_
    refine j_get (v := .int (nI ((sRecs S).length))) hC kf_X3_17 dX3_makeFrom_20 (ho) (rfl) ?_
    refine n_icmp_ge (tgt := 101) hC dX3_makeFrom_23 (by decide) (by omega) (by omega) (fun c1 => ?_) (fun c1 => ?_)
    · have hrl := runL_len (S := S)
      exact j_vret hC9 rfl dX3_makeFrom_101 (⟨rfl, ⟨by rw [hrl]; exact ho, hrow, by rw [hrl]; exact hn20, fun j hj => by
  rw [hrl] at hj
  rw [runL_at hj]
  exact ⟨hdone j (by omega), rnX_b u4 hj⟩, hany⟩, hfr⟩)
    · refine j_aload_n hC dX3_makeFrom_26 rfl (jrf_ref _) ?_
      refine j_iload_n hC dX3_makeFrom_27 rfl ?_
      refine c_V hC kv_X3_31 dX3_makeFrom_28 (m_X5_entryAt0 (i := i) (xe := xe) hs9 u1r u2r u4.1.1 (by omega) (fun r hr => ⟨(u3 r hr).1, (u3 r hr).2.mono hzr⟩)) (u1r) rfl rfl rfl rfl (by decide) (Nat.le_of_ble_eq_true rfl) ?_
      refine j_astore_n3 hC dX3_makeFrom_31 (jrf_ref _) (by decide) rfl ?_
      refine j_aload_n hC dX3_makeFrom_32 rfl (jrf_ref _) ?_
      refine j_ifnull hC dX3_makeFrom_33 ?_
      refine j_aload_n hC dX3_makeFrom_36 rfl (jrf_ref _) ?_
      refine j_aload_n hC dX3_makeFrom_37 rfl (jrf_ref _) ?_
      refine c_V hC kv_X3_35 dX3_makeFrom_38 (m_X5_isExcluded hs9 ((hSr).mono hzr) ((u3 i (by omega)).2.mono hzr)) (u1r) rfl rfl rfl rfl (by decide) (Nat.le_of_ble_eq_true rfl) ?_
      refine jb_if_eq (tgt := 57) hC dX3_makeFrom_41 (by decide) (fun c2 => ?_) (fun c2 => ?_)
      · have hzx := optZ_zB (x := keptC S i (sPol S) false) (n := 20) (fun m hm => keptC_lt (by omega) hn20 hm)
        refine j_aload_n hC dX3_makeFrom_57 rfl (jrf_ref _) ?_
        refine j_iload_n hC dX3_makeFrom_58 rfl ?_
        refine j_aload_n hC dX3_makeFrom_59 rfl (jrf_ref _) ?_
        refine j_get (v := .int (nI (sPol S))) hC kf_X3_43 dX3_makeFrom_60 (u1r) (rfl) ?_
        refine j_iconst (v := nI 0) hC dX3_makeFrom_63 (by decide) ?_
        refine c_V hC kv_X3_46 dX3_makeFrom_64 (m_X5_keptOf (r := i) (p := sPol S) (b := false) hs9 ((hSr).mono hzr) (by omega) (by omega)) (u1r) rfl rfl rfl rfl (by decide) (Nat.le_of_ble_eq_true rfl) ?_
        refine j_iload_n hC dX3_makeFrom_67 rfl ?_
        refine z_icmp_eq (a := (optZ (keptC S i (sPol S) false))) (b := ((i : Nat) : Int)) (tgt := 84) hC dX3_makeFrom_68 (by decide) (by unfold zB; omega) (by unfold zB; omega) (fun c3 => ?_) (fun c3 => ?_)
        · obtain ⟨X9, k9, r9, lim9, ch9, hsi⟩ := hany i (by omega)
          refine j_aload_n hC dX3_makeFrom_84 rfl (jrf_ref _) ?_
          refine j_get (v := .ref (o + 1)) hC kf_X3_11 dX3_makeFrom_85 (ho) (rfl) ?_
          refine j_iload_n hC dX3_makeFrom_88 rfl ?_
          refine c_aald (i := i) (v := .ref (o + 2 + 3 * (i))) hC dX3_makeFrom_89 (hrow) rfl (by omega) (by omega) (if_pos (show i < 20 by omega)) ?_
          refine j_aload_n hC dX3_makeFrom_90 rfl (jrf_ref _) ?_
          refine j_aload_n hC dX3_makeFrom_91 rfl (jrf_ref _) ?_
          refine c_Pv (kc := 0) (ks := 0) hC kv_X3_50 dX3_makeFrom_92 (m_X6_write hs9 hsi (hSr) (u3 i (by omega)).2 hzr (hn.z3 (by omega)) (by omega) (by omega)) (hsi.1) rfl rfl rfl rfl (by decide) (Nat.le_of_ble_eq_true rfl) ?_
          intro v9 M1 h9
          obtain ⟨rfl, X1, k1, lim1, ch1, e1, e3, e4, e5, e2⟩ := h9
          refine j_iinc_2 (v := nI (i + 1)) hC dX3_makeFrom_95 (nI_add _ _) (by decide) rfl ?_
          refine j_goto (tgt := 18) hC dX3_makeFrom_98 (by decide) ?_
          refine j_L (jle_s (jle_s (jle_s (jle_n (jle_0))))) (ih _ (i + 1) (by omega) (by omega) ((e2 _ (by omega) (by omega) (by omega)).trans ho) ((e2 _ (by omega) (by omega) (by omega)).trans hrow) (fun j hj => ?_) (fun j hj => ?_) (hfr.trans (e2.O (by omega))) ((e2.O (by omega)).sub hzr hn))
          · by_cases hji : j = i
            · subst hji; exact shR_m (rnX_m (by assumption) (by omega) (by assumption)) e1 e4 e5
            · exact (hdone j (by omega)).keep (fun b o9 hb h9 => (e2 _ (by omega) (by omega) (by omega)).trans h9)
          · by_cases hji : j = i
            · subst hji; exact ⟨_, _, _, _, _, e1⟩
            · obtain ⟨X8, k8, r8, lim8, ch8, h8⟩ := hany j hj
              exact ⟨X8, k8, r8, lim8, ch8, h8.keep (fun b o9 hb h9 => (e2 _ (by omega) (by omega) (by omega)).trans h9)⟩
        · obtain ⟨X9, k9, r9, lim9, ch9, hsi⟩ := hany i (by omega)
          refine j_aload_n hC dX3_makeFrom_71 rfl (jrf_ref _) ?_
          refine j_get (v := .ref (o + 1)) hC kf_X3_11 dX3_makeFrom_72 (ho) (rfl) ?_
          refine j_iload_n hC dX3_makeFrom_75 rfl ?_
          refine c_aald (i := i) (v := .ref (o + 2 + 3 * (i))) hC dX3_makeFrom_76 (hrow) rfl (by omega) (by omega) (if_pos (show i < 20 by omega)) ?_
          refine j_iconst (v := nI 2) hC dX3_makeFrom_77 (by decide) ?_
          refine c_Pv (kc := 0) (ks := 0) hC kv_X3_39 dX3_makeFrom_78 (m_X6_leaveBlank (r9 := 2) hs9 hsi (by omega)) (hsi.1) rfl rfl rfl rfl (by decide) (Nat.le_of_ble_eq_true rfl) ?_
          intro v9 M1 h9
          obtain ⟨rfl, e1, e2⟩ := h9
          refine j_goto (tgt := 95) hC dX3_makeFrom_81 (by decide) ?_
          refine j_iinc_2 (v := nI (i + 1)) hC dX3_makeFrom_95 (nI_add _ _) (by decide) rfl ?_
          refine j_goto (tgt := 18) hC dX3_makeFrom_98 (by decide) ?_
          refine j_L (jle_s (jle_s (jle_s (jle_n (jle_0))))) (ih _ (i + 1) (by omega) (by omega) ((e2 _ (by omega) (by omega) (by omega)).trans ho) ((e2 _ (by omega) (by omega) (by omega)).trans hrow) (fun j hj => ?_) (fun j hj => ?_) (hfr.trans (e2.O (by omega))) ((e2.O (by omega)).sub hzr hn))
          · by_cases hji : j = i
            · subst hji; exact shR_b (rnX_2 (by assumption) (by omega) (by assumption)) (Or.inr rfl) e1
            · exact (hdone j (by omega)).keep (fun b o9 hb h9 => (e2 _ (by omega) (by omega) (by omega)).trans h9)
          · by_cases hji : j = i
            · subst hji; exact ⟨_, _, _, _, _, e1⟩
            · obtain ⟨X8, k8, r8, lim8, ch8, h8⟩ := hany j hj
              exact ⟨X8, k8, r8, lim8, ch8, h8.keep (fun b o9 hb h9 => (e2 _ (by omega) (by omega) (by omega)).trans h9)⟩
      · obtain ⟨X9, k9, r9, lim9, ch9, hsi⟩ := hany i (by omega)
        refine j_aload_n hC dX3_makeFrom_44 rfl (jrf_ref _) ?_
        refine j_get (v := .ref (o + 1)) hC kf_X3_11 dX3_makeFrom_45 (ho) (rfl) ?_
        refine j_iload_n hC dX3_makeFrom_48 rfl ?_
        refine c_aald (i := i) (v := .ref (o + 2 + 3 * (i))) hC dX3_makeFrom_49 (hrow) rfl (by omega) (by omega) (if_pos (show i < 20 by omega)) ?_
        refine j_iconst (v := nI 1) hC dX3_makeFrom_50 (by decide) ?_
        refine c_Pv (kc := 0) (ks := 0) hC kv_X3_39 dX3_makeFrom_51 (m_X6_leaveBlank (r9 := 1) hs9 hsi (by omega)) (hsi.1) rfl rfl rfl rfl (by decide) (Nat.le_of_ble_eq_true rfl) ?_
        intro v9 M1 h9
        obtain ⟨rfl, e1, e2⟩ := h9
        refine j_goto (tgt := 95) hC dX3_makeFrom_54 (by decide) ?_
        refine j_iinc_2 (v := nI (i + 1)) hC dX3_makeFrom_95 (nI_add _ _) (by decide) rfl ?_
        refine j_goto (tgt := 18) hC dX3_makeFrom_98 (by decide) ?_
        refine j_L (jle_s (jle_s (jle_s (jle_n (jle_0))))) (ih _ (i + 1) (by omega) (by omega) ((e2 _ (by omega) (by omega) (by omega)).trans ho) ((e2 _ (by omega) (by omega) (by omega)).trans hrow) (fun j hj => ?_) (fun j hj => ?_) (hfr.trans (e2.O (by omega))) ((e2.O (by omega)).sub hzr hn))
        · by_cases hji : j = i
          · subst hji; exact shR_b (rnX_1 (by assumption)) (Or.inl rfl) e1
          · exact (hdone j (by omega)).keep (fun b o9 hb h9 => (e2 _ (by omega) (by omega) (by omega)).trans h9)
        · by_cases hji : j = i
          · subst hji; exact ⟨_, _, _, _, _, e1⟩
          · obtain ⟨X8, k8, r8, lim8, ch8, h8⟩ := hany j hj
            exact ⟨X8, k8, r8, lim8, ch8, h8.keep (fun b o9 hb h9 => (e2 _ (by omega) (by omega) (by omega)).trans h9)⟩
