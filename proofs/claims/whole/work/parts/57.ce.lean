/-! ===== setups ===== -/
def entV (Z : jH) (v : Value) : Prop := v = .null ∨ ∃ (p : Nat) (q : aRec), v = .ref p ∧ entR Z p q
def suF (s lay home : Nat) (S : aSet) : List Value := [.ref (s + 1), .int (nI (sRecs S).length), .ref lay, .ref home, .int (nI (sKeys S)), .int (nI (sPol S)), .int (nI (sOut S)), .int (nI (sLim S))]
/-- the setup at s means S: its own two objects in H, what never changes in Z -/
def suR (H Z : jH) (s : Nat) (S : aSet) : Prop := (∃ (lay home : Nat) (f : Nat → Value) (xe : Nat → Nat), H s = some (.inr (9, suF s lay home S)) ∧ H (s + 1) = some (.inl (.object RX1, 20, f)) ∧ (∀ i, i < 20 → entV Z (f i)) ∧ (∀ r, r < (sRecs S).length → f r = .ref (xe r) ∧ entR Z (xe r) (sAt S r)) ∧ layR Z lay (sTmpl S) ∧ txtR Z home (sHome S)) ∧ setG S
theorem entV.mono {Z H : jH} {v : Value} (hz : sub Z H) (h : entV Z v) : entV H v := by
  rcases h with h | ⟨p, q, h1, h2⟩
  · exact Or.inl h
  · exact Or.inr ⟨p, q, h1, h2.mono hz⟩
theorem suR.mono {H Z Z' : jH} {s : Nat} {S : aSet} (hz : sub Z Z') (h : suR H Z s S) : suR H Z' s S := by
  obtain ⟨⟨lay, home, f, xe, h1, h2, h3, h4, h5, h6⟩, h7⟩ := h
  exact ⟨⟨lay, home, f, xe, h1, h2, fun i hi => (h3 i hi).mono hz, fun r hr => ⟨(h4 r hr).1, (h4 r hr).2.mono hz⟩, h5.mono hz, h6.mono hz⟩, h7⟩
theorem suR.at {H H' Z : jH} {s : Nat} {S : aSet} (h0 : H' s = H s) (h1 : H' (s + 1) = H (s + 1)) (h : suR H Z s S) : suR H' Z s S := by
  obtain ⟨⟨lay, home, f, xe, g1, g2, g3⟩, g4⟩ := h
  exact ⟨⟨lay, home, f, xe, h0.trans g1, h1.trans g2, g3⟩, g4⟩
/-- the fields of two records are the same where there is a key, among the first f -/
def dupA (S : aSet) (q r : aRec) : Nat → Bool
  | 0 => true
  | f + 1 => dupA S q r f && (!((sKeys S).testBit f) || sameT (q.2.2 f) (r.2.2 f))
theorem same_sym {t u : List Nat} : sameT t u = sameT u t := by
  unfold sameT
  exact decide_eq_decide.mpr eq_comm
theorem dup_like {S : aSet} {i j : Nat} (hk : ¬ sKeys S = 0) : ∀ f, dupA S (sAt S j) (sAt S i) f = likeA S i j f
  | 0 => by
    rw [dupA, likeA]
    exact (decide_eq_true (Or.inl hk)).symm
  | f + 1 => by rw [dupA, likeA, dup_like hk f, same_sym]
section DU
variable {S : aSet} {q r : aRec} {f : Nat}
theorem dup_t (h : dupA S q r f = true) (h2 : sKeys S / 2 ^ f % 2 = 0 ∨ sameT (q.2.2 f) (r.2.2 f) = true) : dupA S q r (f + 1) = true := by
  rw [dupA, h, Bool.true_and, Bool.or_eq_true]
  exact h2.elim (fun e => Or.inl (by rw [tb_0 e]; rfl)) Or.inr
theorem dup_f (h1 : ¬ sKeys S / 2 ^ f % 2 = 0) (h2 : ¬ sameT (q.2.2 f) (r.2.2 f) = true) : ∀ n, f < n → ¬ dupA S q r n = true
  | 0, h => absurd h (Nat.not_lt_zero _)
  | n + 1, h => by
    rw [dupA, Bool.and_eq_true, Bool.or_eq_true]
    intro e
    by_cases hn : f < n
    · exact dup_f h1 h2 n hn e.1
    · obtain rfl : f = n := by omega
      rcases e.2 with h3 | h3
      · rw [tb_1 h1] at h3; exact absurd h3 (by decide)
      · exact h2 h3
end DU
/-- the record that the class keeps -/
def keptC (S : aSet) (r p : Nat) (b : Bool) : Option Nat := if sKeys S = 0 ∨ outA S (sAt S r) = true then some r else keptA S r p b
set_option maxHeartbeats 4000000 in
set_option maxRecDepth 100000 in
theorem m_X5_isExcluded {G : jG} {M : jM} {s z : Nat} {S : aSet} {q : aRec} (hs : (gL G).stackTraces = false) (h : suR M.1 M.1 s S) (hz : entR M.1 z q) : CM G M jX5_isExcluded 0 0 0 [.ref s, .ref z] (some (.int (jb (outA S q = true)))) (M) := by
  refine jMet_of [some (.ref (s)), some (.ref (z))] (by decide) rfl (Nat.le_of_ble_eq_true rfl) (rfl) hs ?_
  intro C hC9 hG
  have hC := hC9.z
  have hs9 := jOK0_tr hC
  obtain ⟨⟨lay, home, ff, xe, u1, u2, u5, u3, u6, u7⟩, u4⟩ := id h
  have hn20 : (sRecs S).length ≤ 20 := u4.1.1
  have hk32 : sKeys S < 32 := u4.1.2.1
  have hp3 : sPol S < 3 := u4.1.2.2.1
  have ho1 : sOut S < 1024 := u4.1.2.2.2.1
  have hl2 : sLim S ≤ 200 := u4.1.2.2.2.2.1.2
  have hen : ∀ r, r < (sRecs S).length → (sAt S r).1 < 10 ∧ (sAt S r).2.1 < 100 := fun r hr => ⟨(u3 r hr).2.2.1, (u3 r hr).2.2.2.1⟩
  obtain ⟨b2, o1⟩ := hz.obj
  have hg := hz.2.1
  refine j_aload_n hC dX5_isExcluded_0 rfl (jrf_ref _) ?_
  refine j_get (v := .int (nI (sOut S))) hC kf_X5_50 dX5_isExcluded_1 (u1) (rfl) ?_
  refine j_aload_n hC dX5_isExcluded_4 rfl (jrf_ref _) ?_
  refine j_get (v := .int (nI (q.1))) hC kf_X5_86 dX5_isExcluded_5 (o1) (rfl) ?_
  refine j_ishr hC dX5_isExcluded_8 ?_
  refine j_iconst (v := nI 1) hC dX5_isExcluded_9 (by decide) ?_
  refine j_iand hC dX5_isExcluded_10 ?_
  refine j_top (sh_bit (by omega) (by omega)) ?_
  refine n_if_eq (tgt := 18) hC dX5_isExcluded_11 (by decide) (by omega) (fun c1 => ?_) (fun c1 => ?_)
  · refine j_iconst (v := nI 0) hC dX5_isExcluded_18 (by decide) ?_
    exact j_iret hC9 rfl (rfl) dX5_isExcluded_19 ⟨(jv (jb_f0 (by rw [outA, tb_0 (by assumption)]; decide))), rfl⟩
  · refine j_iconst (v := nI 1) hC dX5_isExcluded_14 (by decide) ?_
    refine j_goto (tgt := 19) hC dX5_isExcluded_15 (by decide) ?_
    exact j_iret hC9 rfl (rfl) dX5_isExcluded_19 ⟨(jv (jb_t1 (tb_1 (by assumption)))), rfl⟩
set_option maxHeartbeats 4000000 in
set_option maxRecDepth 100000 in
theorem m_X5_entryAt0 {G : jG} {M : jM} {s i : Nat} {S : aSet} {xe : Nat → Nat} {ff : Nat → Value} {lay home : Nat} (hs : (gL G).stackTraces = false) (u1 : M.1 s = some (.inr (9, suF s lay home S))) (u2 : M.1 (s + 1) = some (.inl (.object RX1, 20, ff))) (hn20 : (sRecs S).length ≤ 20) (hi : i < (sRecs S).length) (u3 : ∀ r, r < (sRecs S).length → ff r = .ref (xe r) ∧ entR M.1 (xe r) (sAt S r)) : CM G M jX5_entryAt 0 0 0 [.ref s, .int (nI i)] (some (.ref (xe i))) (M) := by
  refine jMet_of [some (.ref (s)), some (.int (nI (i)))] (by decide) rfl (Nat.le_of_ble_eq_true rfl) (rfl) hs ?_
  intro C hC9 hG
  have hC := hC9.z
  have hs9 := jOK0_tr hC
  refine j_iload_n hC dX5_entryAt_0 rfl ?_
  refine n_if_lt (tgt := 21) hC dX5_entryAt_1 (by decide) (by omega) (fun c1 => ?_) (fun c1 => ?_)
  · exact (show False by omega).elim
  · refine j_iload_n hC dX5_entryAt_4 rfl ?_
    refine j_aload_n hC dX5_entryAt_5 rfl (jrf_ref _) ?_
    refine j_get (v := .int (nI ((sRecs S).length))) hC kf_X5_20 dX5_entryAt_6 (u1) (rfl) ?_
    refine n_icmp_ge (tgt := 21) hC dX5_entryAt_9 (by decide) (by omega) (by omega) (fun c2 => ?_) (fun c2 => ?_)
    · exact (show False by omega).elim
    · refine j_aload_n hC dX5_entryAt_12 rfl (jrf_ref _) ?_
      refine j_get (v := .ref (s + 1)) hC kf_X5_11 dX5_entryAt_13 (u1) (rfl) ?_
      refine j_iload_n hC dX5_entryAt_16 rfl ?_
      refine c_aald (i := i) (v := .ref (xe (i))) hC dX5_entryAt_17 (u2) rfl (by omega) (by omega) ((u3 (i) (by first | assumption | omega)).1) ?_
      refine j_goto (tgt := 22) hC dX5_entryAt_18 (by decide) ?_
      exact j_aret hC9 rfl (by first | exact Or.inl ⟨_, rfl⟩ | exact Or.inr ⟨_, rfl⟩) dX5_entryAt_22 ⟨rfl, rfl⟩ (jrf_ref _)
theorem m_X5_entryAt {G : jG} {M : jM} {s i : Nat} {S : aSet} (hs : (gL G).stackTraces = false) (h : suR M.1 M.1 s S) (hi : i < (sRecs S).length) : ∃ p, entR M.1 p (sAt S i) ∧ CM G M jX5_entryAt 0 0 0 [.ref s, .int (nI i)] (some (.ref p)) M := by
  obtain ⟨⟨lay, home, ff, xe, u1, u2, u5, u3, u6, u7⟩, u4⟩ := h
  exact ⟨xe i, (u3 i hi).2, m_X5_entryAt0 hs u1 u2 u4.1.1 hi u3⟩
set_option maxHeartbeats 4000000 in
set_option maxRecDepth 100000 in
theorem m_X5_entryAt_n {G : jG} {M : jM} {s : Nat} {S : aSet} {v : Int32} (hs : (gL G).stackTraces = false) (h : suR M.1 M.1 s S) (hv : ¬ jin v (sRecs S).length = true) : CM G M jX5_entryAt 0 0 0 [.ref s, .int v] (some .null) (M) := by
  refine jMet_of [some (.ref (s)), some (.int (v))] (by decide) rfl (Nat.le_of_ble_eq_true rfl) (rfl) hs ?_
  intro C hC9 hG
  have hC := hC9.z
  have hs9 := jOK0_tr hC
  obtain ⟨⟨lay, home, ff, xe, u1, u2, u5, u3, u6, u7⟩, u4⟩ := id h
  have hn20 : (sRecs S).length ≤ 20 := u4.1.1
  have hk32 : sKeys S < 32 := u4.1.2.1
  have hp3 : sPol S < 3 := u4.1.2.2.1
  have ho1 : sOut S < 1024 := u4.1.2.2.2.1
  have hl2 : sLim S ≤ 200 := u4.1.2.2.2.2.1.2
  have hen : ∀ r, r < (sRecs S).length → (sAt S r).1 < 10 ∧ (sAt S r).2.1 < 100 := fun r hr => ⟨(u3 r hr).2.2.1, (u3 r hr).2.2.2.1⟩
  refine j_iload_n hC dX5_entryAt_0 rfl ?_
  refine j_if_lt (tgt := 21) hC dX5_entryAt_1 (by decide) (fun c1 => ?_) (fun c1 => ?_)
  · refine j_null hC dX5_entryAt_21 ?_
    exact j_aret hC9 rfl (by first | exact Or.inl ⟨_, rfl⟩ | exact Or.inr ⟨_, rfl⟩) dX5_entryAt_22 ⟨rfl, rfl⟩ jrf_null
  · refine j_iload_n hC dX5_entryAt_4 rfl ?_
    refine j_aload_n hC dX5_entryAt_5 rfl (jrf_ref _) ?_
    refine j_get (v := .int (nI ((sRecs S).length))) hC kf_X5_20 dX5_entryAt_6 (u1) (rfl) ?_
    refine j_icmp_ge (tgt := 21) hC dX5_entryAt_9 (by decide) (fun c2 => ?_) (fun c2 => ?_)
    · refine j_null hC dX5_entryAt_21 ?_
      exact j_aret hC9 rfl (by first | exact Or.inl ⟨_, rfl⟩ | exact Or.inr ⟨_, rfl⟩) dX5_entryAt_22 ⟨rfl, rfl⟩ jrf_null
    · exact absurd (jin_c (by omega) (by assumption) (by assumption)) hv
set_option maxHeartbeats 4000000 in
set_option maxRecDepth 100000 in
theorem m_X5_areDuplicates {G : jG} {M : jM} {s a z : Nat} {S : aSet} {q r : aRec} (hs : (gL G).stackTraces = false) (h : suR M.1 M.1 s S) (ha : entR M.1 a q) (hz : entR M.1 z r) : CM G M jX5_areDuplicates 0 0 6 [.ref s, .ref a, .ref z] (some (.int (jb (dupA S q r 5 = true)))) (M) := by
  refine jMet_of [some (.ref (s)), some (.ref (a)), some (.ref (z)), none] (by decide) rfl (Nat.le_of_ble_eq_true rfl) (rfl) hs ?_
  intro C hC9 hG
  have hC := hC9.z
  have hs9 := jOK0_tr hC
  obtain ⟨⟨lay, home, ff, xe, u1, u2, u5, u3, u6, u7⟩, u4⟩ := id h
  have hn20 : (sRecs S).length ≤ 20 := u4.1.1
  have hk32 : sKeys S < 32 := u4.1.2.1
  have hp3 : sPol S < 3 := u4.1.2.2.1
  have ho1 : sOut S < 1024 := u4.1.2.2.2.1
  have hl2 : sLim S ≤ 200 := u4.1.2.2.2.2.1.2
  have hen : ∀ r, r < (sRecs S).length → (sAt S r).1 < 10 ∧ (sAt S r).2.1 < 100 := fun r hr => ⟨(u3 r hr).2.2.1, (u3 r hr).2.2.2.1⟩
  obtain ⟨b1, oa⟩ := ha.obj
  obtain ⟨b2, oz⟩ := hz.obj
  refine j_iconst (v := nI 0) hC dX5_areDuplicates_0 (by decide) ?_
  refine j_istore_n3 hC dX5_areDuplicates_1 (by decide) rfl ?_
  suffices K : ∀ (n9 : Nat) (f : Nat), 5 - f < n9 → (f ≤ 5) → (dupA S q r f = true) → J C (M) 0 0 2 [some (.ref (s)), some (.ref (a)), some (.ref (z)), some (.int (nI (f)))] [] from j_M (rfl) (K _ (0) (Nat.lt_succ_self _) (by omega) (rfl))
  intro n9
  induction n9 with
  | zero => intro f hm; omega
  | succ n9 ih =>
    intro f hm hf hd9
    refine j_iload_n hC dX5_areDuplicates_2 rfl ?_
    refine j_iconst (v := nI 5) hC dX5_areDuplicates_3 (by decide) ?_
    refine n_icmp_ge (tgt := 42) hC dX5_areDuplicates_4 (by decide) (by omega) (by omega) (fun c1 => ?_) (fun c1 => ?_)
    · refine j_iconst (v := nI 1) hC dX5_areDuplicates_42 (by decide) ?_
      exact j_iret hC9 rfl (rfl) dX5_areDuplicates_43 ⟨(jv (jb_t1 (by rw [show f = 5 by omega] at hd9; exact hd9))), rfl⟩
    · refine j_aload_n hC dX5_areDuplicates_7 rfl (jrf_ref _) ?_
      refine j_get (v := .int (nI (sKeys S))) hC kf_X5_44 dX5_areDuplicates_8 (u1) (rfl) ?_
      refine j_iload_n hC dX5_areDuplicates_11 rfl ?_
      refine j_ishr hC dX5_areDuplicates_12 ?_
      refine j_iconst (v := nI 1) hC dX5_areDuplicates_13 (by decide) ?_
      refine j_iand hC dX5_areDuplicates_14 ?_
      refine j_top (sh_bit (by omega) (by omega)) ?_
      refine n_if_eq (tgt := 36) hC dX5_areDuplicates_15 (by decide) (by omega) (fun c2 => ?_) (fun c2 => ?_)
      · refine j_iinc_3 (v := nI (f + 1)) hC dX5_areDuplicates_36 (nI_add _ _) (by decide) rfl ?_
        refine j_goto (tgt := 2) hC dX5_areDuplicates_39 (by decide) ?_
        exact j_M (rfl) (ih (f + 1) (by omega) (by omega) (dup_t hd9 (by first | exact Or.inl (by assumption) | exact Or.inr (by assumption))))
      · refine j_aload_n hC dX5_areDuplicates_18 rfl (jrf_ref _) ?_
        refine j_iload_n hC dX5_areDuplicates_19 rfl ?_
        obtain ⟨p3, hp3, mp3⟩ := m_X1_textAt (f := f) hs9 ha (by omega)
        obtain ⟨fp3, op3⟩ := hp3.obj
        have lp3 := (ha.2.2.2 (f) (by omega)).1
        refine c_V hC kv_X5_74 dX5_areDuplicates_20 (mp3) (oa) rfl rfl rfl rfl (by decide) (Nat.le_of_ble_eq_true rfl) ?_
        refine j_aload_n hC dX5_areDuplicates_23 rfl (jrf_ref _) ?_
        refine j_iload_n hC dX5_areDuplicates_24 rfl ?_
        obtain ⟨p4, hp4, mp4⟩ := m_X1_textAt (f := f) hs9 hz (by omega)
        obtain ⟨fp4, op4⟩ := hp4.obj
        have lp4 := (hz.2.2.2 (f) (by omega)).1
        refine c_V hC kv_X5_74 dX5_areDuplicates_25 (mp4) (oz) rfl rfl rfl rfl (by decide) (Nat.le_of_ble_eq_true rfl) ?_
        refine c_V hC kv_X5_78 dX5_areDuplicates_28 (m_X8_isSameAs hs9 hp3 hp4) (op3) rfl rfl rfl rfl (by decide) (Nat.le_of_ble_eq_true rfl) ?_
        refine jb_if_ne (tgt := 36) hC dX5_areDuplicates_31 (by decide) (fun c5 => ?_) (fun c5 => ?_)
        · refine j_iinc_3 (v := nI (f + 1)) hC dX5_areDuplicates_36 (nI_add _ _) (by decide) rfl ?_
          refine j_goto (tgt := 2) hC dX5_areDuplicates_39 (by decide) ?_
          exact j_M (rfl) (ih (f + 1) (by omega) (by omega) (dup_t hd9 (by first | exact Or.inl (by assumption) | exact Or.inr (by assumption))))
        · refine j_iconst (v := nI 0) hC dX5_areDuplicates_34 (by decide) ?_
          exact j_iret hC9 rfl (rfl) dX5_areDuplicates_35 ⟨(jv (jb_f0 (dup_f (by assumption) (by assumption) 5 (by omega)))), rfl⟩
set_option maxHeartbeats 4000000 in
set_option maxRecDepth 100000 in
theorem m_X5_keptOf {G : jG} {M : jM} {s r p : Nat} {S : aSet} {b : Bool} (hs : (gL G).stackTraces = false) (h : suR M.1 M.1 s S) (hr : r < (sRecs S).length) (hpp : p ≤ 2) : CM G M jX5_keptOf 0 0 7 [.ref s, .int (nI r), .int (nI p), .int (jb (b = true))] (some (.int (zI (optZ (keptC S r p b))))) (M) := by
  refine jMet_of [some (.ref (s)), some (.int (nI (r))), some (.int (nI (p))), some (.int (jb (b = true))), none, none, none, none] (by decide) rfl (Nat.le_of_ble_eq_true rfl) (rfl) hs ?_
  intro C hC9 hG
  have hC := hC9.z
  have hs9 := jOK0_tr hC
  obtain ⟨⟨lay, home, ff, xe, u1, u2, u5, u3, u6, u7⟩, u4⟩ := id h
  have hn20 : (sRecs S).length ≤ 20 := u4.1.1
  have hk32 : sKeys S < 32 := u4.1.2.1
  have hp3 : sPol S < 3 := u4.1.2.2.1
  have ho1 : sOut S < 1024 := u4.1.2.2.2.1
  have hl2 : sLim S ≤ 200 := u4.1.2.2.2.2.1.2
  have hen : ∀ r, r < (sRecs S).length → (sAt S r).1 < 10 ∧ (sAt S r).2.1 < 100 := fun r hr => ⟨(u3 r hr).2.2.1, (u3 r hr).2.2.2.1⟩
  have hr9 := (u3 r hr).2
  obtain ⟨b1, or9⟩ := hr9.obj
  refine j_aload_n hC dX5_keptOf_0 rfl (jrf_ref _) ?_
  refine j_get (v := .int (nI (sKeys S))) hC kf_X5_44 dX5_keptOf_1 (u1) (rfl) ?_
  refine n_if_eq (tgt := 20) hC dX5_keptOf_4 (by decide) (by omega) (fun c1 => ?_) (fun c1 => ?_)
  · refine j_iload_n hC dX5_keptOf_20 rfl ?_
    exact j_iret hC9 rfl (rfl) dX5_keptOf_21 ⟨(jv (by first | (rw [keptC, if_pos (Or.inl (by assumption))]; rfl) | (rw [keptC, if_pos (Or.inr (by assumption))]; rfl))), rfl⟩
  · refine j_aload_n hC dX5_keptOf_7 rfl (jrf_ref _) ?_
    refine j_aload_n hC dX5_keptOf_8 rfl (jrf_ref _) ?_
    refine j_get (v := .ref (s + 1)) hC kf_X5_11 dX5_keptOf_9 (u1) (rfl) ?_
    refine j_iload_n hC dX5_keptOf_12 rfl ?_
    refine c_aald (i := r) (v := .ref (xe (r))) hC dX5_keptOf_13 (u2) rfl (by omega) (by omega) ((u3 (r) (by first | assumption | omega)).1) ?_
    refine c_V hC kv_X5_89 dX5_keptOf_14 (m_X5_isExcluded hs9 h hr9) (u1) rfl rfl rfl rfl (by decide) (Nat.le_of_ble_eq_true rfl) ?_
    refine jb_if_eq (tgt := 22) hC dX5_keptOf_17 (by decide) (fun c2 => ?_) (fun c2 => ?_)
    · have hk0 : ¬ sKeys S = 0 := by omega
      have hout : ¬ outA S (sAt S r) = true := by assumption
      refine j_iconst (v := zI (-1)) hC dX5_keptOf_22 (by decide) ?_
      refine j_istore_4 hC dX5_keptOf_23 (by decide) rfl ?_
      refine j_iconst (v := nI 0) hC dX5_keptOf_25 (by decide) ?_
      refine j_istore_5 hC dX5_keptOf_26 (by decide) rfl ?_
      suffices K : ∀ (n9 : Nat) (k : Nat) (x : Option Nat), (sRecs S).length - k < n9 → (k ≤ (sRecs S).length) → (x = keptTo S r p b k) → J C (M) 0 0 28 [some (.ref (s)), some (.int (nI (r))), some (.int (nI (p))), some (.int (jb (b = true))), some (.int (zI (optZ x))), some (.int (nI (k))), none, none] [] from j_M (rfl) (K _ (0) (none) (Nat.lt_succ_self _) (Nat.zero_le _) (rfl))
      intro n9
      induction n9 with
      | zero => intro k x hm; omega
      | succ n9 ih =>
        intro k x hm hk hx
        have hzx := optZ_zB (fun m hm => keptTo_lt (m := m) hk (hx.symm.trans hm))
        refine j_iload hC dX5_keptOf_28 rfl ?_
        refine j_aload_n hC dX5_keptOf_30 rfl (jrf_ref _) ?_
        refine j_get (v := .int (nI ((sRecs S).length))) hC kf_X5_20 dX5_keptOf_31 (u1) (rfl) ?_
        refine n_icmp_ge (tgt := 164) hC dX5_keptOf_34 (by decide) (by omega) (by omega) (fun c3 => ?_) (fun c3 => ?_)
        · refine j_iload hC dX5_keptOf_164 rfl ?_
          exact j_iret hC9 rfl (rfl) dX5_keptOf_166 ⟨(jv (by rw [keptC, if_neg (fun e => e.elim hk0 hout), hx, show k = (sRecs S).length by omega]; rfl)), rfl⟩
        · suffices K : J C (M) 0 0 55 [some (.ref (s)), some (.int (nI (r))), some (.int (nI (p))), some (.int (jb (b = true))), some (.int (zI (optZ x))), some (.int (nI (k))), none, none] [.int (nI (if b = true then (sRecs S).length - 1 - k else k))] by
            refine j_iload_n hC dX5_keptOf_37 rfl ?_
            refine jb_if_eq (tgt := 53) hC dX5_keptOf_38 (by decide) (fun c4 => ?_) (fun c4 => ?_)
            · refine j_iload hC dX5_keptOf_53 rfl ?_
              exact j_top (by first | rw [if_pos (by assumption)] | rw [if_neg (by assumption)]) K
            · refine j_aload_n hC dX5_keptOf_41 rfl (jrf_ref _) ?_
              refine j_get (v := .int (nI ((sRecs S).length))) hC kf_X5_20 dX5_keptOf_42 (u1) (rfl) ?_
              refine j_iconst (v := nI 1) hC dX5_keptOf_45 (by decide) ?_
              refine n_isub hC dX5_keptOf_46 (by omega) ?_
              refine j_iload hC dX5_keptOf_47 rfl ?_
              refine n_isub hC dX5_keptOf_49 (by omega) ?_
              refine j_goto (tgt := 55) hC dX5_keptOf_50 (by decide) ?_
              exact j_top (by first | rw [if_pos (by assumption)] | rw [if_neg (by assumption)]) K
          refine j_istore_6 hC dX5_keptOf_55 (by decide) rfl ?_
          have hq : (if b = true then (sRecs S).length - 1 - k else k) < (sRecs S).length := by split <;> omega
          have hq2 := hen _ hq
          have hq3 := (u3 _ hq).2
          obtain ⟨b3, oq3⟩ := hq3.obj
          refine j_aload_n hC dX5_keptOf_57 rfl (jrf_ref _) ?_
          refine j_aload_n hC dX5_keptOf_58 rfl (jrf_ref _) ?_
          refine j_get (v := .ref (s + 1)) hC kf_X5_11 dX5_keptOf_59 (u1) (rfl) ?_
          refine j_iload hC dX5_keptOf_62 rfl ?_
          refine c_aald (i := if b = true then (sRecs S).length - 1 - k else k) (v := .ref (xe (if b = true then (sRecs S).length - 1 - k else k))) hC dX5_keptOf_64 (u2) rfl (by omega) (by omega) ((u3 (if b = true then (sRecs S).length - 1 - k else k) (by first | assumption | omega)).1) ?_
          refine c_V hC kv_X5_89 dX5_keptOf_65 (m_X5_isExcluded hs9 h hq3) (u1) rfl rfl rfl rfl (by decide) (Nat.le_of_ble_eq_true rfl) ?_
          refine jb_if_ne (tgt := 158) hC dX5_keptOf_68 (by decide) (fun c5 => ?_) (fun c5 => ?_)
          · refine j_iinc_5 (v := nI (k + 1)) hC dX5_keptOf_158 (nI_add _ _) (by decide) rfl ?_
            refine j_goto (tgt := 28) hC dX5_keptOf_161 (by decide) ?_
            exact j_M (rfl) (j_L (jle_s (jle_s (jle_s (jle_s (jle_s (jle_s (jle_n (jle_s (jle_0))))))))) (ih (k + 1) (x) (by omega) (by omega) (by rw [keptTo_s, ← hx]; first | exact ks_skip (Or.inl (by assumption)) | exact ks_skip (Or.inr (by assumption)) | exact ks_new (by assumption) (by assumption) | exact ks_rep (by assumption) (by assumption) (by omega) | exact ks_old (by assumption) (by assumption) (by omega))))
          · refine j_aload_n hC dX5_keptOf_71 rfl (jrf_ref _) ?_
            refine j_aload_n hC dX5_keptOf_72 rfl (jrf_ref _) ?_
            refine j_get (v := .ref (s + 1)) hC kf_X5_11 dX5_keptOf_73 (u1) (rfl) ?_
            refine j_iload hC dX5_keptOf_76 rfl ?_
            refine c_aald (i := if b = true then (sRecs S).length - 1 - k else k) (v := .ref (xe (if b = true then (sRecs S).length - 1 - k else k))) hC dX5_keptOf_78 (u2) rfl (by omega) (by omega) ((u3 (if b = true then (sRecs S).length - 1 - k else k) (by first | assumption | omega)).1) ?_
            refine j_aload_n hC dX5_keptOf_79 rfl (jrf_ref _) ?_
            refine j_get (v := .ref (s + 1)) hC kf_X5_11 dX5_keptOf_80 (u1) (rfl) ?_
            refine j_iload_n hC dX5_keptOf_83 rfl ?_
            refine c_aald (i := r) (v := .ref (xe (r))) hC dX5_keptOf_84 (u2) rfl (by omega) (by omega) ((u3 (r) (by first | assumption | omega)).1) ?_
            refine c_V hC kv_X5_93 dX5_keptOf_85 (m_X5_areDuplicates hs9 h hq3 hr9) (u1) rfl rfl rfl rfl (by decide) (Nat.le_of_ble_eq_true rfl) ?_
            refine j_top (by rw [dup_like hk0 5]) ?_
            refine jb_if_ne (tgt := 94) hC dX5_keptOf_88 (by decide) (fun c6 => ?_) (fun c6 => ?_)
            · refine j_iload_n hC dX5_keptOf_94 rfl ?_
              refine j_iconst (v := nI 1) hC dX5_keptOf_95 (by decide) ?_
              refine n_icmp_eq (tgt := 132) hC dX5_keptOf_96 (by decide) (by omega) (by omega) (fun c7 => ?_) (fun c7 => ?_)
              · refine j_iconst (v := nI 1) hC dX5_keptOf_132 (by decide) ?_
                refine j_goto (tgt := 137) hC dX5_keptOf_133 (by decide) ?_
                refine j_istore_7 hC dX5_keptOf_137 (by decide) rfl ?_
                refine j_iload hC dX5_keptOf_139 rfl ?_
                refine z_if_lt (a := (optZ x)) (tgt := 149) hC dX5_keptOf_141 (by decide) (by unfold zB; omega) (fun c8 => ?_) (fun c8 => ?_)
                · obtain rfl := optZ_none (x := x) (by assumption)
                  refine j_iload hC dX5_keptOf_149 rfl ?_
                  refine j_goto (tgt := 156) hC dX5_keptOf_151 (by decide) ?_
                  refine j_istore_4 hC dX5_keptOf_156 (by decide) rfl ?_
                  refine j_iinc_5 (v := nI (k + 1)) hC dX5_keptOf_158 (nI_add _ _) (by decide) rfl ?_
                  refine j_goto (tgt := 28) hC dX5_keptOf_161 (by decide) ?_
                  exact j_M (rfl) (j_L (jle_s (jle_s (jle_s (jle_s (jle_s (jle_s (jle_n (jle_n (jle_0))))))))) (ih (k + 1) ((some (if b = true then (sRecs S).length - 1 - k else k))) (by omega) (by omega) (by rw [keptTo_s, ← hx]; first | exact ks_skip (Or.inl (by assumption)) | exact ks_skip (Or.inr (by assumption)) | exact ks_new (by assumption) (by assumption) | exact ks_rep (by assumption) (by assumption) (by omega) | exact ks_old (by assumption) (by assumption) (by omega))))
                · refine j_iload hC dX5_keptOf_144 rfl ?_
                  refine n_if_eq (tgt := 154) hC dX5_keptOf_146 (by decide) (by omega) (fun c9 => ?_) (fun c9 => ?_)
                  · exact absurd c9 (by decide)
                  · obtain ⟨m, rfl⟩ := optZ_some (x := x) (by assumption)
                    refine j_iload hC dX5_keptOf_149 rfl ?_
                    refine j_goto (tgt := 156) hC dX5_keptOf_151 (by decide) ?_
                    refine j_istore_4 hC dX5_keptOf_156 (by decide) rfl ?_
                    refine j_iinc_5 (v := nI (k + 1)) hC dX5_keptOf_158 (nI_add _ _) (by decide) rfl ?_
                    refine j_goto (tgt := 28) hC dX5_keptOf_161 (by decide) ?_
                    exact j_M (rfl) (j_L (jle_s (jle_s (jle_s (jle_s (jle_s (jle_s (jle_n (jle_n (jle_0))))))))) (ih (k + 1) ((some (if b = true then (sRecs S).length - 1 - k else k))) (by omega) (by omega) (by rw [keptTo_s, ← hx]; first | exact ks_skip (Or.inl (by assumption)) | exact ks_skip (Or.inr (by assumption)) | exact ks_new (by assumption) (by assumption) | exact ks_rep (by assumption) (by assumption) (by omega) | exact ks_old (by assumption) (by assumption) (by omega))))
              · refine j_iload_n hC dX5_keptOf_99 rfl ?_
                refine j_iconst (v := nI 2) hC dX5_keptOf_100 (by decide) ?_
                refine n_icmp_ne (tgt := 136) hC dX5_keptOf_101 (by decide) (by omega) (by omega) (fun c10 => ?_) (fun c10 => ?_)
                · refine j_iconst (v := nI 0) hC dX5_keptOf_136 (by decide) ?_
                  refine j_istore_7 hC dX5_keptOf_137 (by decide) rfl ?_
                  refine j_iload hC dX5_keptOf_139 rfl ?_
                  refine z_if_lt (a := (optZ x)) (tgt := 149) hC dX5_keptOf_141 (by decide) (by unfold zB; omega) (fun c11 => ?_) (fun c11 => ?_)
                  · obtain rfl := optZ_none (x := x) (by assumption)
                    refine j_iload hC dX5_keptOf_149 rfl ?_
                    refine j_goto (tgt := 156) hC dX5_keptOf_151 (by decide) ?_
                    refine j_istore_4 hC dX5_keptOf_156 (by decide) rfl ?_
                    refine j_iinc_5 (v := nI (k + 1)) hC dX5_keptOf_158 (nI_add _ _) (by decide) rfl ?_
                    refine j_goto (tgt := 28) hC dX5_keptOf_161 (by decide) ?_
                    exact j_M (rfl) (j_L (jle_s (jle_s (jle_s (jle_s (jle_s (jle_s (jle_n (jle_n (jle_0))))))))) (ih (k + 1) ((some (if b = true then (sRecs S).length - 1 - k else k))) (by omega) (by omega) (by rw [keptTo_s, ← hx]; first | exact ks_skip (Or.inl (by assumption)) | exact ks_skip (Or.inr (by assumption)) | exact ks_new (by assumption) (by assumption) | exact ks_rep (by assumption) (by assumption) (by omega) | exact ks_old (by assumption) (by assumption) (by omega))))
                  · refine j_iload hC dX5_keptOf_144 rfl ?_
                    refine n_if_eq (tgt := 154) hC dX5_keptOf_146 (by decide) (by omega) (fun c12 => ?_) (fun c12 => ?_)
                    · obtain ⟨m, rfl⟩ := optZ_some (x := x) (by assumption)
                      refine j_iload hC dX5_keptOf_154 rfl ?_
                      refine j_istore_4 hC dX5_keptOf_156 (by decide) rfl ?_
                      refine j_iinc_5 (v := nI (k + 1)) hC dX5_keptOf_158 (nI_add _ _) (by decide) rfl ?_
                      refine j_goto (tgt := 28) hC dX5_keptOf_161 (by decide) ?_
                      exact j_M (rfl) (j_L (jle_s (jle_s (jle_s (jle_s (jle_s (jle_s (jle_n (jle_n (jle_0))))))))) (ih (k + 1) ((some (m))) (by omega) (by omega) (by rw [keptTo_s, ← hx]; first | exact ks_skip (Or.inl (by assumption)) | exact ks_skip (Or.inr (by assumption)) | exact ks_new (by assumption) (by assumption) | exact ks_rep (by assumption) (by assumption) (by omega) | exact ks_old (by assumption) (by assumption) (by omega))))
                    · exact absurd c12 (by decide)
                · refine j_iload hC dX5_keptOf_104 rfl ?_
                  refine z_if_lt (a := (optZ x)) (tgt := 136) hC dX5_keptOf_106 (by decide) (by unfold zB; omega) (fun c13 => ?_) (fun c13 => ?_)
                  · refine j_iconst (v := nI 0) hC dX5_keptOf_136 (by decide) ?_
                    refine j_istore_7 hC dX5_keptOf_137 (by decide) rfl ?_
                    refine j_iload hC dX5_keptOf_139 rfl ?_
                    refine z_if_lt (a := (optZ x)) (tgt := 149) hC dX5_keptOf_141 (by decide) (by unfold zB; omega) (fun c14 => ?_) (fun c14 => ?_)
                    · obtain rfl := optZ_none (x := x) (by assumption)
                      refine j_iload hC dX5_keptOf_149 rfl ?_
                      refine j_goto (tgt := 156) hC dX5_keptOf_151 (by decide) ?_
                      refine j_istore_4 hC dX5_keptOf_156 (by decide) rfl ?_
                      refine j_iinc_5 (v := nI (k + 1)) hC dX5_keptOf_158 (nI_add _ _) (by decide) rfl ?_
                      refine j_goto (tgt := 28) hC dX5_keptOf_161 (by decide) ?_
                      exact j_M (rfl) (j_L (jle_s (jle_s (jle_s (jle_s (jle_s (jle_s (jle_n (jle_n (jle_0))))))))) (ih (k + 1) ((some (if b = true then (sRecs S).length - 1 - k else k))) (by omega) (by omega) (by rw [keptTo_s, ← hx]; first | exact ks_skip (Or.inl (by assumption)) | exact ks_skip (Or.inr (by assumption)) | exact ks_new (by assumption) (by assumption) | exact ks_rep (by assumption) (by assumption) (by omega) | exact ks_old (by assumption) (by assumption) (by omega))))
                    · exact (show False by omega).elim
                  · obtain ⟨m, rfl⟩ := optZ_some (x := x) (by assumption)
                    have hm := keptTo_lt hk hx.symm
                    have hm2 := hen _ hm
                    have hm3 := (u3 _ hm).2
                    obtain ⟨b4, om3⟩ := hm3.obj
                    refine j_aload_n hC dX5_keptOf_109 rfl (jrf_ref _) ?_
                    refine j_get (v := .ref (s + 1)) hC kf_X5_11 dX5_keptOf_110 (u1) (rfl) ?_
                    refine j_iload hC dX5_keptOf_113 rfl ?_
                    refine c_aald (i := if b = true then (sRecs S).length - 1 - k else k) (v := .ref (xe (if b = true then (sRecs S).length - 1 - k else k))) hC dX5_keptOf_115 (u2) rfl (by omega) (by omega) ((u3 (if b = true then (sRecs S).length - 1 - k else k) (by first | assumption | omega)).1) ?_
                    refine j_get (v := .int (nI ((sAt S (if b = true then (sRecs S).length - 1 - k else k)).2.1))) hC kf_X5_97 dX5_keptOf_116 (oq3) (rfl) ?_
                    refine j_aload_n hC dX5_keptOf_119 rfl (jrf_ref _) ?_
                    refine j_get (v := .ref (s + 1)) hC kf_X5_11 dX5_keptOf_120 (u1) (rfl) ?_
                    refine j_iload hC dX5_keptOf_123 rfl ?_
                    refine c_aald (i := m) (v := .ref (xe (m))) hC dX5_keptOf_125 (u2) rfl (by omega) (by omega) ((u3 (m) (by first | assumption | omega)).1) ?_
                    refine j_get (v := .int (nI ((sAt S (m)).2.1))) hC kf_X5_97 dX5_keptOf_126 (om3) (rfl) ?_
                    refine n_icmp_le (tgt := 136) hC dX5_keptOf_129 (by decide) (by omega) (by omega) (fun c15 => ?_) (fun c15 => ?_)
                    · refine j_iconst (v := nI 0) hC dX5_keptOf_136 (by decide) ?_
                      refine j_istore_7 hC dX5_keptOf_137 (by decide) rfl ?_
                      refine j_iload hC dX5_keptOf_139 rfl ?_
                      refine n_if_lt (tgt := 149) hC dX5_keptOf_141 (by decide) (by omega) (fun c16 => ?_) (fun c16 => ?_)
                      · exact (show False by omega).elim
                      · refine j_iload hC dX5_keptOf_144 rfl ?_
                        refine n_if_eq (tgt := 154) hC dX5_keptOf_146 (by decide) (by omega) (fun c17 => ?_) (fun c17 => ?_)
                        · refine j_iload hC dX5_keptOf_154 rfl ?_
                          refine j_istore_4 hC dX5_keptOf_156 (by decide) rfl ?_
                          refine j_iinc_5 (v := nI (k + 1)) hC dX5_keptOf_158 (nI_add _ _) (by decide) rfl ?_
                          refine j_goto (tgt := 28) hC dX5_keptOf_161 (by decide) ?_
                          exact j_M (rfl) (j_L (jle_s (jle_s (jle_s (jle_s (jle_s (jle_s (jle_n (jle_n (jle_0))))))))) (ih (k + 1) ((some (m))) (by omega) (by omega) (by rw [keptTo_s, ← hx]; first | exact ks_skip (Or.inl (by assumption)) | exact ks_skip (Or.inr (by assumption)) | exact ks_new (by assumption) (by assumption) | exact ks_rep (by assumption) (by assumption) (by omega) | exact ks_old (by assumption) (by assumption) (by omega))))
                        · exact absurd c17 (by decide)
                    · refine j_iconst (v := nI 1) hC dX5_keptOf_132 (by decide) ?_
                      refine j_goto (tgt := 137) hC dX5_keptOf_133 (by decide) ?_
                      refine j_istore_7 hC dX5_keptOf_137 (by decide) rfl ?_
                      refine j_iload hC dX5_keptOf_139 rfl ?_
                      refine n_if_lt (tgt := 149) hC dX5_keptOf_141 (by decide) (by omega) (fun c18 => ?_) (fun c18 => ?_)
                      · exact (show False by omega).elim
                      · refine j_iload hC dX5_keptOf_144 rfl ?_
                        refine n_if_eq (tgt := 154) hC dX5_keptOf_146 (by decide) (by omega) (fun c19 => ?_) (fun c19 => ?_)
                        · exact absurd c19 (by decide)
                        · refine j_iload hC dX5_keptOf_149 rfl ?_
                          refine j_goto (tgt := 156) hC dX5_keptOf_151 (by decide) ?_
                          refine j_istore_4 hC dX5_keptOf_156 (by decide) rfl ?_
                          refine j_iinc_5 (v := nI (k + 1)) hC dX5_keptOf_158 (nI_add _ _) (by decide) rfl ?_
                          refine j_goto (tgt := 28) hC dX5_keptOf_161 (by decide) ?_
                          exact j_M (rfl) (j_L (jle_s (jle_s (jle_s (jle_s (jle_s (jle_s (jle_n (jle_n (jle_0))))))))) (ih (k + 1) ((some (if b = true then (sRecs S).length - 1 - k else k))) (by omega) (by omega) (by rw [keptTo_s, ← hx]; first | exact ks_skip (Or.inl (by assumption)) | exact ks_skip (Or.inr (by assumption)) | exact ks_new (by assumption) (by assumption) | exact ks_rep (by assumption) (by assumption) (by omega) | exact ks_old (by assumption) (by assumption) (by omega))))
            · refine j_goto (tgt := 158) hC dX5_keptOf_91 (by decide) ?_
              refine j_iinc_5 (v := nI (k + 1)) hC dX5_keptOf_158 (nI_add _ _) (by decide) rfl ?_
              refine j_goto (tgt := 28) hC dX5_keptOf_161 (by decide) ?_
              exact j_M (rfl) (j_L (jle_s (jle_s (jle_s (jle_s (jle_s (jle_s (jle_n (jle_s (jle_0))))))))) (ih (k + 1) (x) (by omega) (by omega) (by rw [keptTo_s, ← hx]; first | exact ks_skip (Or.inl (by assumption)) | exact ks_skip (Or.inr (by assumption)) | exact ks_new (by assumption) (by assumption) | exact ks_rep (by assumption) (by assumption) (by omega) | exact ks_old (by assumption) (by assumption) (by omega))))
    · refine j_iload_n hC dX5_keptOf_20 rfl ?_
      exact j_iret hC9 rfl (rfl) dX5_keptOf_21 ⟨(jv (by first | (rw [keptC, if_pos (Or.inl (by assumption))]; rfl) | (rw [keptC, if_pos (Or.inr (by assumption))]; rfl))), rfl⟩
