/-! ===== setups ===== -/
def entV (Z : jH) (v : Value) : Prop := v = .null ∨ ∃ (p : Nat) (q : aRec), v = .ref p ∧ entR Z p q
def suF (s lay home : Nat) (S : aSet) : List Value := [.ref (s + 1), .int (nI (sRecs S).length), .ref lay, .ref home, .int (nI (sKeys S)), .int (nI (sPol S)), .int (nI (sOut S)), .int (nI (sLim S))]
/-- the setup at s means S: its own two objects in H, what never changes in Z -/
def suR (H Z : jH) (s : Nat) (S : aSet) : Prop := (∃ (lay home : Nat) (f : Nat → Value) (xe : Nat → Nat), H s = some (.inr (9, suF s lay home S)) ∧ H (s + 1) = some (.inl (.object RX1, 20, f)) ∧ (∀ i, i < 20 → entV Z (f i)) ∧ (∀ r, r < (sRecs S).length → f r = .ref (xe r) ∧ entR Z (xe r) (sAt S r)) ∧ layR Z lay (sTmpl S) ∧ txtR Z home (sHome S)) ∧ setG S
theorem entV.mono {Z H : jH} {v : Value} (hz : sub Z H) (h : entV Z v) : entV H v := by
  rcases h with h | ⟨p, q, h1, h2⟩
  · exact Or.inl h
  · exact Or.inr ⟨p, q, h1, h2.mono hz⟩
theorem suR.mono {H Z Z' : jH} {s : Nat} {S : aSet} (hz : sub Z Z') (h : suR H Z s S) : suR H Z' s S := by
  obtain ⟨⟨lay, home, f, xe, h1, h2, h3, h4, h5, h6⟩, h7⟩ := h
  exact ⟨⟨lay, home, f, xe, h1, h2, fun i hi => (h3 i hi).mono hz, fun r hr => ⟨(h4 r hr).1, (h4 r hr).2.mono hz⟩, h5.mono hz, h6.mono hz⟩, h7⟩
theorem suR.at {H H' Z : jH} {s : Nat} {S : aSet} (h0 : H' s = H s) (h1 : H' (s + 1) = H (s + 1)) (h : suR H Z s S) : suR H' Z s S := by
  obtain ⟨⟨lay, home, f, xe, g1, g2, g3⟩, g4⟩ := h
  exact ⟨⟨lay, home, f, xe, h0.trans g1, h1.trans g2, g3⟩, g4⟩
/-- the fields of two records are the same where there is a key, among the first f -/
def dupA (S : aSet) (q r : aRec) : Nat → Bool
  | 0 => true
  | f + 1 => dupA S q r f && (!((sKeys S).testBit f) || sameT (q.2.2 f) (r.2.2 f))
theorem same_sym {t u : List Nat} : sameT t u = sameT u t := by
  unfold sameT
  exact decide_eq_decide.mpr eq_comm
theorem dup_like {S : aSet} {i j : Nat} (hk : ¬ sKeys S = 0) : ∀ f, dupA S (sAt S j) (sAt S i) f = likeA S i j f
  | 0 => by
    rw [dupA, likeA]
    exact (decide_eq_true (Or.inl hk)).symm
  | f + 1 => by rw [dupA, likeA, dup_like hk f, same_sym]
section DU
variable {S : aSet} {q r : aRec} {f : Nat}
theorem dup_t (h : dupA S q r f = true) (h2 : sKeys S / 2 ^ f % 2 = 0 ∨ sameT (q.2.2 f) (r.2.2 f) = true) : dupA S q r (f + 1) = true := by
  rw [dupA, h, Bool.true_and, Bool.or_eq_true]
  exact h2.elim (fun e => Or.inl (by rw [tb_0 e]; rfl)) Or.inr
theorem dup_f (h1 : ¬ sKeys S / 2 ^ f % 2 = 0) (h2 : ¬ sameT (q.2.2 f) (r.2.2 f) = true) : ∀ n, f < n → ¬ dupA S q r n = true
  | 0, h => absurd h (Nat.not_lt_zero _)
  | n + 1, h => by
    rw [dupA, Bool.and_eq_true, Bool.or_eq_true]
    intro e
    by_cases hn : f < n
    · exact dup_f h1 h2 n hn e.1
    · obtain rfl : f = n := by omega
      rcases e.2 with h3 | h3
      · rw [tb_1 h1] at h3; exact absurd h3 (by decide)
      · exact h2 h3
end DU
/-- the record that the class keeps -/
def keptC (S : aSet) (r p : Nat) (b : Bool) : Option Nat := if sKeys S = 0 ∨ outA S (sAt S r) = true then some r else keptA S r p b
set_option maxHeartbeats 4000000 in
set_option maxRecDepth 100000 in
theorem m_X5_isExcluded {G : jG} {M : jM} {s z : Nat} {S : aSet} {q : aRec} (hs : (gL G).stackTraces = false) (h : suR M.1 M.1 s S) (hz : entR M.1 z q) : CM G M jX5_isExcluded 0 0 0 [.ref s, .ref z] (some (.int (jb (outA S q = true)))) (M) := by
  refine jMet_of [some (.ref (s)), some (.ref (z))] (by decide) rfl (Nat.le_of_ble_eq_true rfl) (rfl) hs ?_
  intro C hC9 hG
  have hC := hC9.z
  have hs9 := jOK0_tr hC
  obtain ⟨⟨lay, home, ff, xe, u1, u2, u5, u3, u6, u7⟩, u4⟩ := id h
  have hn20 : (sRecs S).length ≤ 20 := u4.1.1
  have hk32 : sKeys S < 32 := u4.1.2.1
  have hp3 : sPol S < 3 := u4.1.2.2.1
  have ho1 : sOut S < 1024 := u4.1.2.2.2.1
  have hl2 : sLim S ≤ 200 := u4.1.2.2.2.2.1.2
  have hen : ∀ r, r < (sRecs S).length → (sAt S r).1 < 10 ∧ (sAt S r).2.1 < 100 := fun r hr => ⟨(u3 r hr).2.2.1, (u3 r hr).2.2.2.1⟩
  obtain ⟨b2, o1⟩ := hz.obj
  have hg := hz.2.1
  refine j_aload_n hC dX5_isExcluded_0 rfl (jrf_ref _) ?_
  refine j_get (v := .int (nI (sOut S))) hC kf_X5_50 dX5_isExcluded_1 (u1) (rfl) ?_
  refine j_aload_n hC dX5_isExcluded_4 rfl (jrf_ref _) ?_
  refine j_get (v := .int (nI (q.1))) hC kf_X5_94 dX5_isExcluded_5 (o1) (rfl) ?_
  refine j_ishr hC dX5_isExcluded_8 ?_
  refine j_iconst (v := nI 1) hC dX5_isExcluded_9 (by decide) ?_
  refine j_iand hC dX5_isExcluded_10 ?_
  refine j_top (sh_bit (by omega) (by omega)) ?_
  refine n_if_eq (tgt := 18) hC dX5_isExcluded_11 (by decide) (by omega) (fun c1 => ?_) (fun c1 => ?_)
  · refine j_iconst (v := nI 0) hC dX5_isExcluded_18 (by decide) ?_
    exact j_iret hC9 rfl (rfl) dX5_isExcluded_19 ⟨(jv (jb_f0 (by rw [outA, tb_0 (by assumption)]; decide))), rfl⟩
  · refine j_iconst (v := nI 1) hC dX5_isExcluded_14 (by decide) ?_
    refine j_goto (tgt := 19) hC dX5_isExcluded_15 (by decide) ?_
    exact j_iret hC9 rfl (rfl) dX5_isExcluded_19 ⟨(jv (jb_t1 (tb_1 (by assumption)))), rfl⟩
set_option maxHeartbeats 4000000 in
set_option maxRecDepth 100000 in
theorem m_X5_entryAt0 {G : jG} {M : jM} {s i : Nat} {S : aSet} {xe : Nat → Nat} {ff : Nat → Value} {lay home : Nat} (hs : (gL G).stackTraces = false) (u1 : M.1 s = some (.inr (9, suF s lay home S))) (u2 : M.1 (s + 1) = some (.inl (.object RX1, 20, ff))) (hn20 : (sRecs S).length ≤ 20) (hi : i < (sRecs S).length) (u3 : ∀ r, r < (sRecs S).length → ff r = .ref (xe r) ∧ entR M.1 (xe r) (sAt S r)) : CM G M jX5_entryAt 0 0 0 [.ref s, .int (nI i)] (some (.ref (xe i))) (M) := by
  refine jMet_of [some (.ref (s)), some (.int (nI (i)))] (by decide) rfl (Nat.le_of_ble_eq_true rfl) (rfl) hs ?_
  intro C hC9 hG
  have hC := hC9.z
  have hs9 := jOK0_tr hC
  refine j_iload_n hC dX5_entryAt_0 rfl ?_
  refine n_if_lt (tgt := 21) hC dX5_entryAt_1 (by decide) (by omega) (fun c1 => ?_) (fun c1 => ?_)
  · exact (show False by omega).elim
  · refine j_iload_n hC dX5_entryAt_4 rfl ?_
    refine j_aload_n hC dX5_entryAt_5 rfl (jrf_ref _) ?_
    refine j_get (v := .int (nI ((sRecs S).length))) hC kf_X5_20 dX5_entryAt_6 (u1) (rfl) ?_
    refine n_icmp_ge (tgt := 21) hC dX5_entryAt_9 (by decide) (by omega) (by omega) (fun c2 => ?_) (fun c2 => ?_)
    · exact (show False by omega).elim
    · refine j_aload_n hC dX5_entryAt_12 rfl (jrf_ref _) ?_
      refine j_get (v := .ref (s + 1)) hC kf_X5_11 dX5_entryAt_13 (u1) (rfl) ?_
      refine j_iload_n hC dX5_entryAt_16 rfl ?_
      refine c_aald (i := i) (v := .ref (xe (i))) hC dX5_entryAt_17 (u2) rfl (by omega) (by omega) ((u3 (i) (by first | assumption | omega)).1) ?_
      refine j_goto (tgt := 22) hC dX5_entryAt_18 (by decide) ?_
      exact j_aret hC9 rfl (by first | exact Or.inl ⟨_, rfl⟩ | exact Or.inr ⟨_, rfl⟩) dX5_entryAt_22 ⟨rfl, rfl⟩ (jrf_ref _)
theorem m_X5_entryAt {G : jG} {M : jM} {s i : Nat} {S : aSet} (hs : (gL G).stackTraces = false) (h : suR M.1 M.1 s S) (hi : i < (sRecs S).length) : ∃ p, entR M.1 p (sAt S i) ∧ CM G M jX5_entryAt 0 0 0 [.ref s, .int (nI i)] (some (.ref p)) M := by
  obtain ⟨⟨lay, home, ff, xe, u1, u2, u5, u3, u6, u7⟩, u4⟩ := h
  exact ⟨xe i, (u3 i hi).2, m_X5_entryAt0 hs u1 u2 u4.1.1 hi u3⟩
set_option maxHeartbeats 4000000 in
set_option maxRecDepth 100000 in
theorem m_X5_entryAt_n {G : jG} {M : jM} {s : Nat} {S : aSet} {v : Int32} (hs : (gL G).stackTraces = false) (h : suR M.1 M.1 s S) (hv : ¬ jin v (sRecs S).length = true) : CM G M jX5_entryAt 0 0 0 [.ref s, .int v] (some .null) (M) := by
  refine jMet_of [some (.ref (s)), some (.int (v))] (by decide) rfl (Nat.le_of_ble_eq_true rfl) (rfl) hs ?_
  intro C hC9 hG
  have hC := hC9.z
  have hs9 := jOK0_tr hC
  obtain ⟨⟨lay, home, ff, xe, u1, u2, u5, u3, u6, u7⟩, u4⟩ := id h
  have hn20 : (sRecs S).length ≤ 20 := u4.1.1
  have hk32 : sKeys S < 32 := u4.1.2.1
  have hp3 : sPol S < 3 := u4.1.2.2.1
  have ho1 : sOut S < 1024 := u4.1.2.2.2.1
  have hl2 : sLim S ≤ 200 := u4.1.2.2.2.2.1.2
  have hen : ∀ r, r < (sRecs S).length → (sAt S r).1 < 10 ∧ (sAt S r).2.1 < 100 := fun r hr => ⟨(u3 r hr).2.2.1, (u3 r hr).2.2.2.1⟩
  refine j_iload_n hC dX5_entryAt_0 rfl ?_
  refine j_if_lt (tgt := 21) hC dX5_entryAt_1 (by decide) (fun c1 => ?_) (fun c1 => ?_)
  · refine j_null hC dX5_entryAt_21 ?_
    exact j_aret hC9 rfl (by first | exact Or.inl ⟨_, rfl⟩ | exact Or.inr ⟨_, rfl⟩) dX5_entryAt_22 ⟨rfl, rfl⟩ jrf_null
  · refine j_iload_n hC dX5_entryAt_4 rfl ?_
    refine j_aload_n hC dX5_entryAt_5 rfl (jrf_ref _) ?_
    refine j_get (v := .int (nI ((sRecs S).length))) hC kf_X5_20 dX5_entryAt_6 (u1) (rfl) ?_
    refine j_icmp_ge (tgt := 21) hC dX5_entryAt_9 (by decide) (fun c2 => ?_) (fun c2 => ?_)
    · refine j_null hC dX5_entryAt_21 ?_
      exact j_aret hC9 rfl (by first | exact Or.inl ⟨_, rfl⟩ | exact Or.inr ⟨_, rfl⟩) dX5_entryAt_22 ⟨rfl, rfl⟩ jrf_null
    · exact absurd (jin_c (by omega) (by assumption) (by assumption)) hv
set_option maxHeartbeats 4000000 in
set_option maxRecDepth 100000 in
theorem m_X5_areDuplicates {G : jG} {M : jM} {s a z : Nat} {S : aSet} {q r : aRec} (hs : (gL G).stackTraces = false) (h : suR M.1 M.1 s S) (ha : entR M.1 a q) (hz : entR M.1 z r) : CM G M jX5_areDuplicates 0 0 6 [.ref s, .ref a, .ref z] (some (.int (jb (dupA S q r 5 = true)))) (M) := by
  refine jMet_of [some (.ref (s)), some (.ref (a)), some (.ref (z)), none] (by decide) rfl (Nat.le_of_ble_eq_true rfl) (rfl) hs ?_
  intro C hC9 hG
  have hC := hC9.z
  have hs9 := jOK0_tr hC
  obtain ⟨⟨lay, home, ff, xe, u1, u2, u5, u3, u6, u7⟩, u4⟩ := id h
  have hn20 : (sRecs S).length ≤ 20 := u4.1.1
  have hk32 : sKeys S < 32 := u4.1.2.1
  have hp3 : sPol S < 3 := u4.1.2.2.1
  have ho1 : sOut S < 1024 := u4.1.2.2.2.1
  have hl2 : sLim S ≤ 200 := u4.1.2.2.2.2.1.2
  have hen : ∀ r, r < (sRecs S).length → (sAt S r).1 < 10 ∧ (sAt S r).2.1 < 100 := fun r hr => ⟨(u3 r hr).2.2.1, (u3 r hr).2.2.2.1⟩
  obtain ⟨b1, oa⟩ := ha.obj
  obtain ⟨b2, oz⟩ := hz.obj
  refine j_iconst (v := nI 0) hC dX5_areDuplicates_0 (by decide) ?_
  refine j_istore_n3 hC dX5_areDuplicates_1 (by decide) rfl ?_
  suffices K : ∀ (n9 : Nat) (f : Nat), 5 - f < n9 → (f ≤ 5) → (dupA S q r f = true) → J C (M) 0 0 2 [some (.ref (s)), some (.ref (a)), some (.ref (z)), some (.int (nI (f)))] [] from j_M (rfl) (K _ (0) (Nat.lt_succ_self _) (by omega) (rfl))
  intro n9
  induction n9 with
  | zero => intro f hm; omega
  | succ n9 ih =>
    intro f hm hf hd9
    refine j_iload_n hC dX5_areDuplicates_2 rfl ?_
    refine j_iconst (v := nI 5) hC dX5_areDuplicates_3 (by decide) ?_
    refine n_icmp_ge (tgt := 42) hC dX5_areDuplicates_4 (by decide) (by omega) (by omega) (fun c1 => ?_) (fun c1 => ?_)
    · refine j_iconst (v := nI 1) hC dX5_areDuplicates_42 (by decide) ?_
      exact j_iret hC9 rfl (rfl) dX5_areDuplicates_43 ⟨(jv (jb_t1 (by rw [show f = 5 by omega] at hd9; exact hd9))), rfl⟩
    · refine j_aload_n hC dX5_areDuplicates_7 rfl (jrf_ref _) ?_
      refine j_get (v := .int (nI (sKeys S))) hC kf_X5_44 dX5_areDuplicates_8 (u1) (rfl) ?_
      refine j_iload_n hC dX5_areDuplicates_11 rfl ?_
      refine j_ishr hC dX5_areDuplicates_12 ?_
      refine j_iconst (v := nI 1) hC dX5_areDuplicates_13 (by decide) ?_
      refine j_iand hC dX5_areDuplicates_14 ?_
      refine j_top (sh_bit (by omega) (by omega)) ?_
      refine n_if_eq (tgt := 36) hC dX5_areDuplicates_15 (by decide) (by omega) (fun c2 => ?_) (fun c2 => ?_)
      · refine j_iinc_3 (v := nI (f + 1)) hC dX5_areDuplicates_36 (nI_add _ _) (by decide) rfl ?_
        refine j_goto (tgt := 2) hC dX5_areDuplicates_39 (by decide) ?_
        exact j_M (rfl) (ih (f + 1) (by omega) (by omega) (dup_t hd9 (by first | exact Or.inl (by assumption) | exact Or.inr (by assumption))))
      · refine j_aload_n hC dX5_areDuplicates_18 rfl (jrf_ref _) ?_
        refine j_iload_n hC dX5_areDuplicates_19 rfl ?_
        obtain ⟨p3, hp3, mp3⟩ := m_X1_textAt (f := f) hs9 ha (by omega)
        obtain ⟨fp3, op3⟩ := hp3.obj
        have lp3 := (ha.2.2.2 (f) (by omega)).1
        refine c_V hC kv_X5_74 dX5_areDuplicates_20 (mp3) (oa) rfl rfl rfl rfl (by decide) (Nat.le_of_ble_eq_true rfl) ?_
        refine j_aload_n hC dX5_areDuplicates_23 rfl (jrf_ref _) ?_
        refine j_iload_n hC dX5_areDuplicates_24 rfl ?_
        obtain ⟨p4, hp4, mp4⟩ := m_X1_textAt (f := f) hs9 hz (by omega)
        obtain ⟨fp4, op4⟩ := hp4.obj
        have lp4 := (hz.2.2.2 (f) (by omega)).1
        refine c_V hC kv_X5_74 dX5_areDuplicates_25 (mp4) (oz) rfl rfl rfl rfl (by decide) (Nat.le_of_ble_eq_true rfl) ?_
        refine c_V hC kv_X5_86 dX5_areDuplicates_28 (m_X8_isSameAs hs9 hp3 hp4) (op3) rfl rfl rfl rfl (by decide) (Nat.le_of_ble_eq_true rfl) ?_
        refine jb_if_ne (tgt := 36) hC dX5_areDuplicates_31 (by decide) (fun c5 => ?_) (fun c5 => ?_)
        · refine j_iinc_3 (v := nI (f + 1)) hC dX5_areDuplicates_36 (nI_add _ _) (by decide) rfl ?_
          refine j_goto (tgt := 2) hC dX5_areDuplicates_39 (by decide) ?_
          exact j_M (rfl) (ih (f + 1) (by omega) (by omega) (dup_t hd9 (by first | exact Or.inl (by assumption) | exact Or.inr (by assumption))))
        · refine j_iconst (v := nI 0) hC dX5_areDuplicates_34 (by decide) ?_
          exact j_iret hC9 rfl (rfl) dX5_areDuplicates_35 ⟨(jv (jb_f0 (dup_f (by assumption) (by assumption) 5 (by omega)))), rfl⟩
theorem j_astore_9 {C : jC} {y : jY} {d : Nat} (hC : jOK0 y d C) {M : jM} {kc ks pc : Nat} {a0 a1 a2 a3 a4 a5 a6 a7 a8 a9 : Option Value} {t : List (Option Value)} {st : List Value} {v : Value} (hd : decode y.2.1 pc = .ok (.astore 9, 2)) (hv : jrf v) (hn : 9 < y.2.2.1) (hc : jc1 a8 = true) (k : J C M kc ks (pc + 2) (a0 :: a1 :: a2 :: a3 :: a4 :: a5 :: a6 :: a7 :: a8 :: some (v) :: t) st) : J C M kc ks pc (a0 :: a1 :: a2 :: a3 :: a4 :: a5 :: a6 :: a7 :: a8 :: a9 :: t) (v :: st) := by
  obtain ⟨p, e, R, s, m, args, below, meth, c, Q, G⟩ := C
  obtain ⟨hx, hb, hr, hml, hown, hts, hlk, hnm, htb, hdf, hdl, hfl, hA⟩ := hC
  intro H locs cells slots ls h1 h2 h3 h4 h5
  exact jw_astore (nL := c.maxLocals) hx hb hd h3 (by rw [hml]; exact hn) hv (fun ls' h' => k H locs cells slots ls' h1 h2 (jl_put (i := 9) (l := a0 :: a1 :: a2 :: a3 :: a4 :: a5 :: a6 :: a7 :: a8 :: a9 :: t) (Or.inr ⟨8, rfl, hc⟩) h') h4 h5)
theorem dup_sym {S : aSet} {q r : aRec} : ∀ f, dupA S q r f = dupA S r q f
  | 0 => rfl
  | f + 1 => by rw [dupA, dupA, dup_sym f, same_sym]
theorem same_refl {t : List Nat} : sameT t t = true := decide_eq_true rfl
theorem like_self {S : aSet} {r : Nat} : ∀ f, likeA S r r f = true
  | 0 => decide_eq_true (Or.inr rfl)
  | f + 1 => by
    rw [likeA, like_self f, Bool.true_and, Bool.or_eq_true]
    exact Or.inr same_refl
theorem ks_ne {S : aSet} {r p q : Nat} {x : Option Nat} (h : x ≠ none) : keptS S r p x q ≠ none := by
  unfold keptS
  split
  · exact h
  · split
    · exact fun e => by cases e
    · split
      · exact fun e => by cases e
      · exact fun e => by cases e
theorem keptTo_ne {S : aSet} {r p j : Nat} {b : Bool} (ho : ¬ outA S (sAt S r) = true) (hj : (if b = true then (sRecs S).length - 1 - j else j) = r) : ∀ k, j < k → keptTo S r p b k ≠ none
  | 0, h => absurd h (Nat.not_lt_zero _)
  | k + 1, h => by
    rw [keptTo_s]
    by_cases hk : j < k
    · exact ks_ne (keptTo_ne ho hj k hk)
    · obtain rfl : j = k := by omega
      rw [hj]
      by_cases hx : keptTo S r p b j = none
      · rw [hx, ← ks_new ho (like_self 5)]
        exact fun e => by cases e
      · exact ks_ne hx
theorem keptA_ne {S : aSet} {r p : Nat} {b : Bool} (ho : ¬ outA S (sAt S r) = true) (hr : r < (sRecs S).length) : keptA S r p b ≠ none := by
  cases b with
  | false => exact keptTo_ne (j := r) ho rfl _ hr
  | true => exact keptTo_ne (j := (sRecs S).length - 1 - r) ho (by show (sRecs S).length - 1 - ((sRecs S).length - 1 - r) = r; omega) _ (by omega)
/-- the best so far, as the class holds it -/
def kbV (xe : Nat → Nat) : Option Nat → Value
  | none => .null
  | some m => .ref (xe m)
theorem kb_j {xe : Nat → Nat} {x : Option Nat} {w : Value} (h : w = kbV xe x) : jrf w := by
  rw [h]
  cases x with
  | none => exact jrf_null
  | some m => exact jrf_ref _
theorem kept_end {S : aSet} {r p k q : Nat} {b : Bool} {x : Option Nat} (hx : x = keptTo S r p b k) (hk : k = (sRecs S).length) (hq : q = x.getD r) (ho : ¬ outA S (sAt S r) = true) (hr : r < (sRecs S).length) (hk0 : ¬ sKeys S = 0) : nI q = zI (optZ (keptC S r p b)) := by
  subst hk
  have hx2 : x = keptA S r p b := hx
  rw [keptC, if_neg (fun e => e.elim hk0 ho), ← hx2]
  cases x with
  | none => exact absurd hx2.symm (keptA_ne ho hr)
  | some m => rw [hq]; rfl
set_option maxHeartbeats 4000000 in
set_option maxRecDepth 100000 in
theorem m_X5_isBetter {G : jG} {M : jM} {a z p : Nat} {q r : aRec} (hs : (gL G).stackTraces = false) (h : entR M.1 a q) (hz : entR M.1 z r) (hp : p ≤ 2) : CM G M jX5_isBetter 0 0 0 [.ref a, .ref z, .int (nI p)] (some (.int (jb (p = 1 ∨ p = 2 ∧ r.2.1 < q.2.1)))) (M) := by
  refine jMet_of [some (.ref (a)), some (.ref (z)), some (.int (nI (p)))] (by decide) rfl (Nat.le_of_ble_eq_true rfl) (rfl) hs ?_
  intro C hC9 hG
  have hC := hC9.z
  have hs9 := jOK0_tr hC
  obtain ⟨b1, e1⟩ := h.obj
  obtain ⟨b2, o1⟩ := hz.obj
  have hg1 := h.2.2.1
  have hg2 := hz.2.2.1
  refine j_iload_n hC dX5_isBetter_0 rfl ?_
  refine j_iconst (v := nI 1) hC dX5_isBetter_1 (by decide) ?_
  refine n_icmp_eq (tgt := 21) hC dX5_isBetter_2 (by decide) (by omega) (by omega) (fun c1 => ?_) (fun c1 => ?_)
  · refine j_iconst (v := nI 1) hC dX5_isBetter_21 (by decide) ?_
    refine j_goto (tgt := 26) hC dX5_isBetter_22 (by decide) ?_
    exact j_iret hC9 rfl (rfl) dX5_isBetter_26 ⟨(jv (jb_t1 (by omega))), rfl⟩
  · refine j_iload_n hC dX5_isBetter_5 rfl ?_
    refine j_iconst (v := nI 2) hC dX5_isBetter_6 (by decide) ?_
    refine n_icmp_ne (tgt := 25) hC dX5_isBetter_7 (by decide) (by omega) (by omega) (fun c2 => ?_) (fun c2 => ?_)
    · refine j_iconst (v := nI 0) hC dX5_isBetter_25 (by decide) ?_
      exact j_iret hC9 rfl (rfl) dX5_isBetter_26 ⟨(jv (jb_f0 (by omega))), rfl⟩
    · refine j_aload_n hC dX5_isBetter_10 rfl (jrf_ref _) ?_
      refine j_get (v := .int (nI (q.2.1))) hC kf_X5_109 dX5_isBetter_11 (e1) (rfl) ?_
      refine j_aload_n hC dX5_isBetter_14 rfl (jrf_ref _) ?_
      refine j_get (v := .int (nI (r.2.1))) hC kf_X5_109 dX5_isBetter_15 (o1) (rfl) ?_
      refine n_icmp_le (tgt := 25) hC dX5_isBetter_18 (by decide) (by omega) (by omega) (fun c3 => ?_) (fun c3 => ?_)
      · refine j_iconst (v := nI 0) hC dX5_isBetter_25 (by decide) ?_
        exact j_iret hC9 rfl (rfl) dX5_isBetter_26 ⟨(jv (jb_f0 (by omega))), rfl⟩
      · refine j_iconst (v := nI 1) hC dX5_isBetter_21 (by decide) ?_
        refine j_goto (tgt := 26) hC dX5_isBetter_22 (by decide) ?_
        exact j_iret hC9 rfl (rfl) dX5_isBetter_26 ⟨(jv (jb_t1 (by omega))), rfl⟩
set_option maxHeartbeats 4000000 in
set_option maxRecDepth 100000 in
theorem m_X5_keptOf {G : jG} {M : jM} {s r p : Nat} {S : aSet} {b : Bool} (hs : (gL G).stackTraces = false) (h : suR M.1 M.1 s S) (hr : r < (sRecs S).length) (hpp : p ≤ 2) : CM G M jX5_keptOf 0 0 7 [.ref s, .int (nI r), .int (nI p), .int (jb (b = true))] (some (.int (zI (optZ (keptC S r p b))))) (M) := by
  refine jMet_of [some (.ref (s)), some (.int (nI (r))), some (.int (nI (p))), some (.int (jb (b = true))), none, none, none, none, none, none] (by decide) rfl (Nat.le_of_ble_eq_true rfl) (rfl) hs ?_
  intro C hC9 hG
  have hC := hC9.z
  have hs9 := jOK0_tr hC
  obtain ⟨⟨lay, home, ff, xe, u1, u2, u5, u3, u6, u7⟩, u4⟩ := id h
  have hn20 : (sRecs S).length ≤ 20 := u4.1.1
  have hk32 : sKeys S < 32 := u4.1.2.1
  have hp3 : sPol S < 3 := u4.1.2.2.1
  have ho1 : sOut S < 1024 := u4.1.2.2.2.1
  have hl2 : sLim S ≤ 200 := u4.1.2.2.2.2.1.2
  have hen : ∀ r, r < (sRecs S).length → (sAt S r).1 < 10 ∧ (sAt S r).2.1 < 100 := fun r hr => ⟨(u3 r hr).2.2.1, (u3 r hr).2.2.2.1⟩
  have hr9 := (u3 r hr).2
  obtain ⟨b1, or9⟩ := hr9.obj
  refine j_aload_n hC dX5_keptOf_0 rfl (jrf_ref _) ?_
  refine j_iload_n hC dX5_keptOf_1 rfl ?_
  refine c_V hC kv_X5_66 dX5_keptOf_2 (m_X5_entryAt0 hs9 u1 u2 hn20 hr u3) (u1) rfl rfl rfl rfl (by decide) (Nat.le_of_ble_eq_true rfl) ?_
  refine j_astore_4 hC dX5_keptOf_5 (jrf_ref _) (by decide) rfl ?_
  refine j_aload_n hC dX5_keptOf_7 rfl (jrf_ref _) ?_
  refine j_get (v := .int (nI (sKeys S))) hC kf_X5_44 dX5_keptOf_8 (u1) (rfl) ?_
  refine n_if_eq (tgt := 28) hC dX5_keptOf_11 (by decide) (by omega) (fun c1 => ?_) (fun c1 => ?_)
  · refine j_iload_n hC dX5_keptOf_28 rfl ?_
    exact j_iret hC9 rfl (rfl) dX5_keptOf_29 ⟨(jv (by first | (rw [keptC, if_pos (Or.inl (by assumption))]; rfl) | (rw [keptC, if_pos (Or.inr (by assumption))]; rfl))), rfl⟩
  · refine j_aload hC dX5_keptOf_14 rfl (jrf_ref _) ?_
    refine j_ifnull hC dX5_keptOf_16 ?_
    refine j_aload_n hC dX5_keptOf_19 rfl (jrf_ref _) ?_
    refine j_aload hC dX5_keptOf_20 rfl (jrf_ref _) ?_
    refine c_V hC kv_X5_97 dX5_keptOf_22 (m_X5_isExcluded hs9 h hr9) (u1) rfl rfl rfl rfl (by decide) (Nat.le_of_ble_eq_true rfl) ?_
    refine jb_if_eq (tgt := 30) hC dX5_keptOf_25 (by decide) (fun c2 => ?_) (fun c2 => ?_)
    · have hk0 : ¬ sKeys S = 0 := by omega
      have hout : ¬ outA S (sAt S r) = true := by assumption
      refine j_iload_n hC dX5_keptOf_30 rfl ?_
      refine j_istore_5 hC dX5_keptOf_31 (by decide) rfl ?_
      refine j_null hC dX5_keptOf_33 ?_
      refine j_astore_6 hC dX5_keptOf_34 jrf_null (by decide) rfl ?_
      refine j_iconst (v := nI 0) hC dX5_keptOf_36 (by decide) ?_
      refine j_istore_7 hC dX5_keptOf_37 (by decide) rfl ?_
      suffices K : ∀ (n9 : Nat) (k : Nat) (x : Option Nat) (q : Nat) (w : Value), (sRecs S).length - k < n9 → (k ≤ (sRecs S).length) → (x = keptTo S r p b k) → (q = x.getD r) → (w = kbV xe x) → J C (M) 0 0 39 [some (.ref (s)), some (.int (nI (r))), some (.int (nI (p))), some (.int (jb (b = true))), some (.ref (xe (r))), some (.int (nI (q))), some (w), some (.int (nI (k))), none, none] [] from j_M (rfl) (K _ (0) (none) (r) (.null) (Nat.lt_succ_self _) (Nat.zero_le _) (rfl) (rfl) (rfl))
      intro n9
      induction n9 with
      | zero => intro k x q w hm; omega
      | succ n9 ih =>
        intro k x q w hm hk hx hq0 hw
        refine j_iload hC dX5_keptOf_39 rfl ?_
        refine j_aload_n hC dX5_keptOf_41 rfl (jrf_ref _) ?_
        refine j_get (v := .int (nI ((sRecs S).length))) hC kf_X5_20 dX5_keptOf_42 (u1) (rfl) ?_
        refine n_icmp_ge (tgt := 134) hC dX5_keptOf_45 (by decide) (by omega) (by omega) (fun c3 => ?_) (fun c3 => ?_)
        · refine j_iload hC dX5_keptOf_134 rfl ?_
          exact j_iret hC9 rfl (rfl) dX5_keptOf_136 ⟨(jv (kept_end hx (by omega) hq0 hout hr hk0)), rfl⟩
        · suffices K : J C (M) 0 0 66 [some (.ref (s)), some (.int (nI (r))), some (.int (nI (p))), some (.int (jb (b = true))), some (.ref (xe (r))), some (.int (nI (q))), some (w), some (.int (nI (k))), none, none] [.int (nI (if b = true then (sRecs S).length - 1 - k else k))] by
            refine j_iload_n hC dX5_keptOf_48 rfl ?_
            refine jb_if_eq (tgt := 64) hC dX5_keptOf_49 (by decide) (fun c4 => ?_) (fun c4 => ?_)
            · refine j_iload hC dX5_keptOf_64 rfl ?_
              exact j_top (by first | rw [if_pos (by assumption)] | rw [if_neg (by assumption)]) K
            · refine j_aload_n hC dX5_keptOf_52 rfl (jrf_ref _) ?_
              refine j_get (v := .int (nI ((sRecs S).length))) hC kf_X5_20 dX5_keptOf_53 (u1) (rfl) ?_
              refine j_iconst (v := nI 1) hC dX5_keptOf_56 (by decide) ?_
              refine n_isub hC dX5_keptOf_57 (by omega) ?_
              refine j_iload hC dX5_keptOf_58 rfl ?_
              refine n_isub hC dX5_keptOf_60 (by omega) ?_
              refine j_goto (tgt := 66) hC dX5_keptOf_61 (by decide) ?_
              exact j_top (by first | rw [if_pos (by assumption)] | rw [if_neg (by assumption)]) K
          refine j_istore_8 hC dX5_keptOf_66 (by decide) rfl ?_
          have hq : (if b = true then (sRecs S).length - 1 - k else k) < (sRecs S).length := by split <;> omega
          have hq2 := hen _ hq
          have hq3 := (u3 _ hq).2
          obtain ⟨b3, oq3⟩ := hq3.obj
          refine j_aload_n hC dX5_keptOf_68 rfl (jrf_ref _) ?_
          refine j_iload hC dX5_keptOf_69 rfl ?_
          refine c_V hC kv_X5_66 dX5_keptOf_71 (m_X5_entryAt0 hs9 u1 u2 hn20 hq u3) (u1) rfl rfl rfl rfl (by decide) (Nat.le_of_ble_eq_true rfl) ?_
          refine j_astore_9 hC dX5_keptOf_74 (jrf_ref _) (by decide) rfl ?_
          refine j_aload hC dX5_keptOf_76 rfl (jrf_ref _) ?_
          refine j_ifnull hC dX5_keptOf_78 ?_
          refine j_aload_n hC dX5_keptOf_81 rfl (jrf_ref _) ?_
          refine j_aload hC dX5_keptOf_82 rfl (jrf_ref _) ?_
          refine c_V hC kv_X5_97 dX5_keptOf_84 (m_X5_isExcluded hs9 h hq3) (u1) rfl rfl rfl rfl (by decide) (Nat.le_of_ble_eq_true rfl) ?_
          refine jb_if_ne (tgt := 128) hC dX5_keptOf_87 (by decide) (fun c5 => ?_) (fun c5 => ?_)
          · refine j_iinc_7 (v := nI (k + 1)) hC dX5_keptOf_128 (nI_add _ _) (by decide) (jrf_c1 (kb_j hw)) ?_
            refine j_goto (tgt := 39) hC dX5_keptOf_131 (by decide) ?_
            exact j_M (rfl) (j_L (jle_s (jle_s (jle_s (jle_s (jle_s (jle_s (jle_s (jle_s (jle_n (jle_n (jle_0))))))))))) (ih (k + 1) (x) (q) (w) (by omega) (by omega) (by rw [keptTo_s, ← hx]; first | exact ks_skip (Or.inl (by assumption)) | exact ks_skip (Or.inr (by assumption)) | exact ks_new (by assumption) (by assumption) | exact ks_rep (by assumption) (by assumption) (by assumption) | exact ks_old (by assumption) (by assumption) (by assumption)) (by first | rfl | exact hq0) (by first | rfl | exact hw)))
          · refine j_aload_n hC dX5_keptOf_90 rfl (jrf_ref _) ?_
            refine j_aload hC dX5_keptOf_91 rfl (jrf_ref _) ?_
            refine j_aload hC dX5_keptOf_93 rfl (jrf_ref _) ?_
            refine c_V hC kv_X5_101 dX5_keptOf_95 (m_X5_areDuplicates hs9 h hr9 hq3) (u1) rfl rfl rfl rfl (by decide) (Nat.le_of_ble_eq_true rfl) ?_
            refine j_top (by rw [dup_sym 5, dup_like hk0 5]) ?_
            refine jb_if_ne (tgt := 104) hC dX5_keptOf_98 (by decide) (fun c6 => ?_) (fun c6 => ?_)
            · rcases x with _ | m
              · obtain rfl : w = .null := hw
                refine j_aload hC dX5_keptOf_104 rfl jrf_null ?_
                refine c_ifnull0 (tgt := 120) hC dX5_keptOf_106 (by decide) ?_
                refine j_iload hC dX5_keptOf_120 rfl ?_
                refine j_istore_5 hC dX5_keptOf_122 (by decide) rfl ?_
                refine j_aload hC dX5_keptOf_124 rfl (jrf_ref _) ?_
                refine j_astore_6 hC dX5_keptOf_126 (jrf_ref _) (by decide) rfl ?_
                refine j_iinc_7 (v := nI (k + 1)) hC dX5_keptOf_128 (nI_add _ _) (by decide) rfl ?_
                refine j_goto (tgt := 39) hC dX5_keptOf_131 (by decide) ?_
                exact j_M (rfl) (j_L (jle_s (jle_s (jle_s (jle_s (jle_s (jle_s (jle_s (jle_s (jle_n (jle_n (jle_0))))))))))) (ih (k + 1) ((some (if b = true then (sRecs S).length - 1 - k else k))) (if b = true then (sRecs S).length - 1 - k else k) ((.ref (xe (if b = true then (sRecs S).length - 1 - k else k)))) (by omega) (by omega) (by rw [keptTo_s, ← hx]; first | exact ks_skip (Or.inl (by assumption)) | exact ks_skip (Or.inr (by assumption)) | exact ks_new (by assumption) (by assumption) | exact ks_rep (by assumption) (by assumption) (by assumption) | exact ks_old (by assumption) (by assumption) (by assumption)) (by first | rfl | exact hq0) (by first | rfl | exact hw)))
              · obtain rfl : w = .ref (xe m) := hw
                have hm := keptTo_lt hk hx.symm
                have hm3 := (u3 _ hm).2
                obtain ⟨b4, om3⟩ := hm3.obj
                refine j_aload hC dX5_keptOf_104 rfl (jrf_ref _) ?_
                refine j_ifnull hC dX5_keptOf_106 ?_
                refine j_aload hC dX5_keptOf_109 rfl (jrf_ref _) ?_
                refine j_aload hC dX5_keptOf_111 rfl (jrf_ref _) ?_
                refine j_iload_n hC dX5_keptOf_113 rfl ?_
                refine c_S hC ks_X5_105 rfl dX5_keptOf_114 (m_X5_isBetter hs9 hq3 hm3 (by omega)) rfl rfl (by decide) (Nat.le_of_ble_eq_true rfl) ?_
                refine jb_if_eq (tgt := 128) hC dX5_keptOf_117 (by decide) (fun c7 => ?_) (fun c7 => ?_)
                · refine j_iinc_7 (v := nI (k + 1)) hC dX5_keptOf_128 (nI_add _ _) (by decide) rfl ?_
                  refine j_goto (tgt := 39) hC dX5_keptOf_131 (by decide) ?_
                  exact j_M (rfl) (j_L (jle_s (jle_s (jle_s (jle_s (jle_s (jle_s (jle_s (jle_s (jle_n (jle_n (jle_0))))))))))) (ih (k + 1) ((some (m))) (q) ((.ref (xe (m)))) (by omega) (by omega) (by rw [keptTo_s, ← hx]; first | exact ks_skip (Or.inl (by assumption)) | exact ks_skip (Or.inr (by assumption)) | exact ks_new (by assumption) (by assumption) | exact ks_rep (by assumption) (by assumption) (by assumption) | exact ks_old (by assumption) (by assumption) (by assumption)) (by first | rfl | exact hq0) (by first | rfl | exact hw)))
                · refine j_iload hC dX5_keptOf_120 rfl ?_
                  refine j_istore_5 hC dX5_keptOf_122 (by decide) rfl ?_
                  refine j_aload hC dX5_keptOf_124 rfl (jrf_ref _) ?_
                  refine j_astore_6 hC dX5_keptOf_126 (jrf_ref _) (by decide) rfl ?_
                  refine j_iinc_7 (v := nI (k + 1)) hC dX5_keptOf_128 (nI_add _ _) (by decide) rfl ?_
                  refine j_goto (tgt := 39) hC dX5_keptOf_131 (by decide) ?_
                  exact j_M (rfl) (j_L (jle_s (jle_s (jle_s (jle_s (jle_s (jle_s (jle_s (jle_s (jle_n (jle_n (jle_0))))))))))) (ih (k + 1) ((some (if b = true then (sRecs S).length - 1 - k else k))) (if b = true then (sRecs S).length - 1 - k else k) ((.ref (xe (if b = true then (sRecs S).length - 1 - k else k)))) (by omega) (by omega) (by rw [keptTo_s, ← hx]; first | exact ks_skip (Or.inl (by assumption)) | exact ks_skip (Or.inr (by assumption)) | exact ks_new (by assumption) (by assumption) | exact ks_rep (by assumption) (by assumption) (by assumption) | exact ks_old (by assumption) (by assumption) (by assumption)) (by first | rfl | exact hq0) (by first | rfl | exact hw)))
            · refine j_goto (tgt := 128) hC dX5_keptOf_101 (by decide) ?_
              refine j_iinc_7 (v := nI (k + 1)) hC dX5_keptOf_128 (nI_add _ _) (by decide) (jrf_c1 (kb_j hw)) ?_
              refine j_goto (tgt := 39) hC dX5_keptOf_131 (by decide) ?_
              exact j_M (rfl) (j_L (jle_s (jle_s (jle_s (jle_s (jle_s (jle_s (jle_s (jle_s (jle_n (jle_n (jle_0))))))))))) (ih (k + 1) (x) (q) (w) (by omega) (by omega) (by rw [keptTo_s, ← hx]; first | exact ks_skip (Or.inl (by assumption)) | exact ks_skip (Or.inr (by assumption)) | exact ks_new (by assumption) (by assumption) | exact ks_rep (by assumption) (by assumption) (by assumption) | exact ks_old (by assumption) (by assumption) (by assumption)) (by first | rfl | exact hq0) (by first | rfl | exact hw)))
    · refine j_iload_n hC dX5_keptOf_28 rfl ?_
      exact j_iret hC9 rfl (rfl) dX5_keptOf_29 ⟨(jv (by first | (rw [keptC, if_pos (Or.inl (by assumption))]; rfl) | (rw [keptC, if_pos (Or.inr (by assumption))]; rfl))), rfl⟩
