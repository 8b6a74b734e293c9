/-! ===== the order of a setup's entries ===== -/
def upF (f : Nat → Value) (r i : Nat) : Nat → Value := fun j => if r ≤ j ∧ j < i then f (j + 1) else f j
def dnF (f : Nat → Value) (r i : Nat) : Nat → Value := fun j => if i < j ∧ j ≤ r then f (j - 1) else f j
def mvI (r t q : Nat) : Nat := if q = t then r else if r ≤ q ∧ q < t then q + 1 else if t < q ∧ q ≤ r then q - 1 else q
section MV
variable {f : Nat → Value} {r t i : Nat} {v : Value}
theorem upF_ge {j : Nat} (h : i ≤ j) : upF f r i j = f j := if_neg (by omega)
theorem upF_0 : upF f r r = f := funext fun j => if_neg (by omega)
theorem upF_s (h : r ≤ i) (hv : f (i + 1) = v) : updV (upF f r i) i v = upF f r (i + 1) := by
  funext j
  simp only [updV, upF]
  by_cases e : j = i
  · subst e; rw [if_pos rfl, if_pos (by omega), hv]
  · rw [if_neg e]
    by_cases e2 : r ≤ j ∧ j < i
    · rw [if_pos e2, if_pos (by omega)]
    · rw [if_neg e2, if_neg (by omega)]
theorem dnF_lt {j : Nat} (h : j ≤ i) : dnF f r i j = f j := if_neg (by omega)
theorem dnF_0 : dnF f r r = f := funext fun j => if_neg (by omega)
theorem dnF_s (h : i ≤ r) (h0 : 0 < i) (hv : f (i - 1) = v) : updV (dnF f r i) i v = dnF f r (i - 1) := by
  funext j
  simp only [updV, dnF]
  by_cases e : j = i
  · subst e; rw [if_pos rfl, if_pos (by omega), hv]
  · rw [if_neg e]
    by_cases e2 : i < j ∧ j ≤ r
    · rw [if_pos e2, if_pos (by omega)]
    · rw [if_neg e2, if_neg (by omega)]
theorem mv_F (hv : f r = v) : updV (dnF (upF f r (max r t)) r (min r t)) t v = fun q => f (mvI r t q) := by
  funext q
  simp only [updV, dnF, upF, mvI]
  by_cases e : q = t
  · rw [if_pos e, if_pos e, hv]
  · rw [if_neg e, if_neg e]
    by_cases h1 : r ≤ q ∧ q < t
    · rw [if_pos h1, if_neg (show ¬ (min r t < q ∧ q ≤ r) by omega), if_pos (by omega)]
    · rw [if_neg h1]
      by_cases h2 : t < q ∧ q ≤ r
      · rw [if_pos h2, if_pos (show min r t < q ∧ q ≤ r by omega), if_neg (by omega)]
      · rw [if_neg h2, if_neg (show ¬ (min r t < q ∧ q ≤ r) by omega), if_neg (by omega)]
theorem mvI_lt {n q : Nat} (hr : r < n) (ht : t < n) (hq : q < n) : mvI r t q < n := by
  unfold mvI
  split
  · exact hr
  · split
    · omega
    · split <;> omega
theorem moveL_I {L : List aRec} {q : Nat} (hr : r < L.length) (ht : t < L.length) (hq : q < L.length) : (moveL L r t).getD q rec0 = L.getD (mvI r t q) rec0 := by
  rw [moveL_at hr ht hq]
  unfold mvI
  by_cases e : q = t
  · rw [if_pos e, if_pos e]
  · rw [if_neg e, if_neg e]
    by_cases h1 : r ≤ q ∧ q < t
    · rw [if_pos h1, if_pos h1]
    · rw [if_neg h1, if_neg h1]
      by_cases h2 : t < q ∧ q ≤ r
      · rw [if_pos h2, if_pos h2]
      · rw [if_neg h2, if_neg h2]
end MV
/-- the setup at s with its entries in another order -/
theorem suR.perm {H' Z : jH} {s lay home : Nat} {S : aSet} {f : Nat → Value} {xe : Nat → Nat} {L : List aRec} {x : Nat → Nat} (hS : setG S) (hl : L.length = (sRecs S).length) (hL : ∀ q ∈ L, q ∈ sRecs S) (h1 : H' s = some (.inr (9, suF s lay home S))) (h2 : H' (s + 1) = some (.inl (.object RX1, 20, fun j => f (x j)))) (h3 : ∀ i, i < 20 → entV Z (f i)) (h4 : ∀ r, r < (sRecs S).length → f r = .ref (xe r) ∧ entR Z (xe r) (sAt S r)) (h5 : layR Z lay (sTmpl S)) (h6 : txtR Z home (sHome S)) (hx : ∀ j, j < 20 → x j < 20) (hx2 : ∀ j, j < (sRecs S).length → x j < (sRecs S).length ∧ L.getD j rec0 = sAt S (x j)) : suR H' Z s (withRecs S L) := by
  refine ⟨⟨lay, home, _, fun j => xe (x j), ?_, h2, fun i hi => h3 _ (hx i hi), fun r hr => ?_, h5, h6⟩, setG_recs hS (by rw [hl]; exact hS.1.1) (fun q hq => setG_all hS q (hL q hq))⟩
  · rw [h1]
    unfold suF
    rw [show (sRecs (withRecs S L)).length = (sRecs S).length from hl]
    rfl
  · have hr2 : r < (sRecs S).length := Nat.lt_of_lt_of_eq hr hl
    obtain ⟨g1, g2⟩ := hx2 r hr2
    rw [show sAt (withRecs S L) r = sAt S (x r) from g2]
    exact h4 _ g1
set_option maxHeartbeats 4000000 in
set_option maxRecDepth 100000 in
theorem m_X5_moveTo {G : jG} {M : jM} {s r t : Nat} {S : aSet} {Z : jH} (hs : (gL G).stackTraces = false) (h : suR M.1 Z s S) (hz : sub Z M.1) (hZ0 : Z s = none) (hZ1 : Z (s + 1) = none) (hBs : gB G ≤ s) (hr : r < (sRecs S).length) (ht : t < (sRecs S).length) : JMet G jX5_moveTo [.ref s, .int (nI r), .int (nI t)] (M) 0 0 0 (fun v M' => v = none ∧ suR M'.1 Z s (withRecs S (moveL (sRecs S) r t)) ∧ suOnly M M' s) jNo := by
  refine jMet_of [some (.ref (s)), some (.int (nI (r))), some (.int (nI (t))), none, none] (by decide) rfl (Nat.le_of_ble_eq_true rfl) (rfl) hs ?_
  intro C hC9 hG
  have hC := hC9.z
  have hs9 := jOK0_tr hC
  refine j_lt (fun hlt => ?_)
  have hBg : jB C = gB G := by rw [jB, hG]
  subst hG
  obtain ⟨⟨lay, home, ff, xe, u1, u2, u5, u3, u6, u7⟩, u4⟩ := id h
  have hn20 : (sRecs S).length ≤ 20 := u4.1.1
  have hk32 : sKeys S < 32 := u4.1.2.1
  have hp3 : sPol S < 3 := u4.1.2.2.1
  have ho1 : sOut S < 1024 := u4.1.2.2.2.1
  have hl2 : sLim S ≤ 200 := u4.1.2.2.2.2.1.2
  have hen : ∀ r, r < (sRecs S).length → (sAt S r).1 < 10 ∧ (sAt S r).2.1 < 100 := fun r hr => ⟨(u3 r hr).2.2.1, (u3 r hr).2.2.2.1⟩
  have hs1 := hlt _ _ u2
  refine j_iload_n hC dX5_moveTo_0 rfl ?_
  refine n_if_lt (tgt := 24) hC dX5_moveTo_1 (by decide) (by omega) (fun c1 => ?_) (fun c1 => ?_)
  · exact (show False by omega).elim
  · refine j_iload_n hC dX5_moveTo_4 rfl ?_
    refine j_aload_n hC dX5_moveTo_5 rfl (jrf_ref _) ?_
    refine j_get (v := .int (nI ((sRecs S).length))) hC kf_X5_20 dX5_moveTo_6 (u1) (rfl) ?_
    refine n_icmp_ge (tgt := 24) hC dX5_moveTo_9 (by decide) (by omega) (by omega) (fun c2 => ?_) (fun c2 => ?_)
    · exact (show False by omega).elim
    · refine j_iload_n hC dX5_moveTo_12 rfl ?_
      refine n_if_lt (tgt := 24) hC dX5_moveTo_13 (by decide) (by omega) (fun c3 => ?_) (fun c3 => ?_)
      · exact (show False by omega).elim
      · refine j_iload_n hC dX5_moveTo_16 rfl ?_
        refine j_aload_n hC dX5_moveTo_17 rfl (jrf_ref _) ?_
        refine j_get (v := .int (nI ((sRecs S).length))) hC kf_X5_20 dX5_moveTo_18 (u1) (rfl) ?_
        refine n_icmp_lt (tgt := 25) hC dX5_moveTo_21 (by decide) (by omega) (by omega) (fun c4 => ?_) (fun c4 => ?_)
        · refine j_aload_n hC dX5_moveTo_25 rfl (jrf_ref _) ?_
          refine j_get (v := .ref (s + 1)) hC kf_X5_11 dX5_moveTo_26 (u1) (rfl) ?_
          refine j_iload_n hC dX5_moveTo_29 rfl ?_
          refine c_aald (i := r) (v := .ref (xe (r))) hC dX5_moveTo_30 (u2) rfl (by omega) (by omega) ((u3 (r) (by omega)).1) ?_
          refine j_astore_n3 hC dX5_moveTo_31 (jrf_ref _) (by decide) rfl ?_
          refine j_iload_n hC dX5_moveTo_32 rfl ?_
          refine j_istore_4 hC dX5_moveTo_33 (by decide) rfl ?_
          suffices K : ∀ (n9a : Nat) (Mra : jM) (i : Nat), t - i < n9a → (Mra.1 (s + 1) = some (.inl (.object RX1, 20, upF ff r i))) → (∀ b9a, b9a ≠ (s + 1) → Mra.1 b9a = (M).1 b9a) → (Mra.2 = M.2) → (r ≤ i ∧ i ≤ max r t) → J C (Mra) 0 0 35 [some (.ref (s)), some (.int (nI (r))), some (.int (nI (t))), some (.ref (xe (r))), some (.int (nI (i)))] [] from (K _ (M) (r) (Nat.lt_succ_self _) (row_f (u2) (upF_0.symm)) (fun _ _ => rfl) rfl (by omega))
          intro n9a
          induction n9a with
          | zero => intro Mra i hm; omega
          | succ n9a iha =>
            intro Mra i hma hrwa0 hfra he2a hi
            refine j_iload hC dX5_moveTo_35 rfl ?_
            refine j_iload_n hC dX5_moveTo_37 rfl ?_
            refine n_icmp_ge (tgt := 63) hC dX5_moveTo_38 (by decide) (by omega) (by omega) (fun c5 => ?_) (fun c5 => ?_)
            · refine j_iload_n hC dX5_moveTo_63 rfl ?_
              refine j_istore_4 hC dX5_moveTo_64 (by decide) rfl ?_
              suffices K : ∀ (n9b : Nat) (Mrb : jM) (k : Nat), k - t < n9b → (Mrb.1 (s + 1) = some (.inl (.object RX1, 20, dnF (upF ff r (max r t)) r k))) → (∀ b9b, b9b ≠ (s + 1) → Mrb.1 b9b = (Mra).1 b9b) → (Mrb.2 = Mra.2) → (k ≤ r ∧ min r t ≤ k) → J C (Mrb) 0 0 66 [some (.ref (s)), some (.int (nI (r))), some (.int (nI (t))), some (.ref (xe (r))), some (.int (nI (k)))] [] from (K _ (Mra) (r) (Nat.lt_succ_self _) (row_f (hrwa0) (by rw [show i = max r t by omega]; exact dnF_0.symm)) (fun _ _ => rfl) rfl (by omega))
              intro n9b
              induction n9b with
              | zero => intro Mrb k hm; omega
              | succ n9b ihb =>
                intro Mrb k hmb hrwb0 hfrb he2b hk
                refine j_iload hC dX5_moveTo_66 rfl ?_
                refine j_iload_n hC dX5_moveTo_68 rfl ?_
                refine n_icmp_le (tgt := 94) hC dX5_moveTo_69 (by decide) (by omega) (by omega) (fun c6 => ?_) (fun c6 => ?_)
                · refine j_aload_n hC dX5_moveTo_94 rfl (jrf_ref _) ?_
                  refine j_get (v := .ref (s + 1)) hC kf_X5_11 dX5_moveTo_95 ((hfrb _ (by show (s) ≠ (s + 1); omega)).trans ((hfra _ (by show (s) ≠ (s + 1); omega)).trans (u1))) (rfl) ?_
                  refine j_iload_n hC dX5_moveTo_98 rfl ?_
                  refine j_aload_n hC dX5_moveTo_99 rfl (jrf_ref _) ?_
                  refine c_aast (i := t) hC dX5_moveTo_100 (hrwb0) (((u3 (r) (by omega)).2.mono (fun a9 o9 h9 => (hfrb a9 (fun e9 => by rw [e9, hZ1] at h9; cases h9)).trans ((fun a9 o9 h9 => (hfra a9 (fun e9 => by rw [e9, hZ1] at h9; cases h9)).trans (hz a9 o9 h9)) a9 o9 h9))).obj.choose_spec) rfl (by omega) (by omega) (by omega) ?_
                  exact j_vret hC9 rfl dX5_moveTo_101 (⟨rfl, suR.perm u4 (moveL_len hr ht) (moveL_mem hr ht) ((jput_ne (by show (s) ≠ (s + 1); omega)).trans ((hfrb _ (by show (s) ≠ (s + 1); omega)).trans ((hfra _ (by show (s) ≠ (s + 1); omega)).trans (u1)))) (row_f (jput_at) (by rw [show k = min r t by omega]; exact mv_F (u3 r hr).1)) u5 u3 u6 u7 (fun j hj => mvI_lt (by omega) (by omega) hj) (fun j hj => ⟨mvI_lt hr ht hj, moveL_I hr ht hj⟩), fun a9 h91 h92 => (jput_ne (by show (a9) ≠ (s + 1); omega)).trans ((hfrb _ (by show (a9) ≠ (s + 1); omega)).trans ((hfra _ (by show (a9) ≠ (s + 1); omega)).trans (rfl)))⟩)
                · refine j_aload_n hC dX5_moveTo_72 rfl (jrf_ref _) ?_
                  refine j_get (v := .ref (s + 1)) hC kf_X5_11 dX5_moveTo_73 ((hfrb _ (by show (s) ≠ (s + 1); omega)).trans ((hfra _ (by show (s) ≠ (s + 1); omega)).trans (u1))) (rfl) ?_
                  refine j_iload hC dX5_moveTo_76 rfl ?_
                  refine j_aload_n hC dX5_moveTo_78 rfl (jrf_ref _) ?_
                  refine j_get (v := .ref (s + 1)) hC kf_X5_11 dX5_moveTo_79 ((hfrb _ (by show (s) ≠ (s + 1); omega)).trans ((hfra _ (by show (s) ≠ (s + 1); omega)).trans (u1))) (rfl) ?_
                  refine j_iload hC dX5_moveTo_82 rfl ?_
                  refine j_iconst (v := nI 1) hC dX5_moveTo_84 (by decide) ?_
                  refine n_isub hC dX5_moveTo_85 (by omega) ?_
                  refine c_aald (i := k - 1) (v := .ref (xe (k - 1))) hC dX5_moveTo_86 (hrwb0) rfl (by omega) (by omega) ((dnF_lt (by omega)).trans ((show upF ff r (max r t) (k - 1) = ff (k - 1) by rw [show max r t = r by omega, upF_0]).trans (u3 (k - 1) (by omega)).1)) ?_
                  refine c_aast (i := k) hC dX5_moveTo_87 (hrwb0) (((u3 (k - 1) (by omega)).2.mono (fun a9 o9 h9 => (hfrb a9 (fun e9 => by rw [e9, hZ1] at h9; cases h9)).trans ((fun a9 o9 h9 => (hfra a9 (fun e9 => by rw [e9, hZ1] at h9; cases h9)).trans (hz a9 o9 h9)) a9 o9 h9))).obj.choose_spec) rfl (by omega) (by omega) (by omega) ?_
                  refine j_iinc_4 (v := nI (k - 1)) hC dX5_moveTo_88 (j_dec (a := k) (b := 1) (by omega)) (by decide) rfl ?_
                  refine j_goto (tgt := 66) hC dX5_moveTo_91 (by decide) ?_
                  exact (ihb (jput (Mrb) (s + 1) (.inl (.object RX1, 20, (updV (dnF (upF ff r (max r t)) r k) (k) (.ref (xe (k - 1))))))) (k - 1) (by omega) (row_f (jput_at) (dnF_s hk.1 (by omega) ((show upF ff r (max r t) (k - 1) = ff (k - 1) by rw [show max r t = r by omega, upF_0]).trans (u3 (k - 1) (by omega)).1))) (fun b9b hbb0 => (jput_ne (by show (b9b) ≠ (s + 1); omega)).trans (hfrb b9b hbb0)) (he2b) (by omega))
            · refine j_aload_n hC dX5_moveTo_41 rfl (jrf_ref _) ?_
              refine j_get (v := .ref (s + 1)) hC kf_X5_11 dX5_moveTo_42 ((hfra _ (by show (s) ≠ (s + 1); omega)).trans (u1)) (rfl) ?_
              refine j_iload hC dX5_moveTo_45 rfl ?_
              refine j_aload_n hC dX5_moveTo_47 rfl (jrf_ref _) ?_
              refine j_get (v := .ref (s + 1)) hC kf_X5_11 dX5_moveTo_48 ((hfra _ (by show (s) ≠ (s + 1); omega)).trans (u1)) (rfl) ?_
              refine j_iload hC dX5_moveTo_51 rfl ?_
              refine j_iconst (v := nI 1) hC dX5_moveTo_53 (by decide) ?_
              refine n_iadd hC dX5_moveTo_54 ?_
              refine c_aald (i := i + 1) (v := .ref (xe (i + 1))) hC dX5_moveTo_55 (hrwa0) rfl (by omega) (by omega) ((upF_ge (by omega)).trans (u3 (i + 1) (by omega)).1) ?_
              refine c_aast (i := i) hC dX5_moveTo_56 (hrwa0) (((u3 (i + 1) (by omega)).2.mono (fun a9 o9 h9 => (hfra a9 (fun e9 => by rw [e9, hZ1] at h9; cases h9)).trans (hz a9 o9 h9))).obj.choose_spec) rfl (by omega) (by omega) (by omega) ?_
              refine j_iinc_4 (v := nI (i + 1)) hC dX5_moveTo_57 (nI_add _ _) (by decide) rfl ?_
              refine j_goto (tgt := 35) hC dX5_moveTo_60 (by decide) ?_
              exact (iha (jput (Mra) (s + 1) (.inl (.object RX1, 20, (updV (upF ff r i) (i) (.ref (xe (i + 1))))))) (i + 1) (by omega) (row_f (jput_at) (upF_s hi.1 (u3 (i + 1) (by omega)).1)) (fun b9a hba0 => (jput_ne (by show (b9a) ≠ (s + 1); omega)).trans (hfra b9a hba0)) (he2a) (by omega))
        · exact (show False by omega).elim
theorem erase_mv {L : List aRec} {r q : Nat} (hr : r < L.length) (hq : q < L.length - 1) : (L.eraseIdx r).getD q rec0 = (moveL L r (L.length - 1)).getD q rec0 := by
  rw [moveL_at hr (by omega) (by omega), getD_erase, if_neg (show ¬ q = L.length - 1 by omega)]
  by_cases h : q < r
  · rw [if_pos h, if_neg (by omega), if_neg (by omega)]
  · rw [if_neg h, if_pos (by omega)]
set_option maxHeartbeats 4000000 in
set_option maxRecDepth 100000 in
theorem m_X5_removeAt {G : jG} {M : jM} {s r : Nat} {S : aSet} {Z : jH} (hs : (gL G).stackTraces = false) (h : suR M.1 Z s S) (hz : sub Z M.1) (hZ0 : Z s = none) (hZ1 : Z (s + 1) = none) (hBs : gB G ≤ s) (hr : r < (sRecs S).length) : JMet G jX5_removeAt [.ref s, .int (nI r)] (M) 0 0 1 (fun v M' => v = none ∧ suR M'.1 Z s (withRecs S ((sRecs S).eraseIdx r)) ∧ suOnly M M' s) jNo := by
  refine jMet_of [some (.ref (s)), some (.int (nI (r)))] (by decide) rfl (Nat.le_of_ble_eq_true rfl) (rfl) hs ?_
  intro C hC9 hG
  have hC := hC9.z
  have hs9 := jOK0_tr hC
  refine j_lt (fun hlt => ?_)
  have hBg : jB C = gB G := by rw [jB, hG]
  subst hG
  obtain ⟨⟨lay, home, ff, xe, u1, u2, u5, u3, u6, u7⟩, u4⟩ := id h
  have hn20 : (sRecs S).length ≤ 20 := u4.1.1
  have hk32 : sKeys S < 32 := u4.1.2.1
  have hp3 : sPol S < 3 := u4.1.2.2.1
  have ho1 : sOut S < 1024 := u4.1.2.2.2.1
  have hl2 : sLim S ≤ 200 := u4.1.2.2.2.2.1.2
  have hen : ∀ r, r < (sRecs S).length → (sAt S r).1 < 10 ∧ (sAt S r).2.1 < 100 := fun r hr => ⟨(u3 r hr).2.2.1, (u3 r hr).2.2.2.1⟩
  have hs1 := hlt _ _ u2
  refine j_iload_n hC dX5_removeAt_0 rfl ?_
  refine n_if_lt (tgt := 33) hC dX5_removeAt_1 (by decide) (by omega) (fun c1 => ?_) (fun c1 => ?_)
  · exact (show False by omega).elim
  · refine j_iload_n hC dX5_removeAt_4 rfl ?_
    refine j_aload_n hC dX5_removeAt_5 rfl (jrf_ref _) ?_
    refine j_get (v := .int (nI ((sRecs S).length))) hC kf_X5_20 dX5_removeAt_6 (u1) (rfl) ?_
    refine n_icmp_ge (tgt := 33) hC dX5_removeAt_9 (by decide) (by omega) (by omega) (fun c2 => ?_) (fun c2 => ?_)
    · exact (show False by omega).elim
    · refine j_aload_n hC dX5_removeAt_12 rfl (jrf_ref _) ?_
      refine j_iload_n hC dX5_removeAt_13 rfl ?_
      refine j_aload_n hC dX5_removeAt_14 rfl (jrf_ref _) ?_
      refine j_get (v := .int (nI ((sRecs S).length))) hC kf_X5_20 dX5_removeAt_15 (u1) (rfl) ?_
      refine j_iconst (v := nI 1) hC dX5_removeAt_18 (by decide) ?_
      refine n_isub hC dX5_removeAt_19 (by omega) ?_
      refine c_Pv (kc := 0) (ks := 0) hC kv_X5_56 dX5_removeAt_20 (m_X5_moveTo hs9 h hz hZ0 hZ1 hBs hr (show (sRecs S).length - 1 < (sRecs S).length by omega)) (u1) rfl rfl rfl rfl (by decide) (Nat.le_of_ble_eq_true rfl) ?_
      intro v9 M1 h9
      obtain ⟨rfl, e1, e2⟩ := h9
      obtain ⟨⟨lay2, home2, f2, xe2, p1, p2, p5, p3, p6, p7⟩, p4⟩ := e1
      have hl9 : (sRecs (withRecs S (moveL (sRecs S) r ((sRecs S).length - 1)))).length = (sRecs S).length := moveL_len hr (by omega)
      have p8 : M1.1 s = some (.inr (9, [.ref (s + 1), .int (nI (sRecs S).length), .ref lay2, .ref home2, .int (nI (sKeys S)), .int (nI (sPol S)), .int (nI (sOut S)), .int (nI (sLim S))])) := by rw [p1]; unfold suF; rw [hl9]; rfl
      refine j_aload_n hC dX5_removeAt_23 rfl (jrf_ref _) ?_
      refine j_dup hC dX5_removeAt_24 rfl ?_
      refine j_get (v := .int (nI ((sRecs S).length))) hC kf_X5_20 dX5_removeAt_25 (p8) (rfl) ?_
      refine j_iconst (v := nI 1) hC dX5_removeAt_28 (by decide) ?_
      refine n_isub hC dX5_removeAt_29 (by omega) ?_
      refine c_put (fs' := [.ref (s + 1), .int (nI (((sRecs S).length) - (1))), .ref lay2, .ref home2, .int (nI (sKeys S)), .int (nI (sPol S)), .int (nI (sOut S)), .int (nI (sLim S))]) hC kp_X5_20 dX5_removeAt_30 (p8) (by omega) (rfl) (rfl) rfl ?_
      have hl8 : ((sRecs S).eraseIdx r).length = (sRecs S).length - 1 := by rw [List.length_eraseIdx, if_pos hr]
      exact j_vret hC9 rfl dX5_removeAt_33 (⟨rfl, ⟨⟨lay2, home2, f2, xe2, jput_at.trans (by unfold suF; rw [show (sRecs (withRecs S ((sRecs S).eraseIdx r))).length = (sRecs S).length - 1 from hl8]; rfl), (jput_ne (show s + 1 ≠ s by omega)).trans p2, p5, fun q hq => by (have hq2 : q < (sRecs S).length - 1 := Nat.lt_of_lt_of_eq hq hl8); (rw [show sAt (withRecs S ((sRecs S).eraseIdx r)) q = sAt (withRecs S (moveL (sRecs S) r ((sRecs S).length - 1))) q from erase_mv hr hq2]); exact p3 q (by rw [hl9]; omega), p6, p7⟩, setG_recs u4 (by rw [hl8]; omega) (fun q hq => setG_all u4 q (List.mem_of_mem_eraseIdx hq))⟩, fun a9 h91 h92 => (jput_ne h91).trans (e2 a9 h91 h92)⟩)
def xw (x : Nat → Nat) (i v : Nat) : Nat → Nat := fun j => if j = i then v else x j
section SO
variable {f : Nat → Value} {x : Nat → Nat} {o : List Nat} {p r i v : Nat} {lt : Nat → Nat → Bool}
theorem xw_F {e : Value} (h : f v = e) : updV (fun j => f (x j)) i e = fun j => f (xw x i v j) := by
  funext j
  simp only [updV, xw]
  by_cases e9 : j = i
  · rw [if_pos e9, if_pos e9, h]
  · rw [if_neg e9, if_neg e9]
theorem xw_b1 (h1 : ∀ j, j < p → x j = o.getD j 0) : ∀ j, j < p - 1 → xw x p (o.getD (p - 1) 0) j = o.getD j 0 := fun j hj => (if_neg (by omega)).trans (h1 j (by omega))
theorem xw_b2 (h2 : ∀ j, p < j → j ≤ r → x j = o.getD (j - 1) 0) : ∀ j, p - 1 < j → j ≤ r → xw x p (o.getD (p - 1) 0) j = o.getD (j - 1) 0 := by
  intro j h h'
  by_cases e : j = p
  · rw [e]; exact if_pos rfl
  · exact (if_neg e).trans (h2 j (by omega) h')
theorem xw_b3 (hp : p ≤ r) (h3 : ∀ j, r < j → x j = j) : ∀ j, r < j → xw x p v j = j := fun j hj => (if_neg (by omega)).trans (h3 j hj)
theorem xw_b4 {n : Nat} (hv : v < n) (h4 : ∀ j, j < n → x j < n) : ∀ j, j < n → xw x p v j < n := fun j hj => by
  unfold xw
  split
  · exact hv
  · exact h4 j hj
theorem xw_back (hp : p ≤ r) (h1 : ∀ j, j < p → x j = (ordL lt r).getD j 0) (h2 : ∀ j, p < j → j ≤ r → x j = (ordL lt r).getD (j - 1) 0) (h3 : insP lt r (ordL lt r) r = p) : ∀ j, j < r + 1 → xw x p r j = (ordL lt (r + 1)).getD j 0 := by
  intro j hj
  rw [ordL_s, h3]
  by_cases a : j < p
  · rw [if_pos a]; exact (if_neg (by omega)).trans (h1 j a)
  · rw [if_neg a]
    by_cases b : j = p
    · rw [if_pos b, b]; exact if_pos rfl
    · rw [if_neg b]; exact (if_neg b).trans (h2 j (by omega) (by omega))
theorem zp1 (h : 0 < p) : zI (((p : Nat) : Int) - 1) = nI (p - 1) := by
  rw [show ((p : Nat) : Int) - 1 = ((p - 1 : Nat) : Int) by omega]
  rfl
theorem fun_e {f : Nat → Value} {x y : Nat → Nat} (h : x = y) : (fun j => f (x j)) = fun j => f (y j) := h ▸ rfl
end SO
set_option maxHeartbeats 4000000 in
set_option maxRecDepth 100000 in
theorem m_X5_entryAt1 {G : jG} {M : jM} {s i p : Nat} {S : aSet} {ff : Nat → Value} {lay home : Nat} (hs : (gL G).stackTraces = false) (u1 : M.1 s = some (.inr (9, suF s lay home S))) (u2 : M.1 (s + 1) = some (.inl (.object RX1, 20, ff))) (hn20 : (sRecs S).length ≤ 20) (hi : i < (sRecs S).length) (u3 : ff i = .ref p) : CM G M jX5_entryAt 0 0 0 [.ref s, .int (nI i)] (some (.ref p)) (M) := by
  refine jMet_of [some (.ref (s)), some (.int (nI (i)))] (by decide) rfl (Nat.le_of_ble_eq_true rfl) (rfl) hs ?_
  intro C hC9 hG
  have hC := hC9.z
  have hs9 := jOK0_tr hC
  refine j_iload_n hC dX5_entryAt_0 rfl ?_
  refine n_if_lt (tgt := 21) hC dX5_entryAt_1 (by decide) (by omega) (fun c1 => ?_) (fun c1 => ?_)
  · exact (show False by omega).elim
  · refine j_iload_n hC dX5_entryAt_4 rfl ?_
    refine j_aload_n hC dX5_entryAt_5 rfl (jrf_ref _) ?_
    refine j_get (v := .int (nI ((sRecs S).length))) hC kf_X5_20 dX5_entryAt_6 (u1) (rfl) ?_
    refine n_icmp_ge (tgt := 21) hC dX5_entryAt_9 (by decide) (by omega) (by omega) (fun c2 => ?_) (fun c2 => ?_)
    · exact (show False by omega).elim
    · refine j_aload_n hC dX5_entryAt_12 rfl (jrf_ref _) ?_
      refine j_get (v := .ref (s + 1)) hC kf_X5_11 dX5_entryAt_13 (u1) (rfl) ?_
      refine j_iload_n hC dX5_entryAt_16 rfl ?_
      refine c_aald (i := i) (v := .ref (p)) hC dX5_entryAt_17 (u2) rfl (by omega) (by omega) (u3) ?_
      refine j_goto (tgt := 22) hC dX5_entryAt_18 (by decide) ?_
      exact j_aret hC9 rfl (by first | exact Or.inl ⟨_, rfl⟩ | exact Or.inr ⟨_, rfl⟩) dX5_entryAt_22 ⟨rfl, rfl⟩ (jrf_ref _)
set_option maxHeartbeats 4000000 in
set_option maxRecDepth 100000 in
theorem m_X5_sortBy {G : jG} {M : jM} {s o f : Nat} {S : aSet} {Z : jH} {dsc : Bool} {g0 : Nat → Int32} (hs : (gL G).stackTraces = false) (h : suR M.1 Z s S) (hz : sub Z M.1) (hZ0 : Z s = none) (hZ1 : Z (s + 1) = none) (hBs : gB G ≤ s) (hf : f < 5) (ho : M.1 o = some (.inl (.int, 20, fun j => .int (g0 j)))) (hBo : gB G ≤ o) (hZo : Z o = none) (hos : o ≠ s ∧ o ≠ s + 1) : JMet G jX5_sortBy [.ref s, .int (nI f), .int (jb (dsc = true)), .ref o] (M) 0 0 6 (fun v M' => v = some (.int (nI (movedN (ordA S f dsc)))) ∧ suR M'.1 Z s (withRecs S ((ordA S f dsc).map (sAt S))) ∧ (∃ g : Nat → Int32, M'.1 o = some (.inl (.int, 20, fun j => .int (g j)))) ∧ ∀ a, a ≠ s → a ≠ s + 1 → a ≠ o → M'.1 a = M.1 a) jNo := by
  refine jMet_of [some (.ref (s)), some (.int (nI (f))), some (.int (jb (dsc = true))), some (.ref (o)), none, none, none, none, none] (by decide) rfl (Nat.le_of_ble_eq_true rfl) (rfl) hs ?_
  intro C hC9 hG
  have hC := hC9.z
  have hs9 := jOK0_tr hC
  refine j_lt (fun hlt => ?_)
  have hBg : jB C = gB G := by rw [jB, hG]
  subst hG
  obtain ⟨⟨lay, home, ff, xe, u1, u2, u5, u3, u6, u7⟩, u4⟩ := id h
  have hn20 : (sRecs S).length ≤ 20 := u4.1.1
  have hk32 : sKeys S < 32 := u4.1.2.1
  have hp3 : sPol S < 3 := u4.1.2.2.1
  have ho1 : sOut S < 1024 := u4.1.2.2.2.1
  have hl2 : sLim S ≤ 200 := u4.1.2.2.2.2.1.2
  have hen : ∀ r, r < (sRecs S).length → (sAt S r).1 < 10 ∧ (sAt S r).2.1 < 100 := fun r hr => ⟨(u3 r hr).2.2.1, (u3 r hr).2.2.2.1⟩
  have hs1 := hlt _ _ u2
  refine j_aload_n hC dX5_sortBy_0 rfl (jrf_ref _) ?_
  refine j_get (v := .int (nI ((sRecs S).length))) hC kf_X5_20 dX5_sortBy_1 (u1) (rfl) ?_
  refine j_aload_n hC dX5_sortBy_4 rfl (jrf_ref _) ?_
  refine c_alen hC dX5_sortBy_5 (ho) ?_
  refine c_min (a := (sRecs S).length) (b := 20) hC ks_X5_60 dX5_sortBy_6 (by omega) (by omega) (by decide) (Nat.le_of_ble_eq_true rfl) ?_
  refine j_top (by rw [show min (sRecs S).length 20 = (sRecs S).length by omega]) ?_
  refine j_istore_4 hC dX5_sortBy_9 (by decide) rfl ?_
  refine j_iconst (v := nI 0) hC dX5_sortBy_11 (by decide) ?_
  refine j_istore_5 hC dX5_sortBy_12 (by decide) rfl ?_
  suffices K : ∀ (n9a : Nat) (Mra : jM) (r : Nat) (x : Nat → Nat) (g : Nat → Int32), (sRecs S).length - r < n9a → (Mra.1 (s + 1) = some (.inl (.object RX1, 20, fun j => ff (x j)))) → (Mra.1 (o) = some (.inl (.int, 20, fun j => .int (g j)))) → (∀ b9a, b9a ≠ (s + 1) → b9a ≠ (o) → Mra.1 b9a = (M).1 b9a) → (Mra.2 = M.2) → (r ≤ (sRecs S).length) → (∀ j, j < r → x j = (ordL (ltA S f dsc) r).getD j 0) → (∀ j, r ≤ j → x j = j) → (∀ j, j < (sRecs S).length → x j < (sRecs S).length) → (∀ j, j < r → g j = nI ((ordL (ltA S f dsc) r).getD j 0)) → J C (Mra) 0 0 14 [some (.ref (s)), some (.int (nI (f))), some (.int (jb (dsc = true))), some (.ref (o)), some (.int (nI ((sRecs S).length))), some (.int (nI (r))), none, none, none] [] from (K _ (M) (0) (fun j => j) (g0) (Nat.lt_succ_self _) (row_f (u2) (rfl)) (row_f (ho) (rfl)) (fun _ _ _ => rfl) rfl (by omega) (fun j hj => absurd hj (Nat.not_lt_zero j)) (fun j _ => rfl) (fun j hj => hj) (fun j hj => absurd hj (Nat.not_lt_zero j)))
  intro n9a
  induction n9a with
  | zero => intro Mra r x g hm; omega
  | succ n9a iha =>
    intro Mra r x g hma hrwa0 hrwa1 hfra he2a hr hx1 hx2 hxn hg
    refine j_iload hC dX5_sortBy_14 rfl ?_
    refine j_iload hC dX5_sortBy_16 rfl ?_
    refine n_icmp_ge (tgt := 117) hC dX5_sortBy_18 (by decide) (by omega) (by omega) (fun c1 => ?_) (fun c1 => ?_)
    · refine j_iconst (v := nI 0) hC dX5_sortBy_117 (by decide) ?_
      refine j_istore_5 hC dX5_sortBy_118 (by decide) rfl ?_
      refine j_iconst (v := nI 0) hC dX5_sortBy_120 (by decide) ?_
      refine j_istore_6 hC dX5_sortBy_121 (by decide) rfl ?_
      suffices K : ∀ (n9 : Nat) (i : Nat), (sRecs S).length - i < n9 → (i ≤ (sRecs S).length) → J C (Mra) 0 0 123 [some (.ref (s)), none, none, some (.ref (o)), some (.int (nI ((sRecs S).length))), some (.int (nI (cntTo (fun j => decide (¬ (ordA S f dsc).getD j 0 = j)) i))), some (.int (nI (i))), none, none] [] from j_M (rfl) (j_L (jle_s (jle_n (jle_n (jle_s (jle_s (jle_s (jle_s (jle_s (jle_s (jle_0)))))))))) (K _ (0) (Nat.lt_succ_self _) (by omega)))
      intro n9
      induction n9 with
      | zero => intro i hm; omega
      | succ n9 ih =>
        intro i hm hi
        refine j_iload hC dX5_sortBy_123 rfl ?_
        refine j_iload hC dX5_sortBy_125 rfl ?_
        refine n_icmp_ge (tgt := 155) hC dX5_sortBy_127 (by decide) (by omega) (by omega) (fun c2 => ?_) (fun c2 => ?_)
        · refine j_iload hC dX5_sortBy_155 rfl ?_
          have hlo : (ordA S f dsc).length = (sRecs S).length := ordL_len _
          exact j_iret hC9 rfl (rfl) dX5_sortBy_157 (⟨congrArg (fun z => some (Value.int (nI z))) (by rw [movedN, hlo, show (sRecs S).length = i by omega]), suR.perm u4 (by rw [List.length_map, hlo]) (srt_mem hlo (fun j hj => ordL_lt hj)) ((hfra _ (by show (s) ≠ (s + 1); omega) (by show (s) ≠ (o); omega)).trans (u1)) (hrwa0) u5 u3 u6 u7 (fun j hj => by
  by_cases e9 : j < (sRecs S).length
  · have := hxn j e9; omega
  · rw [hx2 j (by omega)]; exact hj) (fun j hj => ⟨hxn j hj, by rw [getD_mapS (by rw [hlo]; exact hj), hx1 j (by omega), show r = (sRecs S).length by omega]; rfl⟩), ⟨_, hrwa1⟩, fun a9 h91 h92 h93 => (hfra _ (by show (a9) ≠ (s + 1); omega) (by show (a9) ≠ (o); omega)).trans (rfl)⟩)
        · refine j_iload hC dX5_sortBy_130 rfl ?_
          refine j_aload_n hC dX5_sortBy_132 rfl (jrf_ref _) ?_
          refine j_iload hC dX5_sortBy_133 rfl ?_
          refine c_iald (i := i) (x := g (i)) hC dX5_sortBy_135 (hrwa1) (by omega) (by omega) (rfl) ?_
          have ho9 : (ordA S f dsc).getD (i) 0 < (sRecs S).length := ordL_lt (by omega)
          refine j_top (show g i = nI ((ordA S f dsc).getD (i) 0) from (hg i (by omega)).trans (by rw [show r = (sRecs S).length by omega] <;> rfl)) ?_
          refine j_iload hC dX5_sortBy_136 rfl ?_
          suffices K : J C (Mra) 0 0 146 [some (.ref (s)), none, none, some (.ref (o)), some (.int (nI ((sRecs S).length))), some (.int (nI (cntTo (fun j => decide (¬ (ordA S f dsc).getD j 0 = j)) i))), some (.int (nI (i))), none, none] [.int (nI (if decide (¬ (ordA S f dsc).getD (i) 0 = i) = true then 1 else 0)), .int (nI (cntTo (fun j => decide (¬ (ordA S f dsc).getD j 0 = j)) i))] by
            refine n_icmp_ne (tgt := 145) hC dX5_sortBy_138 (by decide) (by omega) (by omega) (fun c3 => ?_) (fun c3 => ?_)
            · refine j_iconst (v := nI 1) hC dX5_sortBy_145 (by decide) ?_
              exact j_top (by first | rw [if_pos (decide_eq_true (by assumption))] | rw [if_neg (by rw [decide_eq_true_eq]; exact fun h => h (by assumption))]) K
            · refine j_iconst (v := nI 0) hC dX5_sortBy_141 (by decide) ?_
              refine j_goto (tgt := 146) hC dX5_sortBy_142 (by decide) ?_
              exact j_top (by first | rw [if_pos (decide_eq_true (by assumption))] | rw [if_neg (by rw [decide_eq_true_eq]; exact fun h => h (by assumption))]) K
          refine n_iadd hC dX5_sortBy_146 ?_
          refine j_top (rfl) ?_
          refine j_istore_5 hC dX5_sortBy_147 (by decide) rfl ?_
          refine j_iinc_6 (v := nI (i + 1)) hC dX5_sortBy_149 (nI_add _ _) (by decide) rfl ?_
          refine j_goto (tgt := 123) hC dX5_sortBy_152 (by decide) ?_
          exact j_M (rfl) (ih (i + 1) (by omega) (by omega))
    · refine j_aload_n hC dX5_sortBy_21 rfl (jrf_ref _) ?_
      refine j_iload hC dX5_sortBy_22 rfl ?_
      refine c_V hC kv_X5_66 dX5_sortBy_24 (m_X5_entryAt1 (i := r) (p := xe (x (r))) (ff := fun j => ff (x j)) hs9 ((hfra _ (by show (s) ≠ (s + 1); omega) (by show (s) ≠ (o); omega)).trans (u1)) (hrwa0) hn20 (by omega) ((u3 (x (r)) (hxn _ (by omega))).1)) ((hfra _ (by show (s) ≠ (s + 1); omega) (by show (s) ≠ (o); omega)).trans (u1)) rfl rfl rfl rfl (by decide) (Nat.le_of_ble_eq_true rfl) ?_
      rw [hx2 r (Nat.le_refl r)]
      refine j_astore_6 hC dX5_sortBy_27 (jrf_ref _) (by decide) rfl ?_
      refine j_iload hC dX5_sortBy_29 rfl ?_
      refine j_istore_7 hC dX5_sortBy_31 (by decide) rfl ?_
      refine j_iload hC dX5_sortBy_33 rfl ?_
      refine j_iconst (v := nI 1) hC dX5_sortBy_35 (by decide) ?_
      refine z_isub (a := ((r : Nat) : Int)) (b := ((1 : Nat) : Int)) hC dX5_sortBy_36 ?_
      refine j_istore_8 hC dX5_sortBy_37 (by decide) rfl ?_
      suffices K : ∀ (n9b : Nat) (Mrb : jM) (p : Nat) (x : Nat → Nat) (g : Nat → Int32), p < n9b → (Mrb.1 (s + 1) = some (.inl (.object RX1, 20, fun j => ff (x j)))) → (Mrb.1 (o) = some (.inl (.int, 20, fun j => .int (g j)))) → (∀ b9b, b9b ≠ (s + 1) → b9b ≠ (o) → Mrb.1 b9b = (Mra).1 b9b) → (Mrb.2 = Mra.2) → (p ≤ r) → (∀ j, j < p → x j = (ordL (ltA S f dsc) r).getD j 0) → (∀ j, p < j → j ≤ r → x j = (ordL (ltA S f dsc) r).getD (j - 1) 0) → (∀ j, r < j → x j = j) → (∀ j, j < (sRecs S).length → x j < (sRecs S).length) → (∀ j, j < p → g j = nI ((ordL (ltA S f dsc) r).getD j 0)) → (∀ j, p < j → j ≤ r → g j = nI ((ordL (ltA S f dsc) r).getD (j - 1) 0)) → (insP (ltA S f dsc) r (ordL (ltA S f dsc) r) r = insP (ltA S f dsc) r (ordL (ltA S f dsc) r) p) → J C (Mrb) 0 0 39 [some (.ref (s)), some (.int (nI (f))), some (.int (jb (dsc = true))), some (.ref (o)), some (.int (nI ((sRecs S).length))), some (.int (nI (r))), some (.ref (xe (r))), some (.int (nI (p))), some (.int (zI (((p : Nat) : Int) - 1)))] [] from (K _ (Mra) (r) (x) (g) (Nat.lt_succ_self _) (row_f (hrwa0) (rfl)) (row_f (hrwa1) (rfl)) (fun _ _ _ => rfl) rfl (by omega) (hx1) (fun j h1 h2 => by omega) (fun j hj => hx2 j (by omega)) (hxn) (hg) (fun j h1 h2 => by omega) (rfl))
      intro n9b
      induction n9b with
      | zero => intro Mrb p x g hm; omega
      | succ n9b ihb =>
        intro Mrb p x g hmb hrwb0 hrwb1 hfrb he2b hp hx1 hx2 hx3 hxn hg1 hg2 hq
        refine j_iload hC dX5_sortBy_39 rfl ?_
        refine z_if_lt (a := (((p : Nat) : Int) - 1)) (tgt := 96) hC dX5_sortBy_41 (by decide) (by unfold zB; omega) (fun c4 => ?_) (fun c4 => ?_)
        · have hst : insP (ltA S f dsc) r (ordL (ltA S f dsc) r) r = p := hq.trans (insP_stop (by first | exact Or.inl (by omega) | exact Or.inr (by rw [← hx1 (p - 1) (by omega)]; assumption)))
          refine j_aload_n hC dX5_sortBy_96 rfl (jrf_ref _) ?_
          refine j_get (v := .ref (s + 1)) hC kf_X5_11 dX5_sortBy_97 ((hfrb _ (by show (s) ≠ (s + 1); omega) (by show (s) ≠ (o); omega)).trans ((hfra _ (by show (s) ≠ (s + 1); omega) (by show (s) ≠ (o); omega)).trans (u1))) (rfl) ?_
          refine j_iload hC dX5_sortBy_100 rfl ?_
          refine j_aload hC dX5_sortBy_102 rfl (jrf_ref _) ?_
          refine c_aast (i := p) hC dX5_sortBy_104 (hrwb0) (((u3 (r) (by first | omega | exact hxn _ (by omega))).2.mono (fun a9 o9 h9 => (hfrb a9 (fun e9 => by rw [e9, hZ1] at h9; cases h9) (fun e9 => by rw [e9, hZo] at h9; cases h9)).trans ((fun a9 o9 h9 => (hfra a9 (fun e9 => by rw [e9, hZ1] at h9; cases h9) (fun e9 => by rw [e9, hZo] at h9; cases h9)).trans (hz a9 o9 h9)) a9 o9 h9))).obj.choose_spec) rfl (by omega) (by omega) (by omega) ?_
          refine j_aload_n hC dX5_sortBy_105 rfl (jrf_ref _) ?_
          refine j_iload hC dX5_sortBy_106 rfl ?_
          refine j_iload hC dX5_sortBy_108 rfl ?_
          refine c_iast (i := p) (x := nI (r)) hC dX5_sortBy_110 ((jput_ne (by show (o) ≠ (s + 1); omega)).trans (hrwb1)) (by omega) (by omega) (by omega) ?_
          refine j_iinc_5 (v := nI (r + 1)) hC dX5_sortBy_111 (nI_add _ _) (by decide) rfl ?_
          refine j_goto (tgt := 14) hC dX5_sortBy_114 (by decide) ?_
          exact (j_L (jle_s (jle_s (jle_s (jle_s (jle_s (jle_s (jle_n (jle_n (jle_n (jle_0)))))))))) (iha (jput (jput (Mrb) (s + 1) (.inl (.object RX1, 20, (updV (fun j => ff (x j)) (p) (.ref (xe (r))))))) (o) (.inl (.int, 20, fun j => .int ((upd g (p) (nI (r))) j)))) (r + 1) (xw x p r) (upd g (p) (nI (r))) (by omega) (row_f ((jput_ne (by show (s + 1) ≠ (o); omega)).trans (jput_at)) (xw_F (u3 _ (by omega)).1)) (row_f (jput_at) (rfl)) (fun b9a hba0 hba1 => (jput_ne (by show (b9a) ≠ (o); omega)).trans ((jput_ne (by show (b9a) ≠ (s + 1); omega)).trans ((hfrb _ (by show (b9a) ≠ (s + 1); omega) (by show (b9a) ≠ (o); omega)).trans (hfra b9a hba0 hba1)))) (he2b.trans (he2a)) (by omega) (xw_back hp hx1 hx2 hst) (fun j hj => xw_b3 hp hx3 j (by omega)) (xw_b4 (by omega) hxn) (so_back hp hg1 hg2 hst)))
        · refine j_aload hC dX5_sortBy_44 rfl (jrf_ref _) ?_
          refine j_aload_n hC dX5_sortBy_46 rfl (jrf_ref _) ?_
          refine j_iload hC dX5_sortBy_47 rfl ?_
          refine j_top (zp1 (by omega)) ?_
          refine c_V hC kv_X5_66 dX5_sortBy_49 (m_X5_entryAt1 (i := p - 1) (p := xe (x (p - 1))) (ff := fun j => ff (x j)) hs9 ((hfrb _ (by show (s) ≠ (s + 1); omega) (by show (s) ≠ (o); omega)).trans ((hfra _ (by show (s) ≠ (s + 1); omega) (by show (s) ≠ (o); omega)).trans (u1))) (hrwb0) hn20 (by omega) ((u3 (x (p - 1)) (hxn _ (by omega))).1)) ((hfrb _ (by show (s) ≠ (s + 1); omega) (by show (s) ≠ (o); omega)).trans ((hfra _ (by show (s) ≠ (s + 1); omega) (by show (s) ≠ (o); omega)).trans (u1))) rfl rfl rfl rfl (by decide) (Nat.le_of_ble_eq_true rfl) ?_
          refine j_iload_n hC dX5_sortBy_52 rfl ?_
          refine j_iload_n hC dX5_sortBy_53 rfl ?_
          refine c_S hC ks_X5_70 rfl dX5_sortBy_54 (m_X5_comesBefore (f := f) (dsc := dsc) hs9 ((u3 (r) (by first | omega | exact hxn _ (by omega))).2.mono (fun a9 o9 h9 => (hfrb a9 (fun e9 => by rw [e9, hZ1] at h9; cases h9) (fun e9 => by rw [e9, hZo] at h9; cases h9)).trans ((fun a9 o9 h9 => (hfra a9 (fun e9 => by rw [e9, hZ1] at h9; cases h9) (fun e9 => by rw [e9, hZo] at h9; cases h9)).trans (hz a9 o9 h9)) a9 o9 h9))) ((u3 (x (p - 1)) (by first | omega | exact hxn _ (by omega))).2.mono (fun a9 o9 h9 => (hfrb a9 (fun e9 => by rw [e9, hZ1] at h9; cases h9) (fun e9 => by rw [e9, hZo] at h9; cases h9)).trans ((fun a9 o9 h9 => (hfra a9 (fun e9 => by rw [e9, hZ1] at h9; cases h9) (fun e9 => by rw [e9, hZo] at h9; cases h9)).trans (hz a9 o9 h9)) a9 o9 h9))) hf) rfl rfl (by decide) (Nat.le_of_ble_eq_true rfl) ?_
          refine jb_if_eq (tgt := 96) hC dX5_sortBy_57 (by decide) (fun c5 => ?_) (fun c5 => ?_)
          · have hst : insP (ltA S f dsc) r (ordL (ltA S f dsc) r) r = p := hq.trans (insP_stop (by first | exact Or.inl (by omega) | exact Or.inr (by rw [← hx1 (p - 1) (by omega)]; assumption)))
            refine j_aload_n hC dX5_sortBy_96 rfl (jrf_ref _) ?_
            refine j_get (v := .ref (s + 1)) hC kf_X5_11 dX5_sortBy_97 ((hfrb _ (by show (s) ≠ (s + 1); omega) (by show (s) ≠ (o); omega)).trans ((hfra _ (by show (s) ≠ (s + 1); omega) (by show (s) ≠ (o); omega)).trans (u1))) (rfl) ?_
            refine j_iload hC dX5_sortBy_100 rfl ?_
            refine j_aload hC dX5_sortBy_102 rfl (jrf_ref _) ?_
            refine c_aast (i := p) hC dX5_sortBy_104 (hrwb0) (((u3 (r) (by first | omega | exact hxn _ (by omega))).2.mono (fun a9 o9 h9 => (hfrb a9 (fun e9 => by rw [e9, hZ1] at h9; cases h9) (fun e9 => by rw [e9, hZo] at h9; cases h9)).trans ((fun a9 o9 h9 => (hfra a9 (fun e9 => by rw [e9, hZ1] at h9; cases h9) (fun e9 => by rw [e9, hZo] at h9; cases h9)).trans (hz a9 o9 h9)) a9 o9 h9))).obj.choose_spec) rfl (by omega) (by omega) (by omega) ?_
            refine j_aload_n hC dX5_sortBy_105 rfl (jrf_ref _) ?_
            refine j_iload hC dX5_sortBy_106 rfl ?_
            refine j_iload hC dX5_sortBy_108 rfl ?_
            refine c_iast (i := p) (x := nI (r)) hC dX5_sortBy_110 ((jput_ne (by show (o) ≠ (s + 1); omega)).trans (hrwb1)) (by omega) (by omega) (by omega) ?_
            refine j_iinc_5 (v := nI (r + 1)) hC dX5_sortBy_111 (nI_add _ _) (by decide) rfl ?_
            refine j_goto (tgt := 14) hC dX5_sortBy_114 (by decide) ?_
            exact (j_L (jle_s (jle_s (jle_s (jle_s (jle_s (jle_s (jle_n (jle_n (jle_n (jle_0)))))))))) (iha (jput (jput (Mrb) (s + 1) (.inl (.object RX1, 20, (updV (fun j => ff (x j)) (p) (.ref (xe (r))))))) (o) (.inl (.int, 20, fun j => .int ((upd g (p) (nI (r))) j)))) (r + 1) (xw x p r) (upd g (p) (nI (r))) (by omega) (row_f ((jput_ne (by show (s + 1) ≠ (o); omega)).trans (jput_at)) (xw_F (u3 _ (by omega)).1)) (row_f (jput_at) (rfl)) (fun b9a hba0 hba1 => (jput_ne (by show (b9a) ≠ (o); omega)).trans ((jput_ne (by show (b9a) ≠ (s + 1); omega)).trans ((hfrb _ (by show (b9a) ≠ (s + 1); omega) (by show (b9a) ≠ (o); omega)).trans (hfra b9a hba0 hba1)))) (he2b.trans (he2a)) (by omega) (xw_back hp hx1 hx2 hst) (fun j hj => xw_b3 hp hx3 j (by omega)) (xw_b4 (by omega) hxn) (so_back hp hg1 hg2 hst)))
          · refine j_aload_n hC dX5_sortBy_60 rfl (jrf_ref _) ?_
            refine j_get (v := .ref (s + 1)) hC kf_X5_11 dX5_sortBy_61 ((hfrb _ (by show (s) ≠ (s + 1); omega) (by show (s) ≠ (o); omega)).trans ((hfra _ (by show (s) ≠ (s + 1); omega) (by show (s) ≠ (o); omega)).trans (u1))) (rfl) ?_
            refine j_iload hC dX5_sortBy_64 rfl ?_
            refine j_top (zp1 (by omega)) ?_
            refine j_iconst (v := nI 1) hC dX5_sortBy_66 (by decide) ?_
            refine n_iadd hC dX5_sortBy_67 ?_
            refine j_top (by rw [show p - 1 + 1 = p by omega]) ?_
            refine j_aload_n hC dX5_sortBy_68 rfl (jrf_ref _) ?_
            refine j_get (v := .ref (s + 1)) hC kf_X5_11 dX5_sortBy_69 ((hfrb _ (by show (s) ≠ (s + 1); omega) (by show (s) ≠ (o); omega)).trans ((hfra _ (by show (s) ≠ (s + 1); omega) (by show (s) ≠ (o); omega)).trans (u1))) (rfl) ?_
            refine j_iload hC dX5_sortBy_72 rfl ?_
            refine j_top (zp1 (by omega)) ?_
            refine c_aald (i := p - 1) (v := .ref (xe (x (p - 1)))) hC dX5_sortBy_74 (hrwb0) rfl (by omega) (by omega) ((u3 (x (p - 1)) (hxn _ (by omega))).1) ?_
            refine c_aast (i := p) hC dX5_sortBy_75 (hrwb0) (((u3 (x (p - 1)) (by first | omega | exact hxn _ (by omega))).2.mono (fun a9 o9 h9 => (hfrb a9 (fun e9 => by rw [e9, hZ1] at h9; cases h9) (fun e9 => by rw [e9, hZo] at h9; cases h9)).trans ((fun a9 o9 h9 => (hfra a9 (fun e9 => by rw [e9, hZ1] at h9; cases h9) (fun e9 => by rw [e9, hZo] at h9; cases h9)).trans (hz a9 o9 h9)) a9 o9 h9))).obj.choose_spec) rfl (by omega) (by omega) (by omega) ?_
            refine j_aload_n hC dX5_sortBy_76 rfl (jrf_ref _) ?_
            refine j_iload hC dX5_sortBy_77 rfl ?_
            refine j_top (zp1 (by omega)) ?_
            refine j_iconst (v := nI 1) hC dX5_sortBy_79 (by decide) ?_
            refine n_iadd hC dX5_sortBy_80 ?_
            refine j_top (by rw [show p - 1 + 1 = p by omega]) ?_
            refine j_aload_n hC dX5_sortBy_81 rfl (jrf_ref _) ?_
            refine j_iload hC dX5_sortBy_82 rfl ?_
            refine j_top (zp1 (by omega)) ?_
            refine c_iald (i := p - 1) (x := nI ((ordL (ltA S f dsc) r).getD (p - 1) 0)) hC dX5_sortBy_84 ((jput_ne (by show (o) ≠ (s + 1); omega)).trans (hrwb1)) (by omega) (by omega) (hg1 (p - 1) (by omega)) ?_
            refine c_iast (i := p) (x := nI ((ordL (ltA S f dsc) r).getD (p - 1) 0)) hC dX5_sortBy_85 ((jput_ne (by show (o) ≠ (s + 1); omega)).trans (hrwb1)) (by omega) (by omega) (by omega) ?_
            refine j_iload hC dX5_sortBy_86 rfl ?_
            refine j_top (zp1 (by omega)) ?_
            refine j_istore_7 hC dX5_sortBy_88 (by decide) rfl ?_
            refine j_iinc_8 (v := zI ((((p : Nat) : Int) - 1 + (-1)))) hC dX5_sortBy_90 (zI_add _ (-1)) (by decide) rfl ?_
            rw [show (((p : Nat) : Int) - 1 + (-1)) = ((p - 1 : Nat) : Int) - 1 by omega]
            refine j_goto (tgt := 39) hC dX5_sortBy_93 (by decide) ?_
            exact (ihb (jput (jput (Mrb) (s + 1) (.inl (.object RX1, 20, (updV (fun j => ff (x j)) (p) (.ref (xe (x (p - 1)))))))) (o) (.inl (.int, 20, fun j => .int ((upd g (p) (nI ((ordL (ltA S f dsc) r).getD (p - 1) 0))) j)))) (p - 1) (xw x p ((ordL (ltA S f dsc) r).getD (p - 1) 0)) (upd g (p) (nI ((ordL (ltA S f dsc) r).getD (p - 1) 0))) (by omega) (row_f ((jput_ne (by show (s + 1) ≠ (o); omega)).trans (jput_at)) (xw_F (by rw [← hx1 (p - 1) (by omega)]; exact (u3 _ (hxn _ (by omega))).1))) (row_f (jput_at) (rfl)) (fun b9b hbb0 hbb1 => (jput_ne (by show (b9b) ≠ (o); omega)).trans ((jput_ne (by show (b9b) ≠ (s + 1); omega)).trans (hfrb b9b hbb0 hbb1))) (he2b) (by omega) (xw_b1 hx1) (xw_b2 hx2) (xw_b3 hp hx3) (xw_b4 (by rw [← hx1 (p - 1) (by omega)]; exact hxn _ (by omega)) hxn) (so_b1 hg1) (so_b2 hg2) (hq.trans (insP_step (by omega) (by rw [← hx1 (p - 1) (by omega)]; assumption))))
