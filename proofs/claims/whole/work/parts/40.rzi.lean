theorem ft_s {l : List Nat} {k : Nat} (h : l.Pairwise (fun a b => b < a)) : l.filter (fun a => decide (a < k + 1)) = if k ∈ l then k :: l.filter (fun a => decide (a < k)) else l.filter (fun a => decide (a < k)) := by
  induction l with
  | nil => rfl
  | cons x l ih =>
    have h1 := List.pairwise_cons.mp h
    rw [List.filter_cons, List.filter_cons, ih h1.2]
    by_cases e : x = k
    · subst e
      have hn : x ∉ l := fun q => absurd (h1.1 x q) (by omega)
      rw [if_pos (decide_eq_true (by omega)), if_neg hn, if_pos List.mem_cons_self, if_neg (by simp)]
    · have hm : (k ∈ x :: l) ↔ k ∈ l := ⟨fun q => (List.mem_cons.mp q).elim (fun q => absurd q.symm e) id, fun q => List.mem_cons_of_mem _ q⟩
      by_cases c : x < k
      · have hn : k ∉ l := fun q => absurd (h1.1 k q) (by omega)
        rw [if_pos (decide_eq_true (by omega)), if_neg hn, if_neg (fun q => hn (hm.mp q)), if_pos (decide_eq_true c)]
      · have d1 : ¬ decide (x < k + 1) = true := fun q => absurd (of_decide_eq_true q) (by omega)
        have d2 : ¬ decide (x < k) = true := fun q => absurd (of_decide_eq_true q) (by omega)
        rw [if_neg d1, if_neg d2]
        by_cases q : k ∈ l
        · rw [if_pos q, if_pos (hm.mpr q)]
        · rw [if_neg q, if_neg (fun q2 => q (hm.mp q2))]
theorem ft_all {l : List Nat} {k : Nat} (h : ∀ a ∈ l, a < k) : l.filter (fun a => decide (a < k)) = l := by
  rw [List.filter_eq_self]
  exact fun a ha => decide_eq_true (h a ha)
theorem rs_rs {R : rR} {k : Nat} {a b : Int32} : rs (rs R k a) k b = rs R k b := by
  refine Prod.ext (funext fun j => ?_) rfl
  show (if j = k then b else if j = k then a else R.1 j) = if j = k then b else R.1 j
  split <;> rfl
theorem jb_inL {v : Int32} {n : Nat} (hn : n < 2 ^ 31) : jb (nI 0 ≤ v ∧ v ≤ nI n - nI 1) = jb (jin v n = true) := jb_in hn
/-- the brackets around an item, among the first k items -/
def pfx (x : pIt) (k : Nat) : List Nat := (iPath x).filter (fun a => decide (a < k))
theorem pfx_0 {x : pIt} : pfx x 0 = [] := by
  rw [pfx, List.filter_eq_nil_iff]
  intro a _
  simp only [decide_eq_true_eq]
  omega
theorem pfx_no {x : pIt} {k : Nat} (h : k ∉ iPath x) : pfx x (k + 1) = pfx x k := by
  unfold pfx
  refine List.filter_congr fun a ha => ?_
  have : a ≠ k := fun e => h (e ▸ ha)
  exact decide_eq_decide.mpr (by omega)
theorem pfx_s {x : pIt} {k : Nat} (hp : (iPath x).Pairwise (fun a b => b < a)) (h : k ∈ iPath x) : pfx x (k + 1) = k :: pfx x k := by
  unfold pfx
  rw [ft_s hp, if_pos h]
theorem pfx_t {op : List Nat} {j k t : Nat} (hop : op = []) (h : k ∈ op ∨ j < t) (h2 : t ≤ j) : False := by
  rcases h with h | h
  · rw [hop] at h; exact absurd h List.not_mem_nil
  · omega
theorem pfx_all {x : pIt} {k : Nat} (h : ∀ a ∈ iPath x, a < k) : pfx x k = iPath x := ft_all h
set_option maxHeartbeats 4000000 in
set_option maxRecDepth 100000 in
theorem m_X10_deepOf {R : rR} {L : List Nat} {P : pP} {j : Nat} (hwk : prW R P) (hwt : ∀ i, i < (pIts P).length → R.2 21 i = nI (iTill (pAtI (pIts P) i))) (hwf : wfP L (pIts P) (pCos P) (pOp P)) (hop : pOp P = []) (hl : (pIts P).length ≤ 120) (hj : j < (pIts P).length) : RI jX10_deepOf 0 [.int (nI j)] R (nI (iPath (pAtI (pIts P) j)).length) (rs R 26 (zI (optZ (iPath (pAtI (pIts P) j)).head?))) := by
  intro G o M0 hs hBo
  refine jMet_of [some (.ref o), some (.int (nI j)), none, none] (by decide) rfl (Nat.le_of_ble_eq_true rfl) rfl hs ?_
  intro C hC9 hG
  have hC := hC9.z
  have hB : jB C ≤ o := by rw [jB, hG]; exact hBo
  obtain ⟨c1, c2, c3, c4, c5, c6, c7, c8, c9, c10, c11, c12⟩ := hwf.1 j hj
  have hkb : ∀ i, i < (pIts P).length → iKind (pAtI (pIts P) i) ≤ 5 := fun i hi => (hwf.1 i hi).1
  have htb : ∀ i, i < (pIts P).length → iTill (pAtI (pIts P) i) ≤ 121 := fun i hi => by
    have w := hwf.1 i hi
    by_cases e : iKind (pAtI (pIts P) i) = 5
    · have := (w.2.2.2.2.2.2.1 e (by rw [hop]; exact List.not_mem_nil)).2; omega
    · have := w.2.2.2.2.2.2.2.1 e; omega
  refine j_iconst (v := nI 0) hC dX10_deepOf_0 (by decide) ?_
  refine j_istore_n2 hC dX10_deepOf_1 (by decide) rfl ?_
  refine j_aload_n hC dX10_deepOf_2 rfl (jrf_ref _) ?_
  refine j_iconst (v := zI (-1)) hC dX10_deepOf_3 (by decide) ?_
  refine r_put hC kp_X10_202 dX10_deepOf_4 hB rfl rfl rF_set_26 ?_
  refine j_iconst (v := nI 0) hC dX10_deepOf_7 (by decide) ?_
  refine j_istore_n3 hC dX10_deepOf_8 (by decide) rfl ?_
  suffices K : ∀ (n9 : Nat) (k : Nat) (n : Nat), j - k < n9 → (k ≤ j) → (n = (pfx (pAtI (pIts P) j) k).length) → J C (rM o M0 (rs R 26 (zI (optZ (pfx (pAtI (pIts P) j) k).head?)))) 0 0 9 [some (.ref o), some (.int (nI (j))), some (.int (nI (n))), some (.int (nI (k)))] [] from j_R (by rw [pfx_0]; rfl) (K _ (0) (0) (Nat.lt_succ_self _) (Nat.zero_le _) (by rw [pfx_0]; rfl))
  intro n9
  induction n9 with
  | zero => intro k n hm; omega
  | succ n9 ih =>
    intro k n hm hk hn
    refine j_iload_n hC dX10_deepOf_9 rfl ?_
    refine j_iload_n hC dX10_deepOf_10 rfl ?_
    refine n_icmp_ge (tgt := 51) hC dX10_deepOf_11 (by decide) (by omega) (by omega) (fun c1 => ?_) (fun c1 => ?_)
    · refine j_iload_n hC dX10_deepOf_51 rfl ?_
      exact j_iret hC9 rfl rfl dX10_deepOf_52 ⟨_, ⟨(jv (by rw [hn, show k = j by omega, pfx_all (fun a ha => ((c9 a).mp ha).1)])), (by rw [show k = j by omega, pfx_all (fun a ha => ((c9 a).mp ha).1)])⟩, rfl⟩
    · have hk5 := hkb k (by omega)
      have ht5 := htb k (by omega)
      refine j_aload_n hC dX10_deepOf_14 rfl (jrf_ref _) ?_
      refine r_get hC kf_X10_32 dX10_deepOf_15 rfl ?_
      refine j_iload_n hC dX10_deepOf_18 rfl ?_
      refine r_aldN (k := 17) (j := k) (x := nI (iKind (pAtI (pIts P) (k)))) hC dX10_deepOf_19 (c := 7) (n := 120) (by decide) rfl rfl (by omega) (by decide) ((hwk.2.2.2.2.1 _ (by omega)).1) ?_
      refine j_iconst (v := nI 5) hC dX10_deepOf_20 (by decide) ?_
      refine n_icmp_ne (tgt := 45) hC dX10_deepOf_21 (by decide) (by omega) (by omega) (fun c2 => ?_) (fun c2 => ?_)
      · refine j_iinc_3 (v := nI (k + 1)) hC dX10_deepOf_45 (nI_add _ _) (by decide) rfl ?_
        refine j_goto (tgt := 9) hC dX10_deepOf_48 (by decide) ?_
        exact j_R (by first | rw [pfx_no (fun q => (show ¬ iKind (pAtI (pIts P) k) = 5 by assumption) ((c9 k).mp q).2.1)] | rw [pfx_no (fun q => pfx_t hop ((c9 k).mp q).2.2 (by assumption))] | (rw [pfx_s c11 ((c9 k).mpr ⟨by omega, by assumption, Or.inr (by assumption)⟩)]; exact rs_rs)) (ih (k + 1) (n) (by omega) (by omega) (by first | (rw [pfx_no (fun q => (show ¬ iKind (pAtI (pIts P) k) = 5 by assumption) ((c9 k).mp q).2.1)]; exact hn) | (rw [pfx_no (fun q => pfx_t hop ((c9 k).mp q).2.2 (by assumption))]; exact hn) | (rw [pfx_s c11 ((c9 k).mpr ⟨by omega, by assumption, Or.inr (by assumption)⟩), List.length_cons, hn])))
      · refine j_aload_n hC dX10_deepOf_24 rfl (jrf_ref _) ?_
        refine r_get hC kf_X10_44 dX10_deepOf_25 rfl ?_
        refine j_iload_n hC dX10_deepOf_28 rfl ?_
        refine r_aldN (k := 21) (j := k) (x := nI (iTill (pAtI (pIts P) (k)))) hC dX10_deepOf_29 (c := 11) (n := 120) (by decide) rfl rfl (by omega) (by decide) (hwt _ (by omega)) ?_
        refine j_iload_n hC dX10_deepOf_30 rfl ?_
        refine n_icmp_gt (tgt := 37) hC dX10_deepOf_31 (by decide) (by omega) (by omega) (fun c3 => ?_) (fun c3 => ?_)
        · refine j_iinc_2 (v := nI (n + 1)) hC dX10_deepOf_37 (nI_add _ _) (by decide) rfl ?_
          refine j_aload_n hC dX10_deepOf_40 rfl (jrf_ref _) ?_
          refine j_iload_n hC dX10_deepOf_41 rfl ?_
          refine r_put hC kp_X10_202 dX10_deepOf_42 hB rfl rfl rF_set_26 ?_
          refine j_iinc_3 (v := nI (k + 1)) hC dX10_deepOf_45 (nI_add _ _) (by decide) rfl ?_
          refine j_goto (tgt := 9) hC dX10_deepOf_48 (by decide) ?_
          exact j_R (by first | rw [pfx_no (fun q => (show ¬ iKind (pAtI (pIts P) k) = 5 by assumption) ((c9 k).mp q).2.1)] | rw [pfx_no (fun q => pfx_t hop ((c9 k).mp q).2.2 (by assumption))] | (rw [pfx_s c11 ((c9 k).mpr ⟨by omega, by assumption, Or.inr (by assumption)⟩)]; exact rs_rs)) (ih (k + 1) (n + 1) (by omega) (by omega) (by first | (rw [pfx_no (fun q => (show ¬ iKind (pAtI (pIts P) k) = 5 by assumption) ((c9 k).mp q).2.1)]; exact hn) | (rw [pfx_no (fun q => pfx_t hop ((c9 k).mp q).2.2 (by assumption))]; exact hn) | (rw [pfx_s c11 ((c9 k).mpr ⟨by omega, by assumption, Or.inr (by assumption)⟩), List.length_cons, hn])))
        · refine j_goto (tgt := 45) hC dX10_deepOf_34 (by decide) ?_
          refine j_iinc_3 (v := nI (k + 1)) hC dX10_deepOf_45 (nI_add _ _) (by decide) rfl ?_
          refine j_goto (tgt := 9) hC dX10_deepOf_48 (by decide) ?_
          exact j_R (by first | rw [pfx_no (fun q => (show ¬ iKind (pAtI (pIts P) k) = 5 by assumption) ((c9 k).mp q).2.1)] | rw [pfx_no (fun q => pfx_t hop ((c9 k).mp q).2.2 (by assumption))] | (rw [pfx_s c11 ((c9 k).mpr ⟨by omega, by assumption, Or.inr (by assumption)⟩)]; exact rs_rs)) (ih (k + 1) (n) (by omega) (by omega) (by first | (rw [pfx_no (fun q => (show ¬ iKind (pAtI (pIts P) k) = 5 by assumption) ((c9 k).mp q).2.1)]; exact hn) | (rw [pfx_no (fun q => pfx_t hop ((c9 k).mp q).2.2 (by assumption))]; exact hn) | (rw [pfx_s c11 ((c9 k).mpr ⟨by omega, by assumption, Or.inr (by assumption)⟩), List.length_cons, hn])))
