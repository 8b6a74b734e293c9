/-- the address block of the first f fields -/
def adrT (S : aSet) (q : aRec) : Nat → List Nat
  | 0 => []
  | f + 1 => if isLineA S q f = true then (adrT S q f ++ if cntTo (isLineA S q) f = 0 then [] else [47]) ++ q.2.2 f else adrT S q f
theorem adrT_len {S : aSet} {q : aRec} : ∀ f, (adrT S q f).length + (if cntTo (isLineA S q) f = 0 then 0 else 1) = sumTo (fun f => if isLineA S q f = true then (q.2.2 f).length + 1 else 0) f
  | 0 => rfl
  | f + 1 => by
    have ih := adrT_len (S := S) (q := q) f
    by_cases h : isLineA S q f = true
    · have e1 : adrT S q (f + 1) = (adrT S q f ++ if cntTo (isLineA S q) f = 0 then [] else [47]) ++ q.2.2 f := if_pos h
      have e2 : cntTo (isLineA S q) (f + 1) = cntTo (isLineA S q) f + 1 := congrArg (cntTo (isLineA S q) f + ·) (if_pos h)
      have e3 : sumTo (fun f => if isLineA S q f = true then (q.2.2 f).length + 1 else 0) (f + 1) = sumTo (fun f => if isLineA S q f = true then (q.2.2 f).length + 1 else 0) f + ((q.2.2 f).length + 1) := congrArg (sumTo (fun f => if isLineA S q f = true then (q.2.2 f).length + 1 else 0) f + ·) (if_pos h)
      rw [e1, e2, e3, if_neg (Nat.succ_ne_zero _), ← ih, List.length_append, List.length_append]
      by_cases h2 : cntTo (isLineA S q) f = 0
      · rw [if_pos h2, if_pos h2]
        simp only [List.length_nil]
        omega
      · rw [if_neg h2, if_neg h2]
        simp only [List.length_singleton]
        omega
    · have e1 : adrT S q (f + 1) = adrT S q f := if_neg h
      have e2 : cntTo (isLineA S q) (f + 1) = cntTo (isLineA S q) f := congrArg (cntTo (isLineA S q) f + ·) (if_neg h)
      have e3 : sumTo (fun f => if isLineA S q f = true then (q.2.2 f).length + 1 else 0) (f + 1) = sumTo (fun f => if isLineA S q f = true then (q.2.2 f).length + 1 else 0) f := congrArg (sumTo (fun f => if isLineA S q f = true then (q.2.2 f).length + 1 else 0) f + ·) (if_neg h)
      rw [e1, e2, e3]
      exact ih
theorem take_s {t : List Nat} {k : Nat} (h : k < t.length) : t.take k ++ [t.getD k 0] = t.take (k + 1) := by
  rw [List.getD_eq_getElem?_getD, List.getElem?_eq_getElem h, List.take_succ, List.getElem?_eq_getElem h]
  rfl
theorem sumTo_mono {g : Nat → Nat} : ∀ {a b : Nat}, a ≤ b → sumTo g a ≤ sumTo g b
  | a, 0, h => by rw [show a = 0 by omega]; exact Nat.le_refl _
  | a, b + 1, h => by
    by_cases e : a = b + 1
    · rw [e]; exact Nat.le_refl _
    · exact Nat.le_trans (sumTo_mono (by omega : a ≤ b)) (Nat.le_add_right _ _)
section WA
variable {S : aSet} {q : aRec} {l : List Nat} {f k : Nat} {b : Bool}
def sepT (S : aSet) (q : aRec) (f : Nat) : List Nat := if cntTo (isLineA S q) f = 0 then [] else [47]
theorem sep_len : (adrT S q f ++ sepT S q f).length = sumTo (fun f => if isLineA S q f = true then (q.2.2 f).length + 1 else 0) f := by
  rw [← adrT_len f, List.length_append, sepT]
  split <;> rfl
theorem sum_line (h : isLineA S q f = true) (hf : f < 5) : sumTo (fun f => if isLineA S q f = true then (q.2.2 f).length + 1 else 0) f + ((q.2.2 f).length + 1) ≤ addrA S q := by
  have e3 : sumTo (fun f => if isLineA S q f = true then (q.2.2 f).length + 1 else 0) (f + 1) = sumTo (fun f => if isLineA S q f = true then (q.2.2 f).length + 1 else 0) f + ((q.2.2 f).length + 1) := congrArg (sumTo (fun f => if isLineA S q f = true then (q.2.2 f).length + 1 else 0) f + ·) (if_pos h)
  rw [← e3]
  exact sumTo_mono (show f + 1 ≤ 5 by omega)
theorem wa_c (hl : l.length + addrA S q ≤ 201) (h : isLineA S q f = true) (hf : f < 5) (hk : k < (q.2.2 f).length) : (l ++ (adrT S q f ++ sepT S q f) ++ (q.2.2 f).take k).length < 200 := by
  have e := sum_line h hf
  rw [List.length_append, List.length_append, sep_len, List.length_take]
  omega
theorem wa_s (hl : l.length + addrA S q ≤ 201) (h : isLineA S q f = true) (hf : f < 5) (hc : ¬ cntTo (isLineA S q) f = 0) : (l ++ adrT S q f).length < 200 := by
  have e := sum_line h hf
  have e2 := (line_iff.mp h).1
  have e3 := adrT_len (S := S) (q := q) f
  rw [if_neg hc] at e3
  rw [List.length_append]
  omega
theorem wa_1 (hb : b = true ↔ cntTo (isLineA S q) f = 0) (h : ¬ isLineA S q f = true) : b = true ↔ cntTo (isLineA S q) (f + 1) = 0 := by
  rw [show cntTo (isLineA S q) (f + 1) = cntTo (isLineA S q) f from congrArg (cntTo (isLineA S q) f + ·) (if_neg h)]
  exact hb
theorem wa_0 (h : isLineA S q f = true) : false = true ↔ cntTo (isLineA S q) (f + 1) = 0 := by
  rw [show cntTo (isLineA S q) (f + 1) = cntTo (isLineA S q) f + 1 from congrArg (cntTo (isLineA S q) f + ·) (if_pos h)]
  exact ⟨fun e => absurd e (by decide), fun e => absurd e (by omega)⟩
theorem wa_e (h : isLineA S q f = true) (hk : (q.2.2 f).length ≤ k) : l ++ (adrT S q f ++ sepT S q f) ++ (q.2.2 f).take k = l ++ adrT S q (f + 1) := by
  rw [List.take_of_length_le hk, List.append_assoc, show adrT S q (f + 1) = (adrT S q f ++ sepT S q f) ++ q.2.2 f from if_pos h]
theorem wa_n (h : ¬ isLineA S q f = true) : adrT S q f = adrT S q (f + 1) := (show adrT S q (f + 1) = adrT S q f from if_neg h).symm
end WA
set_option maxHeartbeats 4000000 in
set_option maxRecDepth 100000 in
theorem m_X10_writesAddress {R : rR} {S : aSet} {l : List Nat} {r : Nat} (hp : rPre R S) (hr : r < (sRecs S).length) (hl : l.length + addrA S (sAt S r) ≤ 201) : RV jX10_writesAddress 4 [.int (nI r)] (mdR R l) (mdR R (l ++ adrT S (sAt S r) 5)) := by
  intro G o M0 hs hBo
  refine jMet_of [some (.ref o), some (.int (nI r)), none, none, none] (by decide) rfl (Nat.le_of_ble_eq_true rfl) rfl hs ?_
  intro C hC9 hG
  have hC := hC9.z
  have hB : jB C ≤ o := by rw [jB, hG]; exact hBo
  have hl12 := fun f hf => rp_l12 (f := f) hp hr hf
  have hcr : ∀ f, f < 5 → ∀ j, j < ((sAt S r).2.2 f).length → ((sAt S r).2.2 f).getD j 0 ≤ 126 := fun f hf j hj => (getD_lt126 ((rp_recOK hp hr).2.2 f hf).2 hj).2
  refine j_iconst (v := nI 1) hC dX10_writesAddress_0 (by decide) ?_
  refine j_istore_n2 hC dX10_writesAddress_1 (by decide) rfl ?_
  refine j_iconst (v := nI 0) hC dX10_writesAddress_2 (by decide) ?_
  refine j_istore_n3 hC dX10_writesAddress_3 (by decide) rfl ?_
  suffices K : ∀ (n9a : Nat) (f : Nat) (b : Bool), 5 - f < n9a → (f ≤ 5) → (b = true ↔ cntTo (isLineA S (sAt S r)) f = 0) → J C (rM o M0 ((mdR R (l ++ adrT S (sAt S r) f)))) 0 0 4 [some (.ref o), some (.int (nI (r))), some (.int (jb (b = true))), some (.int (nI (f))), none] [] from j_R (by rw [show adrT S (sAt S r) 0 = [] from rfl, List.append_nil]) (K _ (0) (true) (Nat.lt_succ_self _) (by omega) (⟨fun _ => rfl, fun _ => rfl⟩))
  intro n9a
  induction n9a with
  | zero => intro f b hm; omega
  | succ n9a iha =>
    intro f b hma hf hb
    refine j_iload_n hC dX10_writesAddress_4 rfl ?_
    refine j_iconst (v := nI 5) hC dX10_writesAddress_5 (by decide) ?_
    refine n_icmp_ge (tgt := 71) hC dX10_writesAddress_6 (by decide) (by omega) (by omega) (fun c1 => ?_) (fun c1 => ?_)
    · exact j_vret hC9 rfl dX10_writesAddress_71 ⟨_, ⟨rfl, (by rw [show f = 5 by omega])⟩, rfl⟩
    · refine j_aload_n hC dX10_writesAddress_9 rfl (jrf_ref _) ?_
      refine j_iload_n hC dX10_writesAddress_10 rfl ?_
      refine j_iload_n hC dX10_writesAddress_11 rfl ?_
      refine r_ci2 hC kv_X10_137 dX10_writesAddress_12 (m_X10_isLine (show rPre ((mdR R (l ++ adrT S (sAt S r) f))) S from hp) (by assumption) (by omega)) hB rfl (by decide) (Nat.le_of_ble_eq_true rfl) ?_
      refine jb_if_ne (tgt := 21) hC dX10_writesAddress_15 (by decide) (fun c2 => ?_) (fun c2 => ?_)
      · have hline : isLineA S (sAt S r) f = true := by assumption
        have hlf := hl12 f (by omega)
        refine j_iload_n hC dX10_writesAddress_21 rfl ?_
        refine jb_if_ne (tgt := 31) hC dX10_writesAddress_22 (by decide) (fun c3 => ?_) (fun c3 => ?_)
        · refine j_R (R' := (mdR R ((l ++ (adrT S (sAt S r) f ++ sepT S (sAt S r) f)) ++ ((sAt S r).2.2 f).take 0))) (by rw [List.take_zero, List.append_nil, sepT]; first | (rw [if_pos (hb.mp (by assumption)), List.append_nil]) | (rw [if_neg (fun e => absurd (hb.mpr e) (by assumption)), ← List.append_assoc])) ?_
          refine j_iconst (v := nI 0) hC dX10_writesAddress_31 (by decide) ?_
          refine j_istore_n2 hC dX10_writesAddress_32 (by decide) rfl ?_
          refine j_iconst (v := nI 0) hC dX10_writesAddress_33 (by decide) ?_
          refine j_istore_4 hC dX10_writesAddress_34 (by decide) rfl ?_
          suffices K : ∀ (n9b : Nat) (k : Nat), ((sAt S r).2.2 f).length - k < n9b → (k ≤ ((sAt S r).2.2 f).length) → J C (rM o M0 ((mdR R ((l ++ (adrT S (sAt S r) f ++ sepT S (sAt S r) f)) ++ ((sAt S r).2.2 f).take k)))) 0 0 36 [some (.ref o), some (.int (nI (r))), some (.int (nI (0))), some (.int (nI (f))), some (.int (nI (k)))] [] from j_R (rfl) (K _ (0) (Nat.lt_succ_self _) (Nat.zero_le _))
          intro n9b
          induction n9b with
          | zero => intro k hm; omega
          | succ n9b ihb =>
            intro k hmb hk
            refine j_iload hC dX10_writesAddress_36 rfl ?_
            refine j_aload_n hC dX10_writesAddress_38 rfl (jrf_ref _) ?_
            refine j_iload_n hC dX10_writesAddress_39 rfl ?_
            refine j_iload_n hC dX10_writesAddress_40 rfl ?_
            refine r_ci2 hC kv_X10_109 dX10_writesAddress_41 (m_X10_longOf (show rPre ((mdR R ((l ++ (adrT S (sAt S r) f ++ sepT S (sAt S r) f)) ++ ((sAt S r).2.2 f).take k))) S from hp) (by assumption) (by omega)) hB rfl (by decide) (Nat.le_of_ble_eq_true rfl) ?_
            refine n_icmp_ge (tgt := 65) hC dX10_writesAddress_44 (by decide) (by omega) (by omega) (fun c4 => ?_) (fun c4 => ?_)
            · refine j_iinc_3 (v := nI (f + 1)) hC dX10_writesAddress_65 (nI_add _ _) (by decide) rfl ?_
              refine j_goto (tgt := 4) hC dX10_writesAddress_68 (by decide) ?_
              exact j_R (congrArg (mdR R) (wa_e hline (by omega))) (j_L (jle_s (jle_s (jle_s (jle_s (jle_n (jle_0)))))) (iha (f + 1) (false) (by omega) (by omega) (by first | exact wa_1 hb (by assumption) | exact wa_0 (by assumption))))
            · refine j_aload_n hC dX10_writesAddress_47 rfl (jrf_ref _) ?_
              refine j_aload_n hC dX10_writesAddress_48 rfl (jrf_ref _) ?_
              refine j_iload_n hC dX10_writesAddress_49 rfl ?_
              refine j_iload_n hC dX10_writesAddress_50 rfl ?_
              refine j_iload hC dX10_writesAddress_51 rfl ?_
              refine r_ci3 hC kv_X10_113 dX10_writesAddress_53 (m_X10_charOf (show rPre ((mdR R ((l ++ (adrT S (sAt S r) f ++ sepT S (sAt S r) f)) ++ ((sAt S r).2.2 f).take k))) S from hp) (by assumption) (by omega) (by omega)) hB rfl (by decide) (Nat.le_of_ble_eq_true rfl) ?_
              refine r_cv1 hC kv_X10_218 dX10_writesAddress_56 (m_X10_writes (R := R) (l := ((l ++ (adrT S (sAt S r) f ++ sepT S (sAt S r) f)) ++ ((sAt S r).2.2 f).take k)) (c := ((sAt S (r)).2.2 (f)).getD (k) 0) (wa_c hl hline (by omega) (by omega))) hB rfl (by decide) (Nat.le_of_ble_eq_true rfl) ?_
              refine j_iinc_4 (v := nI (k + 1)) hC dX10_writesAddress_59 (nI_add _ _) (by decide) rfl ?_
              refine j_goto (tgt := 36) hC dX10_writesAddress_62 (by decide) ?_
              exact j_R (by rw [List.append_assoc, take_s (by omega)]) (ihb (k + 1) (by omega) (by omega))
        · refine j_aload_n hC dX10_writesAddress_25 rfl (jrf_ref _) ?_
          refine j_bipush (v := nI 47) hC dX10_writesAddress_26 (by decide) ?_
          refine r_cv1 hC kv_X10_218 dX10_writesAddress_28 (m_X10_writes (R := R) (l := (l ++ adrT S (sAt S r) f)) (c := 47) (wa_s hl hline (by omega) (fun e => absurd (hb.mpr e) (by assumption)))) hB rfl (by decide) (Nat.le_of_ble_eq_true rfl) ?_
          refine j_R (R' := (mdR R ((l ++ (adrT S (sAt S r) f ++ sepT S (sAt S r) f)) ++ ((sAt S r).2.2 f).take 0))) (by rw [List.take_zero, List.append_nil, sepT]; first | (rw [if_pos (hb.mp (by assumption)), List.append_nil]) | (rw [if_neg (fun e => absurd (hb.mpr e) (by assumption)), ← List.append_assoc])) ?_
          refine j_iconst (v := nI 0) hC dX10_writesAddress_31 (by decide) ?_
          refine j_istore_n2 hC dX10_writesAddress_32 (by decide) rfl ?_
          refine j_iconst (v := nI 0) hC dX10_writesAddress_33 (by decide) ?_
          refine j_istore_4 hC dX10_writesAddress_34 (by decide) rfl ?_
          suffices K : ∀ (n9b : Nat) (k : Nat), ((sAt S r).2.2 f).length - k < n9b → (k ≤ ((sAt S r).2.2 f).length) → J C (rM o M0 ((mdR R ((l ++ (adrT S (sAt S r) f ++ sepT S (sAt S r) f)) ++ ((sAt S r).2.2 f).take k)))) 0 0 36 [some (.ref o), some (.int (nI (r))), some (.int (nI (0))), some (.int (nI (f))), some (.int (nI (k)))] [] from j_R (rfl) (K _ (0) (Nat.lt_succ_self _) (Nat.zero_le _))
          intro n9b
          induction n9b with
          | zero => intro k hm; omega
          | succ n9b ihb =>
            intro k hmb hk
            refine j_iload hC dX10_writesAddress_36 rfl ?_
            refine j_aload_n hC dX10_writesAddress_38 rfl (jrf_ref _) ?_
            refine j_iload_n hC dX10_writesAddress_39 rfl ?_
            refine j_iload_n hC dX10_writesAddress_40 rfl ?_
            refine r_ci2 hC kv_X10_109 dX10_writesAddress_41 (m_X10_longOf (show rPre ((mdR R ((l ++ (adrT S (sAt S r) f ++ sepT S (sAt S r) f)) ++ ((sAt S r).2.2 f).take k))) S from hp) (by assumption) (by omega)) hB rfl (by decide) (Nat.le_of_ble_eq_true rfl) ?_
            refine n_icmp_ge (tgt := 65) hC dX10_writesAddress_44 (by decide) (by omega) (by omega) (fun c5 => ?_) (fun c5 => ?_)
            · refine j_iinc_3 (v := nI (f + 1)) hC dX10_writesAddress_65 (nI_add _ _) (by decide) rfl ?_
              refine j_goto (tgt := 4) hC dX10_writesAddress_68 (by decide) ?_
              exact j_R (congrArg (mdR R) (wa_e hline (by omega))) (j_L (jle_s (jle_s (jle_s (jle_s (jle_n (jle_0)))))) (iha (f + 1) (false) (by omega) (by omega) (by first | exact wa_1 hb (by assumption) | exact wa_0 (by assumption))))
            · refine j_aload_n hC dX10_writesAddress_47 rfl (jrf_ref _) ?_
              refine j_aload_n hC dX10_writesAddress_48 rfl (jrf_ref _) ?_
              refine j_iload_n hC dX10_writesAddress_49 rfl ?_
              refine j_iload_n hC dX10_writesAddress_50 rfl ?_
              refine j_iload hC dX10_writesAddress_51 rfl ?_
              refine r_ci3 hC kv_X10_113 dX10_writesAddress_53 (m_X10_charOf (show rPre ((mdR R ((l ++ (adrT S (sAt S r) f ++ sepT S (sAt S r) f)) ++ ((sAt S r).2.2 f).take k))) S from hp) (by assumption) (by omega) (by omega)) hB rfl (by decide) (Nat.le_of_ble_eq_true rfl) ?_
              refine r_cv1 hC kv_X10_218 dX10_writesAddress_56 (m_X10_writes (R := R) (l := ((l ++ (adrT S (sAt S r) f ++ sepT S (sAt S r) f)) ++ ((sAt S r).2.2 f).take k)) (c := ((sAt S (r)).2.2 (f)).getD (k) 0) (wa_c hl hline (by omega) (by omega))) hB rfl (by decide) (Nat.le_of_ble_eq_true rfl) ?_
              refine j_iinc_4 (v := nI (k + 1)) hC dX10_writesAddress_59 (nI_add _ _) (by decide) rfl ?_
              refine j_goto (tgt := 36) hC dX10_writesAddress_62 (by decide) ?_
              exact j_R (by rw [List.append_assoc, take_s (by omega)]) (ihb (k + 1) (by omega) (by omega))
      · refine j_goto (tgt := 65) hC dX10_writesAddress_18 (by decide) ?_
        refine j_iinc_3 (v := nI (f + 1)) hC dX10_writesAddress_65 (nI_add _ _) (by decide) rfl ?_
        refine j_goto (tgt := 4) hC dX10_writesAddress_68 (by decide) ?_
        exact j_R (by rw [wa_n (by assumption)]) (iha (f + 1) (b) (by omega) (by omega) (by first | exact wa_1 hb (by assumption) | exact wa_0 (by assumption)))
