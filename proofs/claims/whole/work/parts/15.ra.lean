set_option maxHeartbeats 4000000 in
set_option maxRecDepth 100000 in
theorem m_X10_in {v a b : Int32} : SI jX10_in 0 [.int v, .int a, .int b] (jb (a ≤ v ∧ v ≤ b)) := by
  intro G M0 hs
  refine jMet_of [some (.int v), some (.int a), some (.int b)] (by decide) rfl (Nat.le_of_ble_eq_true rfl) rfl hs ?_
  intro C hC9 hG
  have hC := hC9.z
  refine j_iload_n hC dX10_in_0 rfl ?_
  refine j_iload_n hC dX10_in_1 rfl ?_
  refine j_icmp_lt (tgt := 14) hC dX10_in_2 (by decide) (fun c1 => ?_) (fun c1 => ?_)
  · refine j_iconst (v := nI 0) hC dX10_in_14 (by decide) ?_
    exact j_iret hC9 rfl rfl dX10_in_15 ⟨(by rw [jb_f (fun h => by first | exact absurd c2 (Int32.not_lt.mpr h.2) | exact absurd c1 (Int32.not_lt.mpr h.1))]; rfl), rfl⟩
  · refine j_iload_n hC dX10_in_5 rfl ?_
    refine j_iload_n hC dX10_in_6 rfl ?_
    refine j_icmp_gt (tgt := 14) hC dX10_in_7 (by decide) (fun c2 => ?_) (fun c2 => ?_)
    · refine j_iconst (v := nI 0) hC dX10_in_14 (by decide) ?_
      exact j_iret hC9 rfl rfl dX10_in_15 ⟨(by rw [jb_f (fun h => by first | exact absurd c2 (Int32.not_lt.mpr h.2) | exact absurd c1 (Int32.not_lt.mpr h.1))]; rfl), rfl⟩
    · refine j_iconst (v := nI 1) hC dX10_in_10 (by decide) ?_
      refine j_goto (tgt := 15) hC dX10_in_11 (by decide) ?_
      exact j_iret hC9 rfl rfl dX10_in_15 ⟨(by rw [jb_t ⟨Int32.not_lt.mp c1, Int32.not_lt.mp c2⟩]; rfl), rfl⟩
set_option maxHeartbeats 4000000 in
set_option maxRecDepth 100000 in
theorem m_X10_groupOf {R : rR} {S : aSet} {r : Nat} (hp : rPre R S) (hr : r < (sRecs S).length) : RI jX10_groupOf 0 [.int (nI r)] R (nI (sAt S r).1) R := by
  intro G o M0 hs hBo
  refine jMet_of [some (.ref o), some (.int (nI r))] (by decide) rfl (Nat.le_of_ble_eq_true rfl) rfl hs ?_
  intro C hC9 hG
  have hC := hC9.z
  have hB : jB C ≤ o := by rw [jB, hG]; exact hBo
  have hr20 := rp_r20 hp hr
  refine j_aload_n hC dX10_groupOf_0 rfl (jrf_ref _) ?_
  refine r_get hC kf_X10_9 dX10_groupOf_1 rfl ?_
  refine j_sipush (v := nI 139) hC dX10_groupOf_4 (by decide) ?_
  refine j_bipush (v := nI 67) hC dX10_groupOf_7 (by decide) ?_
  refine j_iload_n hC dX10_groupOf_9 rfl ?_
  refine n_imul hC dX10_groupOf_10 ?_
  refine n_iadd hC dX10_groupOf_11 ?_
  refine r_ald (k := 1) (j := (139) + (67 * r)) hC dX10_groupOf_12 (c := 1) (n := 14790) (by decide) rfl rfl (by omega) (by decide) ?_
  exact j_iret hC9 rfl rfl dX10_groupOf_13 ⟨_, ⟨by rw [rp_group hp hr], rfl⟩, rfl⟩
set_option maxHeartbeats 4000000 in
set_option maxRecDepth 100000 in
theorem m_X10_countOf {R : rR} {S : aSet} {r : Nat} (hp : rPre R S) (hr : r < (sRecs S).length) : RI jX10_countOf 0 [.int (nI r)] R (nI (sAt S r).2.1) R := by
  intro G o M0 hs hBo
  refine jMet_of [some (.ref o), some (.int (nI r))] (by decide) rfl (Nat.le_of_ble_eq_true rfl) rfl hs ?_
  intro C hC9 hG
  have hC := hC9.z
  have hB : jB C ≤ o := by rw [jB, hG]; exact hBo
  have hr20 := rp_r20 hp hr
  refine j_aload_n hC dX10_countOf_0 rfl (jrf_ref _) ?_
  refine r_get hC kf_X10_9 dX10_countOf_1 rfl ?_
  refine j_sipush (v := nI 139) hC dX10_countOf_4 (by decide) ?_
  refine j_bipush (v := nI 67) hC dX10_countOf_7 (by decide) ?_
  refine j_iload_n hC dX10_countOf_9 rfl ?_
  refine n_imul hC dX10_countOf_10 ?_
  refine n_iadd hC dX10_countOf_11 ?_
  refine j_iconst (v := nI 1) hC dX10_countOf_12 (by decide) ?_
  refine n_iadd hC dX10_countOf_13 ?_
  refine r_ald (k := 1) (j := ((139) + (67 * r)) + (1)) hC dX10_countOf_14 (c := 1) (n := 14790) (by decide) rfl rfl (by omega) (by decide) ?_
  exact j_iret hC9 rfl rfl dX10_countOf_15 ⟨_, ⟨by rw [rp_count hp hr], rfl⟩, rfl⟩
set_option maxHeartbeats 4000000 in
set_option maxRecDepth 100000 in
theorem m_X10_longOf {R : rR} {S : aSet} {r f : Nat} (hp : rPre R S) (hr : r < (sRecs S).length) (hf : f < 5) : RI jX10_longOf 0 [.int (nI r), .int (nI f)] R (nI ((sAt S r).2.2 f).length) R := by
  intro G o M0 hs hBo
  refine jMet_of [some (.ref o), some (.int (nI r)), some (.int (nI f))] (by decide) rfl (Nat.le_of_ble_eq_true rfl) rfl hs ?_
  intro C hC9 hG
  have hC := hC9.z
  have hB : jB C ≤ o := by rw [jB, hG]; exact hBo
  have hr20 := rp_r20 hp hr
  refine j_aload_n hC dX10_longOf_0 rfl (jrf_ref _) ?_
  refine r_get hC kf_X10_9 dX10_longOf_1 rfl ?_
  refine j_sipush (v := nI 139) hC dX10_longOf_4 (by decide) ?_
  refine j_bipush (v := nI 67) hC dX10_longOf_7 (by decide) ?_
  refine j_iload_n hC dX10_longOf_9 rfl ?_
  refine n_imul hC dX10_longOf_10 ?_
  refine n_iadd hC dX10_longOf_11 ?_
  refine j_iconst (v := nI 2) hC dX10_longOf_12 (by decide) ?_
  refine n_iadd hC dX10_longOf_13 ?_
  refine j_iload_n hC dX10_longOf_14 rfl ?_
  refine n_iadd hC dX10_longOf_15 ?_
  refine r_ald (k := 1) (j := (((139) + (67 * r)) + (2)) + (f)) hC dX10_longOf_16 (c := 1) (n := 14790) (by decide) rfl rfl (by omega) (by decide) ?_
  exact j_iret hC9 rfl rfl dX10_longOf_17 ⟨_, ⟨by rw [rp_long hp hr hf], rfl⟩, rfl⟩
set_option maxHeartbeats 4000000 in
set_option maxRecDepth 100000 in
theorem m_X10_charOf {R : rR} {S : aSet} {r f i : Nat} (hp : rPre R S) (hr : r < (sRecs S).length) (hf : f < 5) (hi : i < ((sAt S r).2.2 f).length) : RI jX10_charOf 0 [.int (nI r), .int (nI f), .int (nI i)] R (nI (((sAt S r).2.2 f).getD i 0)) R := by
  intro G o M0 hs hBo
  refine jMet_of [some (.ref o), some (.int (nI r)), some (.int (nI f)), some (.int (nI i))] (by decide) rfl (Nat.le_of_ble_eq_true rfl) rfl hs ?_
  intro C hC9 hG
  have hC := hC9.z
  have hB : jB C ≤ o := by rw [jB, hG]; exact hBo
  have hr20 := rp_r20 hp hr
  have hl := rp_l12 hp hr hf
  refine j_aload_n hC dX10_charOf_0 rfl (jrf_ref _) ?_
  refine r_get hC kf_X10_9 dX10_charOf_1 rfl ?_
  refine j_sipush (v := nI 139) hC dX10_charOf_4 (by decide) ?_
  refine j_bipush (v := nI 67) hC dX10_charOf_7 (by decide) ?_
  refine j_iload_n hC dX10_charOf_9 rfl ?_
  refine n_imul hC dX10_charOf_10 ?_
  refine n_iadd hC dX10_charOf_11 ?_
  refine j_bipush (v := nI 7) hC dX10_charOf_12 (by decide) ?_
  refine n_iadd hC dX10_charOf_14 ?_
  refine j_bipush (v := nI 12) hC dX10_charOf_15 (by decide) ?_
  refine j_iload_n hC dX10_charOf_17 rfl ?_
  refine n_imul hC dX10_charOf_18 ?_
  refine n_iadd hC dX10_charOf_19 ?_
  refine j_iload_n hC dX10_charOf_20 rfl ?_
  refine n_iadd hC dX10_charOf_21 ?_
  refine r_ald (k := 1) (j := ((((139) + (67 * r)) + (7)) + (12 * f)) + (i)) hC dX10_charOf_22 (c := 1) (n := 14790) (by decide) rfl rfl (by omega) (by decide) ?_
  exact j_iret hC9 rfl rfl dX10_charOf_23 ⟨_, ⟨by rw [rp_char hp hr hf hi], rfl⟩, rfl⟩
set_option maxHeartbeats 4000000 in
set_option maxRecDepth 100000 in
theorem m_X10_isRecord {R : rR} {S : aSet} {v : Int32} (hp : rPre R S) : RI jX10_isRecord 1 [.int v] R (jb (jin v (sRecs S).length = true)) R := by
  intro G o M0 hs hBo
  refine jMet_of [some (.ref o), some (.int v)] (by decide) rfl (Nat.le_of_ble_eq_true rfl) rfl hs ?_
  intro C hC9 hG
  have hC := hC9.z
  have hB : jB C ≤ o := by rw [jB, hG]; exact hBo
  have h20 := rp_n20 hp
  refine j_iload_n hC dX10_isRecord_0 rfl ?_
  refine j_iconst (v := nI 0) hC dX10_isRecord_1 (by decide) ?_
  refine j_aload_n hC dX10_isRecord_2 rfl (jrf_ref _) ?_
  refine r_get hC kf_X10_9 dX10_isRecord_3 rfl ?_
  refine j_iconst (v := nI 0) hC dX10_isRecord_6 (by decide) ?_
  refine r_aldN (k := 1) (j := 0) (x := nI ((sRecs S).length)) hC dX10_isRecord_7 (c := 1) (n := 14790) (by decide) rfl rfl (by omega) (by decide) (rp_many hp) ?_
  refine j_iconst (v := nI 1) hC dX10_isRecord_8 (by decide) ?_
  refine j_isub hC dX10_isRecord_9 ?_
  refine s_ci3 hC ks_X10_88 dX10_isRecord_10 (m_X10_in) rfl (by decide) (Nat.le_of_ble_eq_true rfl) ?_
  refine j_top (jb_in (by omega)) ?_
  exact j_iret hC9 rfl jb_nar dX10_isRecord_13 ⟨_, ⟨rfl, rfl⟩, rfl⟩
theorem sh_bit {n g : Nat} (hn : n < 2 ^ 31) (hg : g < 31) : ((nI n >>> (nI g &&& 31)) &&& nI 1) = nI (n / 2 ^ g % 2) := by
  have e : ((nI g &&& 31 : Int32).toBitVec.smod 32).toNat = g := by
    have h : ∀ g, g < 31 → ((nI g &&& 31 : Int32).toBitVec.smod 32).toNat = g := by decide +kernel
    exact h g hg
  rw [pk_shrN hn _ g e]
  have hd : n / 2 ^ g < 2 ^ 32 := Nat.lt_of_le_of_lt (Nat.div_le_self _ _) (by omega)
  rw [pk_andN hd 1 (by decide)]
theorem outA_iff {S : aSet} {q : aRec} (ho : sOut S < 1024) (hq : q.1 < 10) : ((nI (sOut S) >>> (nI q.1 &&& 31)) &&& nI 1) = nI 1 ↔ outA S q = true := by
  rw [sh_bit (by omega) (by omega), outA, Nat.testBit_eq_decide_div_mod_eq, decide_eq_true_eq]
  have h2 : sOut S / 2 ^ q.1 % 2 < 2 := Nat.mod_lt _ (by decide)
  exact nI_eq (by omega) (by decide)
set_option maxHeartbeats 4000000 in
set_option maxRecDepth 100000 in
theorem m_X10_isOut {R : rR} {S : aSet} {r : Nat} (hp : rPre R S) (hr : r < (sRecs S).length) : RI jX10_isOut 1 [.int (nI r)] R (jb (outA S (sAt S r) = true)) R := by
  intro G o M0 hs hBo
  refine jMet_of [some (.ref o), some (.int (nI r))] (by decide) rfl (Nat.le_of_ble_eq_true rfl) rfl hs ?_
  intro C hC9 hG
  have hC := hC9.z
  have hB : jB C ≤ o := by rw [jB, hG]; exact hBo
  have h9 := outA_iff (S := S) (q := sAt S r) hp.2.2.2.2.1 (rp_recOK hp hr).1
  refine j_aload_n hC dX10_isOut_0 rfl (jrf_ref _) ?_
  refine r_get hC kf_X10_9 dX10_isOut_1 rfl ?_
  refine j_iconst (v := nI 3) hC dX10_isOut_4 (by decide) ?_
  refine r_aldN (k := 1) (j := 3) (x := nI (sOut S)) hC dX10_isOut_5 (c := 1) (n := 14790) (by decide) rfl rfl (by omega) (by decide) (rp_out hp) ?_
  refine j_aload_n hC dX10_isOut_6 rfl (jrf_ref _) ?_
  refine j_iload_n hC dX10_isOut_7 rfl ?_
  refine r_ci1 hC kv_X10_92 dX10_isOut_8 (m_X10_groupOf hp (by assumption)) hB rfl (by decide) (Nat.le_of_ble_eq_true rfl) ?_
  refine j_ishr hC dX10_isOut_11 ?_
  refine j_iconst (v := nI 1) hC dX10_isOut_12 (by decide) ?_
  refine j_iand hC dX10_isOut_13 ?_
  refine j_iconst (v := nI 1) hC dX10_isOut_14 (by decide) ?_
  refine j_icmp_ne (tgt := 22) hC dX10_isOut_15 (by decide) (fun c1 => ?_) (fun c1 => ?_)
  · refine j_iconst (v := nI 0) hC dX10_isOut_22 (by decide) ?_
    exact j_iret hC9 rfl rfl dX10_isOut_23 ⟨_, ⟨(by rw [jb_f (fun e => c1 (h9.mpr e))]; rfl), rfl⟩, rfl⟩
  · refine j_iconst (v := nI 1) hC dX10_isOut_18 (by decide) ?_
    refine j_goto (tgt := 23) hC dX10_isOut_19 (by decide) ?_
    exact j_iret hC9 rfl rfl dX10_isOut_23 ⟨_, ⟨(by rw [jb_t (h9.mp c1)]; rfl), rfl⟩, rfl⟩
/-- row f of the reference over row t, as far as k -/
def cpA (A : Nat → Int32) (f t k : Nat) : Nat → Int32 := fun j => if 1479 * t ≤ j ∧ j < 1479 * t + k then A (1479 * f + (j - 1479 * t)) else A j
theorem cpA_0 {A : Nat → Int32} {f t : Nat} : cpA A f t 0 = A := by
  funext j
  simp only [cpA]
  rw [if_neg (by omega)]
theorem cpA_succ {A : Nat → Int32} {f t k : Nat} (hk : k < 1479) : upd (cpA A f t k) (1479 * t + k) (cpA A f t k (1479 * f + k)) = cpA A f t (k + 1) := by
  funext j
  simp only [cpA, upd]
  by_cases h : j = 1479 * t + k
  · subst h
    rw [if_pos rfl, if_neg (by omega), if_pos ⟨by omega, by omega⟩]
    congr 1
    omega
  · rw [if_neg h]
    by_cases h2 : 1479 * t ≤ j ∧ j < 1479 * t + k
    · rw [if_pos h2, if_pos ⟨h2.1, by omega⟩]
    · rw [if_neg h2, if_neg (by omega)]
set_option maxHeartbeats 4000000 in
set_option maxRecDepth 100000 in
theorem m_X10_copies {R : rR} {f t : Nat} (hf : f ≤ 9) (ht : t ≤ 9) : RV jX10_copies 0 [.int (nI f), .int (nI t)] R (rA R 1 (cpA (R.2 1) f t 1479)) := by
  intro G o M0 hs hBo
  refine jMet_of [some (.ref o), some (.int (nI f)), some (.int (nI t)), none] (by decide) rfl (Nat.le_of_ble_eq_true rfl) rfl hs ?_
  intro C hC9 hG
  have hC := hC9.z
  have hB : jB C ≤ o := by rw [jB, hG]; exact hBo
  refine j_iconst (v := nI 0) hC dX10_copies_0 (by decide) ?_
  refine j_istore_n3 hC dX10_copies_1 (by decide) rfl ?_
  suffices K : ∀ (n9 : Nat) (k : Nat), 1479 - k < n9 → (k ≤ 1479) → J C (rM o M0 (rA R 1 (cpA (R.2 1) f t k))) 0 0 2 [some (.ref o), some (.int (nI (f))), some (.int (nI (t))), some (.int (nI (k)))] [] from j_R (by rw [cpA_0]; exact rA_self.symm) (K _ (0) (Nat.lt_succ_self _) (by omega))
  intro n9
  induction n9 with
  | zero => intro k hm; omega
  | succ n9 ih =>
    intro k hm hk
    refine j_iload_n hC dX10_copies_2 rfl ?_
    refine j_sipush (v := nI 1479) hC dX10_copies_3 (by decide) ?_
    refine n_icmp_ge (tgt := 39) hC dX10_copies_6 (by decide) (by omega) (by omega) (fun c1 => ?_) (fun c1 => ?_)
    · exact j_vret hC9 rfl dX10_copies_39 ⟨_, ⟨rfl, by rw [show k = 1479 by omega]⟩, rfl⟩
    · refine j_aload_n hC dX10_copies_9 rfl (jrf_ref _) ?_
      refine r_get hC kf_X10_9 dX10_copies_10 rfl ?_
      refine j_sipush (v := nI 1479) hC dX10_copies_13 (by decide) ?_
      refine j_iload_n hC dX10_copies_16 rfl ?_
      refine n_imul hC dX10_copies_17 ?_
      refine j_iload_n hC dX10_copies_18 rfl ?_
      refine n_iadd hC dX10_copies_19 ?_
      refine j_aload_n hC dX10_copies_20 rfl (jrf_ref _) ?_
      refine r_get hC kf_X10_9 dX10_copies_21 rfl ?_
      refine j_sipush (v := nI 1479) hC dX10_copies_24 (by decide) ?_
      refine j_iload_n hC dX10_copies_27 rfl ?_
      refine n_imul hC dX10_copies_28 ?_
      refine j_iload_n hC dX10_copies_29 rfl ?_
      refine n_iadd hC dX10_copies_30 ?_
      refine r_ald (k := 1) (j := (1479 * f) + (k)) hC dX10_copies_31 (c := 1) (n := 14790) (by decide) rfl rfl (by omega) (by decide) ?_
      refine r_ast (k := 1) (j := (1479 * t) + (k)) hC dX10_copies_32 (c := 1) (n := 14790) (by decide) (fun _ => rfl) (rO_k1) hB rfl (by omega) (by decide) ?_
      refine j_iinc_3 (v := nI (k + 1)) hC dX10_copies_33 (nI_add _ _) (by decide) rfl ?_
      refine j_goto (tgt := 2) hC dX10_copies_36 (by decide) ?_
      exact j_R (rA_ra.trans (rA_eq (cpA_succ (by omega)))) (ih (k + 1) (by omega) (by omega))
def shA (A : Nat → Int32) (k : Nat) : Nat → Int32 := fun j => if 1479 ≤ j ∧ j < 1479 * k then A (j + 1479) else A j
theorem shA_1 {A : Nat → Int32} : shA A 1 = A := by
  funext j
  simp only [shA]
  rw [if_neg (by omega)]
theorem shA_succ {A : Nat → Int32} {k : Nat} (hk : 1 ≤ k) : cpA (shA A k) (k + 1) k 1479 = shA A (k + 1) := by
  funext j
  simp only [cpA, shA]
  by_cases h : 1479 * k ≤ j ∧ j < 1479 * k + 1479
  · rw [if_pos h, if_neg (by omega), if_pos ⟨by omega, by omega⟩]
    congr 1
    omega
  · rw [if_neg h]
    by_cases h2 : 1479 ≤ j ∧ j < 1479 * k
    · rw [if_pos h2, if_pos ⟨h2.1, by omega⟩]
    · rw [if_neg h2, if_neg (by omega)]
/-- a change is kept: the present setup goes behind the others, of which the oldest goes if they are 8 -/
def keepA (A : Nat → Int32) (n : Nat) : Nat → Int32 := if n = 8 then cpA (shA A 8) 0 8 1479 else cpA A 0 (n + 1) 1479
def keepR (R : rR) (n : Nat) : rR := rA (rs R 2 (nI (if n = 8 then 8 else n + 1))) 1 (keepA (R.2 1) n)
theorem keepR_8 {R : rR} {n : Nat} (h : n = 8) {a b : Int32} (hb : b = nI 8) : rA (rs (rs (rA R 1 (shA (R.2 1) 8)) 2 a) 2 b) 1 (cpA (shA (R.2 1) 8) 0 8 1479) = keepR R n := by
  subst h; subst hb
  refine Prod.ext (funext fun j => ?_) (funext fun j => ?_)
  · simp only [rA, rs, keepR]
    split <;> rfl
  · simp only [rA, rs, keepR, keepA]
    split <;> rfl
theorem keepR_88 {R : rR} {n k : Nat} (h : n = 8) (hk : k = 8) : rA (rs (rs (rA R 1 (shA (R.2 1) k)) 2 (nI (n - 1))) 2 (nI (n - 1 + 1))) 1 (cpA (shA (R.2 1) k) 0 (n - 1 + 1) 1479) = keepR R n := by
  subst hk; subst h
  exact keepR_8 rfl rfl
theorem keepR_n {R : rR} {n : Nat} (h : ¬ n = 8) : rA (rs R 2 (nI (n + 1))) 1 (cpA (R.2 1) 0 (n + 1) 1479) = keepR R n := by
  simp only [keepR, keepA, if_neg h]
set_option maxHeartbeats 4000000 in
set_option maxRecDepth 100000 in
theorem m_X10_keeps {R : rR} {n : Nat} (hn : n ≤ 8) (h2 : R.1 2 = nI n) : RV jX10_keeps 1 [] R (keepR R n) := by
  intro G o M0 hs hBo
  refine jMet_of [some (.ref o), none] (by decide) rfl (Nat.le_of_ble_eq_true rfl) rfl hs ?_
  intro C hC9 hG
  have hC := hC9.z
  have hB : jB C ≤ o := by rw [jB, hG]; exact hBo
  refine j_aload_n hC dX10_keeps_0 rfl (jrf_ref _) ?_
  refine r_getN (x := nI (n)) hC kf_X10_81 dX10_keeps_1 rfl (h2) ?_
  refine j_bipush (v := nI 8) hC dX10_keeps_4 (by decide) ?_
  refine n_icmp_ne (tgt := 41) hC dX10_keeps_6 (by decide) (by omega) (by omega) (fun c1 => ?_) (fun c1 => ?_)
  · refine j_aload_n hC dX10_keeps_41 rfl (jrf_ref _) ?_
    refine j_dup hC dX10_keeps_42 rfl ?_
    refine r_getN (x := nI (n)) hC kf_X10_81 dX10_keeps_43 rfl (h2) ?_
    refine j_iconst (v := nI 1) hC dX10_keeps_46 (by decide) ?_
    refine n_iadd hC dX10_keeps_47 ?_
    refine r_put hC kp_X10_81 dX10_keeps_48 hB rfl rfl rF_set_2 ?_
    refine j_aload_n hC dX10_keeps_51 rfl (jrf_ref _) ?_
    refine j_iconst (v := nI 0) hC dX10_keeps_52 (by decide) ?_
    refine j_aload_n hC dX10_keeps_53 rfl (jrf_ref _) ?_
    refine r_getN (x := nI (n + 1)) hC kf_X10_81 dX10_keeps_54 rfl (rfl) ?_
    refine r_cv2 hC kv_X10_84 dX10_keeps_57 (m_X10_copies (f := 0) (t := n + 1) (by omega) (by omega)) hB rfl (by decide) (Nat.le_of_ble_eq_true rfl) ?_
    exact j_vret hC9 rfl dX10_keeps_60 ⟨_, ⟨rfl, (by first | exact keepR_n (by assumption) | exact keepR_88 (by omega) (by omega))⟩, rfl⟩
  · refine j_iconst (v := nI 1) hC dX10_keeps_9 (by decide) ?_
    refine j_istore_n1 hC dX10_keeps_10 (by decide) rfl ?_
    suffices K : ∀ (n9 : Nat) (k : Nat), 8 - k < n9 → (1 ≤ k) → (k ≤ 8) → J C (rM o M0 (rA R 1 (shA (R.2 1) k))) 0 0 11 [some (.ref o), some (.int (nI (k)))] [] from j_R (by rw [shA_1]; exact rA_self.symm) (K _ (1) (Nat.lt_succ_self _) (by omega) (by omega))
    intro n9
    induction n9 with
    | zero => intro k hm; omega
    | succ n9 ih =>
      intro k hm hk1 hk
      refine j_iload_n hC dX10_keeps_11 rfl ?_
      refine j_bipush (v := nI 8) hC dX10_keeps_12 (by decide) ?_
      refine n_icmp_ge (tgt := 31) hC dX10_keeps_14 (by decide) (by omega) (by omega) (fun c2 => ?_) (fun c2 => ?_)
      · refine j_aload_n hC dX10_keeps_31 rfl (jrf_ref _) ?_
        refine j_dup hC dX10_keeps_32 rfl ?_
        refine r_getN (x := nI (n)) hC kf_X10_81 dX10_keeps_33 rfl (h2) ?_
        refine j_iconst (v := nI 1) hC dX10_keeps_36 (by decide) ?_
        refine n_isub hC dX10_keeps_37 (by omega) ?_
        refine r_put hC kp_X10_81 dX10_keeps_38 hB rfl rfl rF_set_2 ?_
        refine j_aload_n hC dX10_keeps_41 rfl (jrf_ref _) ?_
        refine j_dup hC dX10_keeps_42 rfl ?_
        refine r_getN (x := nI (n - 1)) hC kf_X10_81 dX10_keeps_43 rfl (rfl) ?_
        refine j_iconst (v := nI 1) hC dX10_keeps_46 (by decide) ?_
        refine n_iadd hC dX10_keeps_47 ?_
        refine r_put hC kp_X10_81 dX10_keeps_48 hB rfl rfl rF_set_2 ?_
        refine j_aload_n hC dX10_keeps_51 rfl (jrf_ref _) ?_
        refine j_iconst (v := nI 0) hC dX10_keeps_52 (by decide) ?_
        refine j_aload_n hC dX10_keeps_53 rfl (jrf_ref _) ?_
        refine r_getN (x := nI ((n - 1) + (1))) hC kf_X10_81 dX10_keeps_54 rfl (rfl) ?_
        refine r_cv2 hC kv_X10_84 dX10_keeps_57 (m_X10_copies (f := 0) (t := (n - 1) + (1)) (by omega) (by omega)) hB rfl (by decide) (Nat.le_of_ble_eq_true rfl) ?_
        exact j_vret hC9 rfl dX10_keeps_60 ⟨_, ⟨rfl, (by first | exact keepR_n (by assumption) | exact keepR_88 (by omega) (by omega))⟩, rfl⟩
      · refine j_aload_n hC dX10_keeps_17 rfl (jrf_ref _) ?_
        refine j_iload_n hC dX10_keeps_18 rfl ?_
        refine j_iconst (v := nI 1) hC dX10_keeps_19 (by decide) ?_
        refine n_iadd hC dX10_keeps_20 ?_
        refine j_iload_n hC dX10_keeps_21 rfl ?_
        refine r_cv2 hC kv_X10_84 dX10_keeps_22 (m_X10_copies (f := k + 1) (t := k) (by omega) (by omega)) hB rfl (by decide) (Nat.le_of_ble_eq_true rfl) ?_
        refine j_iinc_1 (v := nI (k + 1)) hC dX10_keeps_25 (nI_add _ _) (by decide) rfl ?_
        refine j_goto (tgt := 11) hC dX10_keeps_28 (by decide) ?_
        exact j_R (rA_rA.trans (rA_eq (shA_succ (by omega)))) (ih (k + 1) (by omega) (by omega) (by omega))
def zrA (A : Nat → Int32) (k : Nat) : Nat → Int32 := fun j => if j < k then 0 else A j
theorem zrA_0 {A : Nat → Int32} : zrA A 0 = A := by
  funext j
  simp only [zrA]
  rw [if_neg (by omega)]
theorem zrA_succ {A : Nat → Int32} {k : Nat} : upd (zrA A k) k (nI 0) = zrA A (k + 1) := by
  funext j
  simp only [zrA, upd]
  by_cases h : j = k
  · subst h
    rw [if_pos rfl, if_pos (by omega)]
    rfl
  · rw [if_neg h]
    by_cases h2 : j < k
    · rw [if_pos h2, if_pos (by omega)]
    · rw [if_neg h2, if_neg (by omega)]
/-- the reference, cleared -/
def clrR (R : rR) : rR := rs (ra (rA (rs R 0 (nI 0)) 1 (zrA (R.2 1) 1479)) 1 4 (nI 100)) 2 (nI 0)
set_option maxHeartbeats 4000000 in
set_option maxRecDepth 100000 in
theorem m_X10_clear {R : rR} {S : aSet} (hp : rPre R S) : RI jX10_clear 0 [] R (nI (sRecs S).length) (clrR R) := by
  intro G o M0 hs hBo
  refine jMet_of [some (.ref o), none, none] (by decide) rfl (Nat.le_of_ble_eq_true rfl) rfl hs ?_
  intro C hC9 hG
  have hC := hC9.z
  have hB : jB C ≤ o := by rw [jB, hG]; exact hBo
  refine j_aload_n hC dX10_clear_0 rfl (jrf_ref _) ?_
  refine j_iconst (v := nI 0) hC dX10_clear_1 (by decide) ?_
  refine r_put hC kp_X10_78 dX10_clear_2 hB rfl rfl rF_set_0 ?_
  refine j_aload_n hC dX10_clear_5 rfl (jrf_ref _) ?_
  refine r_get hC kf_X10_9 dX10_clear_6 rfl ?_
  refine j_iconst (v := nI 0) hC dX10_clear_9 (by decide) ?_
  refine r_aldN (k := 1) (j := 0) (x := nI ((sRecs S).length)) hC dX10_clear_10 (c := 1) (n := 14790) (by decide) rfl rfl (by omega) (by decide) (rp_many hp) ?_
  refine j_istore_n1 hC dX10_clear_11 (by decide) rfl ?_
  refine j_iconst (v := nI 0) hC dX10_clear_12 (by decide) ?_
  refine j_istore_n2 hC dX10_clear_13 (by decide) rfl ?_
  suffices K : ∀ (n9 : Nat) (k : Nat), 1479 - k < n9 → (k ≤ 1479) → J C (rM o M0 (rA (rs R 0 (nI 0)) 1 (zrA (R.2 1) k))) 0 0 14 [some (.ref o), some (.int (nI ((sRecs S).length))), some (.int (nI (k)))] [] from j_R (by rw [zrA_0]; exact (rA_self (R := rs R 0 (nI 0))).symm) (K _ (0) (Nat.lt_succ_self _) (by omega))
  intro n9
  induction n9 with
  | zero => intro k hm; omega
  | succ n9 ih =>
    intro k hm hk
    refine j_iload_n hC dX10_clear_14 rfl ?_
    refine j_sipush (v := nI 1479) hC dX10_clear_15 (by decide) ?_
    refine n_icmp_ge (tgt := 34) hC dX10_clear_18 (by decide) (by omega) (by omega) (fun c1 => ?_) (fun c1 => ?_)
    · refine j_aload_n hC dX10_clear_34 rfl (jrf_ref _) ?_
      refine r_get hC kf_X10_9 dX10_clear_35 rfl ?_
      refine j_iconst (v := nI 4) hC dX10_clear_38 (by decide) ?_
      refine j_bipush (v := nI 100) hC dX10_clear_39 (by decide) ?_
      refine r_ast (k := 1) (j := 4) hC dX10_clear_41 (c := 1) (n := 14790) (by decide) (fun _ => rfl) (rO_k1) hB rfl (by omega) (by decide) ?_
      refine j_aload_n hC dX10_clear_42 rfl (jrf_ref _) ?_
      refine j_iconst (v := nI 0) hC dX10_clear_43 (by decide) ?_
      refine r_put hC kp_X10_81 dX10_clear_44 hB rfl rfl rF_set_2 ?_
      refine j_iload_n hC dX10_clear_47 rfl ?_
      exact j_iret hC9 rfl rfl dX10_clear_48 ⟨_, ⟨rfl, (by rw [show k = 1479 by omega]; rfl)⟩, rfl⟩
    · refine j_aload_n hC dX10_clear_21 rfl (jrf_ref _) ?_
      refine r_get hC kf_X10_9 dX10_clear_22 rfl ?_
      refine j_iload_n hC dX10_clear_25 rfl ?_
      refine j_iconst (v := nI 0) hC dX10_clear_26 (by decide) ?_
      refine r_ast (k := 1) (j := k) hC dX10_clear_27 (c := 1) (n := 14790) (by decide) (fun _ => rfl) (rO_k1) hB rfl (by omega) (by decide) ?_
      refine j_iinc_2 (v := nI (k + 1)) hC dX10_clear_28 (nI_add _ _) (by decide) rfl ?_
      refine j_goto (tgt := 14) hC dX10_clear_31 (by decide) ?_
      exact j_R (rA_ra.trans (rA_eq zrA_succ)) (ih (k + 1) (by omega) (by omega))
