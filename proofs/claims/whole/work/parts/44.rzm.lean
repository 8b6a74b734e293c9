/-- a letter of a field, as it is written -/
def sty (way k c : Nat) : Nat := if (97 ≤ c ∧ c ≤ 122) ∧ (way = 2 ∨ way = 1 ∧ k = 0) then c - 32 else c
/-- the first k letters of a field, as they are written -/
def styT (way : Nat) (t : List Nat) : Nat → List Nat
  | 0 => []
  | k + 1 => styT way t k ++ [sty way k (t.getD k 0)]
theorem styT_len {way : Nat} {t : List Nat} : ∀ k, (styT way t k).length = k
  | 0 => rfl
  | k + 1 => by
    simp only [styT]
    rw [List.length_append, styT_len k]
    rfl
set_option maxHeartbeats 4000000 in
set_option maxRecDepth 100000 in
theorem m_X10_writesField {R : rR} {S : aSet} {l : List Nat} {r f way : Nat} (hp : rPre R S) (hr : r < (sRecs S).length) (hf : f < 5) (hway : way ≤ 2) (hl : l.length + ((sAt S (r)).2.2 (f)).length ≤ 200) : RV jX10_writesField 2 [.int (nI r), .int (nI f), .int (nI way)] (mdR R l) (mdR R (l ++ styT way ((sAt S (r)).2.2 (f)) ((sAt S (r)).2.2 (f)).length)) := by
  intro G o M0 hs hBo
  refine jMet_of [some (.ref o), some (.int (nI r)), some (.int (nI f)), some (.int (nI way)), none, none] (by decide) rfl (Nat.le_of_ble_eq_true rfl) rfl hs ?_
  intro C hC9 hG
  have hC := hC9.z
  have hB : jB C ≤ o := by rw [jB, hG]; exact hBo
  have hlr := rp_l12 hp hr hf
  have hcr : ∀ j, j < ((sAt S (r)).2.2 (f)).length → ((sAt S (r)).2.2 (f)).getD j 0 ≤ 126 := fun j hj => (getD_lt126 ((rp_recOK hp hr).2.2 f hf).2 hj).2
  refine j_iconst (v := nI 0) hC dX10_writesField_0 (by decide) ?_
  refine j_istore_4 hC dX10_writesField_1 (by decide) rfl ?_
  suffices K : ∀ (n9 : Nat) (k : Nat), ((sAt S (r)).2.2 (f)).length - k < n9 → (k ≤ ((sAt S (r)).2.2 (f)).length) → J C (rM o M0 ((mdR R (l ++ styT way ((sAt S (r)).2.2 (f)) k)))) 0 0 3 [some (.ref o), some (.int (nI (r))), some (.int (nI (f))), some (.int (nI (way))), some (.int (nI (k))), none] [] from j_R (by rw [show styT way ((sAt S (r)).2.2 (f)) 0 = [] from rfl, List.append_nil]) (K _ (0) (Nat.lt_succ_self _) (Nat.zero_le _))
  intro n9
  induction n9 with
  | zero => intro k hm; omega
  | succ n9 ih =>
    intro k hm hk
    refine j_iload hC dX10_writesField_3 rfl ?_
    refine j_aload_n hC dX10_writesField_5 rfl (jrf_ref _) ?_
    refine j_iload_n hC dX10_writesField_6 rfl ?_
    refine j_iload_n hC dX10_writesField_7 rfl ?_
    refine r_ci2 hC kv_X10_109 dX10_writesField_8 (m_X10_longOf (show rPre ((mdR R (l ++ styT way ((sAt S (r)).2.2 (f)) k))) S from hp) (by assumption) (by omega)) hB rfl (by decide) (Nat.le_of_ble_eq_true rfl) ?_
    refine n_icmp_ge (tgt := 71) hC dX10_writesField_11 (by decide) (by omega) (by omega) (fun c1 => ?_) (fun c1 => ?_)
    · exact j_vret hC9 rfl dX10_writesField_71 ⟨_, ⟨rfl, (by rw [show k = ((sAt S (r)).2.2 (f)).length by omega])⟩, rfl⟩
    · refine j_aload_n hC dX10_writesField_14 rfl (jrf_ref _) ?_
      refine j_iload_n hC dX10_writesField_15 rfl ?_
      refine j_iload_n hC dX10_writesField_16 rfl ?_
      refine j_iload hC dX10_writesField_17 rfl ?_
      refine r_ci3 hC kv_X10_113 dX10_writesField_19 (m_X10_charOf (show rPre ((mdR R (l ++ styT way ((sAt S (r)).2.2 (f)) k))) S from hp) (by assumption) (by omega) (by omega)) hB rfl (by decide) (Nat.le_of_ble_eq_true rfl) ?_
      refine j_istore_5 hC dX10_writesField_22 (by decide) rfl ?_
      have hck := hcr k (by omega)
      refine j_aload_n hC dX10_writesField_24 rfl (jrf_ref _) ?_
      refine j_iload hC dX10_writesField_25 rfl ?_
      refine j_bipush (v := nI 97) hC dX10_writesField_27 (by decide) ?_
      refine j_bipush (v := nI 122) hC dX10_writesField_29 (by decide) ?_
      refine s_ci3 hC ks_X10_88 dX10_writesField_31 (m_X10_in) rfl (by decide) (Nat.le_of_ble_eq_true rfl) ?_
      refine j_top (jb_inN (by omega) (by omega) (by omega)) ?_
      suffices K : J C (rM o M0 (((mdR R (l ++ styT way ((sAt S (r)).2.2 (f)) k))))) 0 0 62 [some (.ref o), some (.int (nI (r))), some (.int (nI (f))), some (.int (nI (way))), some (.int (nI (k))), some (.int (nI (((sAt S (r)).2.2 (f)).getD (k) 0)))] [.int (nI (sty way k (((sAt S r).2.2 f).getD k 0))), .ref o] by
        refine jb_if_eq (tgt := 60) hC dX10_writesField_34 (by decide) (fun c2 => ?_) (fun c2 => ?_)
        · refine j_iload hC dX10_writesField_60 rfl ?_
          exact j_top (by unfold sty; first | rw [if_pos (by omega)] | rw [if_neg (by omega)]) K
        · refine j_iload_n hC dX10_writesField_37 rfl ?_
          refine j_iconst (v := nI 2) hC dX10_writesField_38 (by decide) ?_
          refine n_icmp_eq (tgt := 52) hC dX10_writesField_39 (by decide) (by omega) (by omega) (fun c3 => ?_) (fun c3 => ?_)
          · refine j_iload hC dX10_writesField_52 rfl ?_
            refine j_bipush (v := nI 32) hC dX10_writesField_54 (by decide) ?_
            refine n_isub hC dX10_writesField_56 (by omega) ?_
            refine j_goto (tgt := 62) hC dX10_writesField_57 (by decide) ?_
            exact j_top (by unfold sty; first | rw [if_pos (by omega)] | rw [if_neg (by omega)]) K
          · refine j_iload_n hC dX10_writesField_42 rfl ?_
            refine j_iconst (v := nI 1) hC dX10_writesField_43 (by decide) ?_
            refine n_icmp_ne (tgt := 60) hC dX10_writesField_44 (by decide) (by omega) (by omega) (fun c4 => ?_) (fun c4 => ?_)
            · refine j_iload hC dX10_writesField_60 rfl ?_
              exact j_top (by unfold sty; first | rw [if_pos (by omega)] | rw [if_neg (by omega)]) K
            · refine j_iload hC dX10_writesField_47 rfl ?_
              refine n_if_ne (tgt := 60) hC dX10_writesField_49 (by decide) (by omega) (fun c5 => ?_) (fun c5 => ?_)
              · refine j_iload hC dX10_writesField_60 rfl ?_
                exact j_top (by unfold sty; first | rw [if_pos (by omega)] | rw [if_neg (by omega)]) K
              · refine j_iload hC dX10_writesField_52 rfl ?_
                refine j_bipush (v := nI 32) hC dX10_writesField_54 (by decide) ?_
                refine n_isub hC dX10_writesField_56 (by omega) ?_
                refine j_goto (tgt := 62) hC dX10_writesField_57 (by decide) ?_
                exact j_top (by unfold sty; first | rw [if_pos (by omega)] | rw [if_neg (by omega)]) K
      refine r_cv1 hC kv_X10_218 dX10_writesField_62 (m_X10_writes (R := R) (l := (l ++ styT way ((sAt S (r)).2.2 (f)) k)) (c := sty way k (((sAt S r).2.2 f).getD k 0)) (by rw [List.length_append, styT_len]; omega)) hB rfl (by decide) (Nat.le_of_ble_eq_true rfl) ?_
      refine j_iinc_4 (v := nI (k + 1)) hC dX10_writesField_65 (nI_add _ _) (by decide) rfl ?_
      refine j_goto (tgt := 3) hC dX10_writesField_68 (by decide) ?_
      exact j_R (by rw [List.append_assoc]; rfl) (j_L (jle_s (jle_s (jle_s (jle_s (jle_s (jle_n (jle_0))))))) (ih (k + 1) (by omega) (by omega)))
