/-- whether k conditions from place a on are true -/
def cAll (q : aRec) (cos : List pCo) (a : Nat) : Nat → Bool
  | 0 => true
  | k + 1 => cAll q cos a k && cndA q (pAtC cos (a + k))
def cMet (q : aRec) (cos : List pCo) (x : pIt) : Bool := cAll q cos (iOne x) (iTwo x - iOne x)
/-- a letter: why it fails, its text so far, the place where it failed -/
def mkA (S : aSet) (q : aRec) (L : List Nat) (its : List pIt) (cos : List pCo) : Nat → Nat → List Nat → Nat × List Nat × Nat
  | 0, i, l => (0, l, i)
  | f + 1, i, l =>
    if i < its.length then
      if iKind (pAtI its i) = 5 then mkA S q L its cos f (if cMet q cos (pAtI its i) = true then i + 1 else iTill (pAtI its i)) l
      else if (gvC S l (gvT S q L (pAtI its i))).1 = 0 then mkA S q L its cos f (i + 1) (gvC S l (gvT S q L (pAtI its i))).2
      else ((gvC S l (gvT S q L (pAtI its i))).1, (gvC S l (gvT S q L (pAtI its i))).2, i)
    else (0, l, i)
section MK
variable {S : aSet} {q : aRec} {L : List Nat} {its : List pIt} {cos : List pCo} {f i : Nat} {l : List Nat}
theorem mk_end (h : its.length ≤ i) : mkA S q L its cos f i l = (0, l, i) := by
  cases f with
  | zero => rfl
  | succ f => exact if_neg (by omega)
theorem mk_br (hf : 0 < f) (h : i < its.length) (h5 : iKind (pAtI its i) = 5) {j : Nat} (hj : (if cMet q cos (pAtI its i) = true then i + 1 else iTill (pAtI its i)) = j) : mkA S q L its cos f i l = mkA S q L its cos (f - 1) j l := by
  subst hj
  cases f with
  | zero => omega
  | succ f => exact (if_pos h).trans (if_pos h5)
theorem mk_ok (hf : 0 < f) (h : i < its.length) (h5 : ¬ iKind (pAtI its i) = 5) (h0 : (gvC S l (gvT S q L (pAtI its i))).1 = 0) : mkA S q L its cos f i l = mkA S q L its cos (f - 1) (i + 1) (gvC S l (gvT S q L (pAtI its i))).2 := by
  cases f with
  | zero => omega
  | succ f => exact (if_pos h).trans ((if_neg h5).trans (if_pos h0))
theorem mk_bad (hf : 0 < f) (h : i < its.length) (h5 : ¬ iKind (pAtI its i) = 5) (h0 : ¬ (gvC S l (gvT S q L (pAtI its i))).1 = 0) : mkA S q L its cos f i l = ((gvC S l (gvT S q L (pAtI its i))).1, (gvC S l (gvT S q L (pAtI its i))).2, i) := by
  cases f with
  | zero => omega
  | succ f => exact (if_pos h).trans ((if_neg h5).trans (if_neg h0))
theorem gvC_le {o : Option (List Nat)} (hl : l.length ≤ 200) (hs : sLim S ≤ 200) : (gvC S l o).2.length ≤ 200 ∧ (gvC S l o).1 ≤ 4 := by
  cases o with
  | none => exact ⟨hl, Nat.le_succ 3⟩
  | some t =>
    unfold gvC
    simp only
    split
    · exact ⟨by rw [List.length_append]; omega, Nat.zero_le _⟩
    · exact ⟨hl, Nat.le_refl _⟩
/-- the reference behind the making of a letter -/
def mkR (R : rR) (x : Nat × List Nat × Nat) : rR := if x.1 = 0 then mdR R x.2.1 else rs (mdR R x.2.1) 29 (nI x.2.2)
theorem cAll_t {a k : Nat} (h : cAll q cos a k = true) (h2 : cndA q (pAtC cos (a + k)) = true) : cAll q cos a (k + 1) = true := by
  rw [cAll, h, h2]
  rfl
theorem cAll_f {a k : Nat} (h : ¬ cAll q cos a k = true ∨ ¬ cndA q (pAtC cos (a + k)) = true) : ¬ cAll q cos a (k + 1) = true := by
  rw [cAll, Bool.and_eq_true]
  exact fun e => h.elim (fun a => a e.1) (fun a => a e.2)
end MK
theorem mdR_0 {R : rR} : rs R 28 (nI 0) = mdR R [] := by
  show rs R 28 (nI 0) = rs (rA R 27 (lnA (R.2 27) [] 0)) 28 (nI 0)
  rw [lnA_0, rA_self]
set_option maxHeartbeats 4000000 in
set_option maxRecDepth 100000 in
theorem m_X10_makes {R : rR} {S : aSet} {P : pP} {L : List Nat} {r : Nat} (hp : rPre R S) (hr : r < (sRecs S).length) (hwk : prW R P) (hL : lnR R L) (hwf : wfP L (pIts P) (pCos P) (pOp P)) (hop : pOp P = []) (hwt : ∀ i, i < (pIts P).length → R.2 21 i = nI (iTill (pAtI (pIts P) i))) (hil : (pIts P).length ≤ 120) (hcl : (pCos P).length ≤ 120) : RI jX10_makes 6 [.int (nI r)] R (nI (mkA S (sAt S r) L (pIts P) (pCos P) 121 0 []).1) (mkR R (mkA S (sAt S r) L (pIts P) (pCos P) 121 0 [])) := by
  intro G o M0 hs hBo
  refine jMet_of [some (.ref o), some (.int (nI r)), none, none, none] (by decide) rfl (Nat.le_of_ble_eq_true rfl) rfl hs ?_
  intro C hC9 hG
  have hC := hC9.z
  have hB : jB C ≤ o := by rw [jB, hG]; exact hBo
  have hlim : sLim S ≤ 200 := hp.2.2.2.2.2.1.2
  refine j_aload_n hC dX10_makes_0 rfl (jrf_ref _) ?_
  refine j_iconst (v := nI 0) hC dX10_makes_1 (by decide) ?_
  refine r_put hC kp_X10_215 dX10_makes_2 hB rfl rfl rF_set_28 ?_
  refine j_iconst (v := nI 0) hC dX10_makes_5 (by decide) ?_
  refine j_istore_n2 hC dX10_makes_6 (by decide) rfl ?_
  suffices K : ∀ (n9a : Nat) (i : Nat) (l : List Nat) (f : Nat), f < n9a → (i ≤ (pIts P).length) → (l.length ≤ 200) → ((pIts P).length < i + f) → (mkA S (sAt S r) L (pIts P) (pCos P) 121 0 [] = mkA S (sAt S r) L (pIts P) (pCos P) f i l) → J C (rM o M0 ((mdR R l))) 0 0 7 [some (.ref o), some (.int (nI (r))), some (.int (nI (i))), none, none] [] from j_R (mdR_0) (K _ (0) ([]) (121) (Nat.lt_succ_self _) (Nat.zero_le _) (Nat.zero_le _) (by omega) (rfl))
  intro n9a
  induction n9a with
  | zero => intro i l f hm; omega
  | succ n9a iha =>
    intro i l f hma hi hl hf he
    refine j_iload_n hC dX10_makes_7 rfl ?_
    refine j_aload_n hC dX10_makes_8 rfl (jrf_ref _) ?_
    refine r_getN (x := nI ((pIts P).length)) hC kf_X10_162 dX10_makes_9 rfl (hwk.2.2.1) ?_
    refine n_icmp_ge (tgt := 116) hC dX10_makes_12 (by decide) (by omega) (by omega) (fun c1 => ?_) (fun c1 => ?_)
    · refine j_iconst (v := nI 0) hC dX10_makes_116 (by decide) ?_
      exact j_iret hC9 rfl rfl dX10_makes_117 ⟨_, ⟨(jv (by rw [he, mk_end (by omega)])), (by rw [he, mk_end (by omega)]; rfl)⟩, rfl⟩
    · have hi3 : i < (pIts P).length := by assumption
      obtain ⟨c1, c2, c3, c4, c5, c6, c7, c8, c9, c10, c11, c12⟩ := hwf.1 i hi3
      refine j_aload_n hC dX10_makes_15 rfl (jrf_ref _) ?_
      refine r_get hC kf_X10_32 dX10_makes_16 rfl ?_
      refine j_iload_n hC dX10_makes_19 rfl ?_
      refine r_aldN (k := 17) (j := i) (x := nI (iKind (pAtI (pIts P) (i)))) hC dX10_makes_20 (c := 7) (n := 120) (by decide) rfl rfl (by omega) (by decide) ((hwk.2.2.2.2.1 _ (by assumption)).1) ?_
      refine j_iconst (v := nI 5) hC dX10_makes_21 (by decide) ?_
      refine n_icmp_ne (tgt := 92) hC dX10_makes_22 (by decide) (by omega) (by omega) (fun c2 => ?_) (fun c2 => ?_)
      · have hg9 := gvC_le (o := gvT S (sAt S r) L (pAtI (pIts P) i)) hl hlim
        refine j_aload_n hC dX10_makes_92 rfl (jrf_ref _) ?_
        refine j_iload_n hC dX10_makes_93 rfl ?_
        refine j_iload_n hC dX10_makes_94 rfl ?_
        refine r_ci2 hC kv_X10_234 dX10_makes_95 (m_X10_gives (R := R) (S := S) (P := P) (L := L) (l := l) (r := r) (i := i) hp hr hwk hL hwf (by assumption) (by assumption) hil (by assumption)) hB rfl (by decide) (Nat.le_of_ble_eq_true rfl) ?_
        refine j_istore_n3 hC dX10_makes_98 (by decide) rfl ?_
        refine j_iload_n hC dX10_makes_99 rfl ?_
        refine n_if_eq (tgt := 110) hC dX10_makes_100 (by decide) (by omega) (fun c3 => ?_) (fun c3 => ?_)
        · refine j_iinc_2 (v := nI (i + 1)) hC dX10_makes_110 (nI_add _ _) (by decide) rfl ?_
          refine j_goto (tgt := 7) hC dX10_makes_113 (by decide) ?_
          exact j_R (rfl) (j_L (jle_s (jle_s (jle_s (jle_n (jle_s (jle_0)))))) (iha (i + 1) ((gvC S l (gvT S (sAt S r) L (pAtI (pIts P) (i)))).2) (f - 1) (by omega) (by omega) (by first | exact hl | exact hg9.1) (by omega) (by first | exact he.trans (mk_ok (by omega) (by omega) (by assumption) (by assumption)) | exact he.trans (mk_br (by omega) (by omega) (by assumption) (by first | rw [if_pos (by assumption)] | rw [if_neg (by assumption)])))))
        · refine j_aload_n hC dX10_makes_103 rfl (jrf_ref _) ?_
          refine j_iload_n hC dX10_makes_104 rfl ?_
          refine r_put hC kp_X10_237 dX10_makes_105 hB rfl rfl rF_set_29 ?_
          refine j_iload_n hC dX10_makes_108 rfl ?_
          exact j_iret hC9 rfl rfl dX10_makes_109 ⟨_, ⟨(jv (by rw [he, mk_bad (by omega) (by omega) (by assumption) (by assumption)])), (by rw [he, mk_bad (by omega) (by omega) (by assumption) (by assumption), mkR, if_neg (by assumption)])⟩, rfl⟩
      · have hk5 : iKind (pAtI (pIts P) i) = 5 := by assumption
        have h6 := c6 hk5
        have h7 := c7 hk5 (by rw [hop]; exact List.not_mem_nil)
        refine j_iconst (v := nI 1) hC dX10_makes_25 (by decide) ?_
        refine j_istore_n3 hC dX10_makes_26 (by decide) rfl ?_
        refine j_aload_n hC dX10_makes_27 rfl (jrf_ref _) ?_
        refine r_get hC kf_X10_38 dX10_makes_28 rfl ?_
        refine j_iload_n hC dX10_makes_31 rfl ?_
        refine r_aldN (k := 19) (j := i) (x := nI (iOne (pAtI (pIts P) (i)))) hC dX10_makes_32 (c := 9) (n := 120) (by decide) rfl rfl (by omega) (by decide) ((hwk.2.2.2.2.1 _ (by assumption)).2.2.1) ?_
        refine j_istore_4 hC dX10_makes_33 (by decide) rfl ?_
        suffices K : ∀ (n9b : Nat) (k : Nat), iTwo (pAtI (pIts P) i) - iOne (pAtI (pIts P) i) - k < n9b → (k ≤ iTwo (pAtI (pIts P) i) - iOne (pAtI (pIts P) i)) → J C (rM o M0 ((mdR R l))) 0 0 35 [some (.ref o), some (.int (nI (r))), some (.int (nI (i))), some (.int (jb (cAll (sAt S r) (pCos P) (iOne (pAtI (pIts P) i)) k = true))), some (.int (nI (iOne (pAtI (pIts P) i) + k)))] [] from j_R (rfl) (K _ (0) (Nat.lt_succ_self _) (Nat.zero_le _))
        intro n9b
        induction n9b with
        | zero => intro k hm; omega
        | succ n9b ihb =>
          intro k hmb hk
          refine j_iload hC dX10_makes_35 rfl ?_
          refine j_aload_n hC dX10_makes_37 rfl (jrf_ref _) ?_
          refine r_get hC kf_X10_41 dX10_makes_38 rfl ?_
          refine j_iload_n hC dX10_makes_41 rfl ?_
          refine r_aldN (k := 20) (j := i) (x := nI (iTwo (pAtI (pIts P) (i)))) hC dX10_makes_42 (c := 10) (n := 120) (by decide) rfl rfl (by omega) (by decide) ((hwk.2.2.2.2.1 _ (by assumption)).2.2.2) ?_
          refine n_icmp_ge (tgt := 72) hC dX10_makes_43 (by decide) (by omega) (by omega) (fun c4 => ?_) (fun c4 => ?_)
          · have hkk : k = iTwo (pAtI (pIts P) i) - iOne (pAtI (pIts P) i) := by omega
            subst hkk
            refine j_iload_n hC dX10_makes_72 rfl ?_
            refine jb_if_eq (tgt := 82) hC dX10_makes_73 (by decide) (fun c5 => ?_) (fun c5 => ?_)
            · refine j_aload_n hC dX10_makes_82 rfl (jrf_ref _) ?_
              refine r_get hC kf_X10_44 dX10_makes_83 rfl ?_
              refine j_iload_n hC dX10_makes_86 rfl ?_
              refine r_aldN (k := 21) (j := i) (x := nI (iTill (pAtI (pIts P) (i)))) hC dX10_makes_87 (c := 11) (n := 120) (by decide) rfl rfl (by omega) (by decide) (hwt _ (by assumption)) ?_
              refine j_istore_n2 hC dX10_makes_88 (by decide) rfl ?_
              refine j_goto (tgt := 7) hC dX10_makes_89 (by decide) ?_
              exact j_R (rfl) (j_L (jle_s (jle_s (jle_s (jle_n (jle_n (jle_0)))))) (iha (iTill (pAtI (pIts P) (i))) (l) (f - 1) (by omega) (by omega) (by first | exact hl | exact hg9.1) (by omega) (by first | exact he.trans (mk_ok (by omega) (by omega) (by assumption) (by assumption)) | exact he.trans (mk_br (by omega) (by omega) (by assumption) (by first | rw [if_pos (by assumption)] | rw [if_neg (by assumption)])))))
            · refine j_iload_n hC dX10_makes_76 rfl ?_
              refine j_iconst (v := nI 1) hC dX10_makes_77 (by decide) ?_
              refine n_iadd hC dX10_makes_78 ?_
              refine j_goto (tgt := 88) hC dX10_makes_79 (by decide) ?_
              refine j_istore_n2 hC dX10_makes_88 (by decide) rfl ?_
              refine j_goto (tgt := 7) hC dX10_makes_89 (by decide) ?_
              exact j_R (rfl) (j_L (jle_s (jle_s (jle_s (jle_n (jle_n (jle_0)))))) (iha (i + 1) (l) (f - 1) (by omega) (by omega) (by first | exact hl | exact hg9.1) (by omega) (by first | exact he.trans (mk_ok (by omega) (by omega) (by assumption) (by assumption)) | exact he.trans (mk_br (by omega) (by omega) (by assumption) (by first | rw [if_pos (by assumption)] | rw [if_neg (by assumption)])))))
          · refine j_iload_n hC dX10_makes_46 rfl ?_
            suffices K : J C (rM o M0 (((mdR R l)))) 0 0 65 [some (.ref o), some (.int (nI (r))), some (.int (nI (i))), some (.int (jb (cAll (sAt S r) (pCos P) (iOne (pAtI (pIts P) i)) k = true))), some (.int (nI (iOne (pAtI (pIts P) i) + k)))] [.int (jb (cAll (sAt S r) (pCos P) (iOne (pAtI (pIts P) i)) (k + 1) = true))] by
              refine jb_if_eq (tgt := 64) hC dX10_makes_47 (by decide) (fun c6 => ?_) (fun c6 => ?_)
              · refine j_iconst (v := nI 0) hC dX10_makes_64 (by decide) ?_
                exact j_top (jb_f0 (cAll_f (by first | exact Or.inl (by assumption) | exact Or.inr (by assumption)))) K
              · refine j_aload_n hC dX10_makes_50 rfl (jrf_ref _) ?_
                refine j_iload_n hC dX10_makes_51 rfl ?_
                refine j_iload hC dX10_makes_52 rfl ?_
                refine r_ci2 hC kv_X10_208 dX10_makes_54 (m_X10_holds (R := ((mdR R l))) (S := S) (P := P) (r := r) (c := iOne (pAtI (pIts P) i) + k) hp hr hwk hwf.2.2.2.2.2 (by omega) hcl) hB rfl (by decide) (Nat.le_of_ble_eq_true rfl) ?_
                refine jb_if_eq (tgt := 64) hC dX10_makes_57 (by decide) (fun c7 => ?_) (fun c7 => ?_)
                · refine j_iconst (v := nI 0) hC dX10_makes_64 (by decide) ?_
                  exact j_top (jb_f0 (cAll_f (by first | exact Or.inl (by assumption) | exact Or.inr (by assumption)))) K
                · refine j_iconst (v := nI 1) hC dX10_makes_60 (by decide) ?_
                  refine j_goto (tgt := 65) hC dX10_makes_61 (by decide) ?_
                  exact j_top (jb_t1 (cAll_t (by assumption) (by assumption))) K
            refine j_istore_n3 hC dX10_makes_65 (by decide) rfl ?_
            refine j_iinc_4 (v := nI (iOne (pAtI (pIts P) i) + k + 1)) hC dX10_makes_66 (nI_add _ _) (by decide) rfl ?_
            refine j_goto (tgt := 35) hC dX10_makes_69 (by decide) ?_
            exact j_R (rfl) (ihb (k + 1) (by omega) (by omega))
