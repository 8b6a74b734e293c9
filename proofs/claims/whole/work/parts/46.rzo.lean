def numT (n : Nat) : List Nat := if 9 < n then [48 + n / 10, 48 + n % 10] else [48 + n % 10]
/-- a piece of the template's text -/
def subT (L : List Nat) (a : Nat) : Nat → List Nat
  | 0 => []
  | k + 1 => subT L a k ++ [pC L (a + k)]
theorem subT_len {L : List Nat} {a : Nat} : ∀ k, (subT L a k).length = k
  | 0 => rfl
  | k + 1 => by
    simp only [subT]
    rw [List.length_append, subT_len k]
    rfl
def wFrom (n : Nat) (x : pIt) : Nat := if n = 1 then iPlace x + 1 else iOne x + 1
def wTill (n : Nat) (x : pIt) : Nat := if n = 1 then iOne x else iTwo x
/-- what an item that is no bracket gives; none: a field is missing -/
def gvT (S : aSet) (q : aRec) (L : List Nat) (x : pIt) : Option (List Nat) :=
  if iKind x = 0 then some [iOne x]
  else if iKind x = 1 then some (numT q.2.1)
  else if iKind x = 2 then (if linesA S q = 0 then none else some (adrT S q 5))
  else if iKind x = 3 then (if (q.2.2 (iOne x)).length = 0 then none else some (styT (iTwo x) (q.2.2 (iOne x)) (q.2.2 (iOne x)).length))
  else some (subT L (wFrom q.2.1 x) (wTill q.2.1 x - wFrom q.2.1 x))
/-- why it fails (0: it does not), and the letter behind it -/
def gvC (S : aSet) (l : List Nat) : Option (List Nat) → Nat × List Nat
  | none => (3, l)
  | some t => if l.length + t.length ≤ sLim S then (0, l ++ t) else (4, l)
section GV
variable {S : aSet} {l t : List Nat} {o : Option (List Nat)}
theorem gv_3 (h : o = none) : gvC S l o = (3, l) := by subst h; rfl
theorem gv_4 (h : o = some t) (h2 : ¬ l.length + t.length ≤ sLim S) : gvC S l o = (4, l) := by subst h; exact if_neg h2
theorem gv_0 (h : o = some t) (h2 : l.length + t.length ≤ sLim S) : gvC S l o = (0, l ++ t) := by subst h; exact if_pos h2
end GV
theorem z_n1 {a : Nat} (h : 1 ≤ a) : zI ((a : Int) - 1) = nI (a - 1) := by
  rw [nI_zI]
  congr 1
  omega
theorem numT_b {n : Nat} : 1 ≤ (numT n).length ∧ (numT n).length ≤ 2 := by
  unfold numT
  split
  · exact ⟨by simp, by simp⟩
  · exact ⟨by simp, by simp⟩
theorem addr_b {S : aSet} {q : aRec} (h : ∀ f, f < 5 → (q.2.2 f).length ≤ 12) : addrA S q ≤ 65 := by
  have e : ∀ n, n ≤ 5 → sumTo (fun f => if isLineA S q f = true then (q.2.2 f).length + 1 else 0) n ≤ 13 * n := by
    intro n
    induction n with
    | zero => intro _; exact Nat.le_refl _
    | succ n ih =>
      intro hn
      have h1 := ih (by omega)
      have h2 := h n (by omega)
      simp only [sumTo]
      split <;> omega
  exact e 5 (Nat.le_refl _)
theorem adr_len5 {S : aSet} {q : aRec} (h : ¬ linesA S q = 0) : (adrT S q 5).length + 1 = addrA S q := by
  have e := adrT_len (S := S) (q := q) 5
  rw [if_neg (show ¬ cntTo (isLineA S q) 5 = 0 from h)] at e
  exact e
set_option maxHeartbeats 4000000 in
set_option maxRecDepth 100000 in
theorem m_X10_gives {R : rR} {S : aSet} {P : pP} {L l : List Nat} {r i : Nat} (hp : rPre R S) (hr : r < (sRecs S).length) (hwk : prW R P) (hL : lnR R L) (hwf : wfP L (pIts P) (pCos P) (pOp P)) (hi : i < (pIts P).length) (hb : ¬ iKind (pAtI (pIts P) i) = 5) (hil : (pIts P).length ≤ 120) (hl : l.length ≤ 200) : RI jX10_gives 5 [.int (nI r), .int (nI i)] (mdR R l) (nI (gvC S l (gvT S (sAt S r) L (pAtI (pIts P) i))).1) (mdR R (gvC S l (gvT S (sAt S r) L (pAtI (pIts P) i))).2) := by
  intro G o M0 hs hBo
  refine jMet_of [some (.ref o), some (.int (nI r)), some (.int (nI i)), none, none, none, none, none] (by decide) rfl (Nat.le_of_ble_eq_true rfl) rfl hs ?_
  intro C hC9 hG
  have hC := hC9.z
  have hB : jB C ≤ o := by rw [jB, hG]; exact hBo
  obtain ⟨c1, c2, c3, c4, c5, c6, c7, c8, c9, c10, c11, c12⟩ := hwf.1 i hi
  have hL120 := hL.2.2.1
  have hlim : sLim S ≤ 200 := hp.2.2.2.2.2.1.2
  have hl12 := fun f hf => rp_l12 (f := f) hp hr hf
  have hcb : (sAt S r).2.1 < 100 := (rp_recOK hp hr).2.1
  have haddr := addr_b (S := S) (q := sAt S r) hl12
  have hlin : linesA S (sAt S r) ≤ 5 := cntTo_le 5
  have hnb := numT_b (n := (sAt S r).2.1)
  refine j_aload_n hC dX10_gives_0 rfl (jrf_ref _) ?_
  refine j_iload_n hC dX10_gives_1 rfl ?_
  refine r_ci1 hC kv_X10_141 dX10_gives_2 (m_X10_countOf (show rPre (mdR R l) S from hp) (by assumption)) hB rfl (by decide) (Nat.le_of_ble_eq_true rfl) ?_
  refine j_istore_n3 hC dX10_gives_5 (by decide) rfl ?_
  refine j_aload_n hC dX10_gives_6 rfl (jrf_ref _) ?_
  refine r_get hC kf_X10_38 dX10_gives_7 rfl ?_
  refine j_iload_n hC dX10_gives_10 rfl ?_
  refine r_aldN (k := 19) (j := i) (x := nI (iOne (pAtI (pIts P) i))) hC dX10_gives_11 (c := 9) (n := 120) (by decide) rfl rfl (by omega) (by decide) ((hwk.2.2.2.2.1 i hi).2.2.1) ?_
  refine j_istore_4 hC dX10_gives_12 (by decide) rfl ?_
  refine j_aload_n hC dX10_gives_14 rfl (jrf_ref _) ?_
  refine r_get hC kf_X10_32 dX10_gives_15 rfl ?_
  refine j_iload_n hC dX10_gives_18 rfl ?_
  refine r_aldN (k := 17) (j := i) (x := nI (iKind (pAtI (pIts P) i))) hC dX10_gives_19 (c := 7) (n := 120) (by decide) rfl rfl (by omega) (by decide) ((hwk.2.2.2.2.1 i hi).1) ?_
  by_cases s1 : (iKind (pAtI (pIts P) i)) = 0
  · refine j_tableIn (x := nI (iKind (pAtI (pIts P) i))) (tgt := 52) hC dX10_gives_20 (by rw [nI_toInt (by omega)]; omega) (by rw [nI_toInt (by omega)]; omega) (by rw [nI_toInt (by omega), s1]; rfl) (by decide) ?_
    refine j_aload_n hC dX10_gives_52 rfl (jrf_ref _) ?_
    refine j_iconst (v := nI 1) hC dX10_gives_53 (by decide) ?_
    refine r_ci1 hC kv_X10_221 dX10_gives_54 (m_X10_hasRoom (R := R) (S := S) (l := l) (n := 1) hp (by omega) (by omega)) hB rfl (by decide) (Nat.le_of_ble_eq_true rfl) ?_
    refine jb_if_ne (tgt := 62) hC dX10_gives_57 (by decide) (fun c2 => ?_) (fun c2 => ?_)
    · refine j_aload_n hC dX10_gives_62 rfl (jrf_ref _) ?_
      refine j_iload hC dX10_gives_63 rfl ?_
      refine r_cv1 hC kv_X10_218 dX10_gives_65 (m_X10_writes (R := R) (l := l) (c := iOne (pAtI (pIts P) i)) (by first | omega | (simp only [List.length_append, List.length_singleton, subT_len]; omega))) hB rfl (by decide) (Nat.le_of_ble_eq_true rfl) ?_
      refine j_iconst (v := nI 0) hC dX10_gives_68 (by decide) ?_
      exact j_iret hC9 rfl rfl dX10_gives_69 ⟨_, ⟨(jv (by rw [gv_0 (show gvT S (sAt S r) L (pAtI (pIts P) i) = some [iOne (pAtI (pIts P) i)] by rw [gvT, if_pos (by assumption)]) (by assumption)])), (by rw [gv_0 (show gvT S (sAt S r) L (pAtI (pIts P) i) = some [iOne (pAtI (pIts P) i)] by rw [gvT, if_pos (by assumption)]) (by assumption)])⟩, rfl⟩
    · refine j_iconst (v := nI 4) hC dX10_gives_60 (by decide) ?_
      exact j_iret hC9 rfl rfl dX10_gives_61 ⟨_, ⟨(jv (by rw [gv_4 (show gvT S (sAt S r) L (pAtI (pIts P) i) = some [iOne (pAtI (pIts P) i)] by rw [gvT, if_pos (by assumption)]) (by assumption)])), (by rw [gv_4 (show gvT S (sAt S r) L (pAtI (pIts P) i) = some [iOne (pAtI (pIts P) i)] by rw [gvT, if_pos (by assumption)]) (by assumption)])⟩, rfl⟩
  by_cases s3 : (iKind (pAtI (pIts P) i)) = 1
  · refine j_tableIn (x := nI (iKind (pAtI (pIts P) i))) (tgt := 70) hC dX10_gives_20 (by rw [nI_toInt (by omega)]; omega) (by rw [nI_toInt (by omega)]; omega) (by rw [nI_toInt (by omega), s3]; rfl) (by decide) ?_
    refine j_aload_n hC dX10_gives_70 rfl (jrf_ref _) ?_
    refine j_iload_n hC dX10_gives_71 rfl ?_
    refine j_bipush (v := nI 9) hC dX10_gives_72 (by decide) ?_
    suffices K : J C (rM o M0 ((mdR R l))) 0 0 82 [some (.ref o), some (.int (nI (r))), some (.int (nI (i))), some (.int (nI ((sAt S (r)).2.1))), some (.int (nI (iOne (pAtI (pIts P) i)))), none, none, none] [.int (nI ((numT (sAt S r).2.1).length)), .ref o] by
      refine n_icmp_le (tgt := 81) hC dX10_gives_74 (by decide) (by omega) (by omega) (fun c4 => ?_) (fun c4 => ?_)
      · refine j_iconst (v := nI 1) hC dX10_gives_81 (by decide) ?_
        exact j_top (by unfold numT; first | (rw [if_pos (by omega)]; rfl) | (rw [if_neg (by omega)]; rfl)) K
      · refine j_iconst (v := nI 2) hC dX10_gives_77 (by decide) ?_
        refine j_goto (tgt := 82) hC dX10_gives_78 (by decide) ?_
        exact j_top (by unfold numT; first | (rw [if_pos (by omega)]; rfl) | (rw [if_neg (by omega)]; rfl)) K
    refine r_ci1 hC kv_X10_221 dX10_gives_82 (m_X10_hasRoom (R := R) (S := S) (l := l) (n := (numT (sAt S r).2.1).length) hp (by omega) (by omega)) hB rfl (by decide) (Nat.le_of_ble_eq_true rfl) ?_
    refine jb_if_ne (tgt := 90) hC dX10_gives_85 (by decide) (fun c5 => ?_) (fun c5 => ?_)
    · refine j_iload_n hC dX10_gives_90 rfl ?_
      refine j_bipush (v := nI 9) hC dX10_gives_91 (by decide) ?_
      refine n_icmp_le (tgt := 107) hC dX10_gives_93 (by decide) (by omega) (by omega) (fun c6 => ?_) (fun c6 => ?_)
      · refine j_aload_n hC dX10_gives_107 rfl (jrf_ref _) ?_
        refine j_bipush (v := nI 48) hC dX10_gives_108 (by decide) ?_
        refine j_iload_n hC dX10_gives_110 rfl ?_
        refine j_bipush (v := nI 10) hC dX10_gives_111 (by decide) ?_
        refine j_irem hC dX10_gives_113 (by decide) ?_
        refine j_top (pk_rem (by omega) (by decide) (by decide)) ?_
        refine n_iadd hC dX10_gives_114 ?_
        refine r_cv1 hC kv_X10_218 dX10_gives_115 (m_X10_writes (R := R) (l := l) (c := (48) + ((sAt S r).2.1 % 10)) (by first | omega | (simp only [List.length_append, List.length_singleton, subT_len]; omega))) hB rfl (by decide) (Nat.le_of_ble_eq_true rfl) ?_
        refine j_iconst (v := nI 0) hC dX10_gives_118 (by decide) ?_
        exact j_iret hC9 rfl rfl dX10_gives_119 ⟨_, ⟨(jv (by rw [gv_0 (show gvT S (sAt S r) L (pAtI (pIts P) i) = some (numT (sAt S r).2.1) by rw [gvT, if_neg (by assumption), if_pos (by assumption)]) (by assumption)])), (by rw [gv_0 (show gvT S (sAt S r) L (pAtI (pIts P) i) = some (numT (sAt S r).2.1) by rw [gvT, if_neg (by assumption), if_pos (by assumption)]) (by assumption)]; unfold numT; first | (rw [if_pos (by omega), List.append_assoc]; rfl) | rw [if_neg (by omega)])⟩, rfl⟩
      · have hn2 : (numT (sAt S r).2.1).length = 2 := by unfold numT; rw [if_pos (by omega)]; rfl
        refine j_aload_n hC dX10_gives_96 rfl (jrf_ref _) ?_
        refine j_bipush (v := nI 48) hC dX10_gives_97 (by decide) ?_
        refine j_iload_n hC dX10_gives_99 rfl ?_
        refine j_bipush (v := nI 10) hC dX10_gives_100 (by decide) ?_
        refine j_idiv hC dX10_gives_102 (by decide) ?_
        refine j_top (pk_div (by omega) (by decide) (by decide)) ?_
        refine n_iadd hC dX10_gives_103 ?_
        refine r_cv1 hC kv_X10_218 dX10_gives_104 (m_X10_writes (R := R) (l := l) (c := (48) + ((sAt S r).2.1 / 10)) (by first | omega | (simp only [List.length_append, List.length_singleton, subT_len]; omega))) hB rfl (by decide) (Nat.le_of_ble_eq_true rfl) ?_
        refine j_aload_n hC dX10_gives_107 rfl (jrf_ref _) ?_
        refine j_bipush (v := nI 48) hC dX10_gives_108 (by decide) ?_
        refine j_iload_n hC dX10_gives_110 rfl ?_
        refine j_bipush (v := nI 10) hC dX10_gives_111 (by decide) ?_
        refine j_irem hC dX10_gives_113 (by decide) ?_
        refine j_top (pk_rem (by omega) (by decide) (by decide)) ?_
        refine n_iadd hC dX10_gives_114 ?_
        refine r_cv1 hC kv_X10_218 dX10_gives_115 (m_X10_writes (R := R) (l := (l ++ [(48) + ((sAt S r).2.1 / 10)])) (c := (48) + ((sAt S r).2.1 % 10)) (by first | omega | (simp only [List.length_append, List.length_singleton, subT_len]; omega))) hB rfl (by decide) (Nat.le_of_ble_eq_true rfl) ?_
        refine j_iconst (v := nI 0) hC dX10_gives_118 (by decide) ?_
        exact j_iret hC9 rfl rfl dX10_gives_119 ⟨_, ⟨(jv (by rw [gv_0 (show gvT S (sAt S r) L (pAtI (pIts P) i) = some (numT (sAt S r).2.1) by rw [gvT, if_neg (by assumption), if_pos (by assumption)]) (by assumption)])), (by rw [gv_0 (show gvT S (sAt S r) L (pAtI (pIts P) i) = some (numT (sAt S r).2.1) by rw [gvT, if_neg (by assumption), if_pos (by assumption)]) (by assumption)]; unfold numT; first | (rw [if_pos (by omega), List.append_assoc]; rfl) | rw [if_neg (by omega)])⟩, rfl⟩
    · refine j_iconst (v := nI 4) hC dX10_gives_88 (by decide) ?_
      exact j_iret hC9 rfl rfl dX10_gives_89 ⟨_, ⟨(jv (by rw [gv_4 (show gvT S (sAt S r) L (pAtI (pIts P) i) = some (numT (sAt S r).2.1) by rw [gvT, if_neg (by assumption), if_pos (by assumption)]) (by assumption)])), (by rw [gv_4 (show gvT S (sAt S r) L (pAtI (pIts P) i) = some (numT (sAt S r).2.1) by rw [gvT, if_neg (by assumption), if_pos (by assumption)]) (by assumption)])⟩, rfl⟩
  by_cases s7 : (iKind (pAtI (pIts P) i)) = 2
  · refine j_tableIn (x := nI (iKind (pAtI (pIts P) i))) (tgt := 120) hC dX10_gives_20 (by rw [nI_toInt (by omega)]; omega) (by rw [nI_toInt (by omega)]; omega) (by rw [nI_toInt (by omega), s7]; rfl) (by decide) ?_
    refine j_aload_n hC dX10_gives_120 rfl (jrf_ref _) ?_
    refine j_iload_n hC dX10_gives_121 rfl ?_
    refine r_ci1 hC kv_X10_144 dX10_gives_122 (m_X10_lines (show rPre (mdR R l) S from hp) (by assumption)) hB rfl (by decide) (Nat.le_of_ble_eq_true rfl) ?_
    refine n_if_ne (tgt := 130) hC dX10_gives_125 (by decide) (by omega) (fun c8 => ?_) (fun c8 => ?_)
    · have hl5 := adr_len5 (S := S) (q := sAt S r) (by assumption)
      refine j_aload_n hC dX10_gives_130 rfl (jrf_ref _) ?_
      refine j_aload_n hC dX10_gives_131 rfl (jrf_ref _) ?_
      refine j_iload_n hC dX10_gives_132 rfl ?_
      refine r_ci1 hC kv_X10_224 dX10_gives_133 (m_X10_addressLong (show rPre (mdR R l) S from hp) hr) hB rfl (by decide) (Nat.le_of_ble_eq_true rfl) ?_
      refine j_top (z_n1 (by omega)) ?_
      refine r_ci1 hC kv_X10_221 dX10_gives_136 (m_X10_hasRoom (R := R) (S := S) (l := l) (n := addrA S (sAt S r) - 1) hp (by omega) (by omega)) hB rfl (by decide) (Nat.le_of_ble_eq_true rfl) ?_
      refine jb_if_ne (tgt := 144) hC dX10_gives_139 (by decide) (fun c9 => ?_) (fun c9 => ?_)
      · refine j_aload_n hC dX10_gives_144 rfl (jrf_ref _) ?_
        refine j_iload_n hC dX10_gives_145 rfl ?_
        refine r_cv1 hC kv_X10_227 dX10_gives_146 (m_X10_writesAddress (R := R) (S := S) (l := l) hp hr (by omega)) hB rfl (by decide) (Nat.le_of_ble_eq_true rfl) ?_
        refine j_iconst (v := nI 0) hC dX10_gives_149 (by decide) ?_
        exact j_iret hC9 rfl rfl dX10_gives_150 ⟨_, ⟨(jv (by rw [gv_0 (show gvT S (sAt S r) L (pAtI (pIts P) i) = some (adrT S (sAt S r) 5) by rw [gvT, if_neg (by assumption), if_neg (by assumption), if_pos (by assumption), if_neg (by assumption)]) (by have e5 := adr_len5 (S := S) (q := sAt S r) (by assumption); omega)])), (by rw [gv_0 (show gvT S (sAt S r) L (pAtI (pIts P) i) = some (adrT S (sAt S r) 5) by rw [gvT, if_neg (by assumption), if_neg (by assumption), if_pos (by assumption), if_neg (by assumption)]) (by have e5 := adr_len5 (S := S) (q := sAt S r) (by assumption); omega)])⟩, rfl⟩
      · refine j_iconst (v := nI 4) hC dX10_gives_142 (by decide) ?_
        exact j_iret hC9 rfl rfl dX10_gives_143 ⟨_, ⟨(jv (by rw [gv_4 (show gvT S (sAt S r) L (pAtI (pIts P) i) = some (adrT S (sAt S r) 5) by rw [gvT, if_neg (by assumption), if_neg (by assumption), if_pos (by assumption), if_neg (by assumption)]) (by have e5 := adr_len5 (S := S) (q := sAt S r) (by assumption); omega)])), (by rw [gv_4 (show gvT S (sAt S r) L (pAtI (pIts P) i) = some (adrT S (sAt S r) 5) by rw [gvT, if_neg (by assumption), if_neg (by assumption), if_pos (by assumption), if_neg (by assumption)]) (by have e5 := adr_len5 (S := S) (q := sAt S r) (by assumption); omega)])⟩, rfl⟩
    · refine j_iconst (v := nI 3) hC dX10_gives_128 (by decide) ?_
      exact j_iret hC9 rfl rfl dX10_gives_129 ⟨_, ⟨(jv (by rw [gv_3 (show gvT S (sAt S r) L (pAtI (pIts P) i) = none by rw [gvT, if_neg (by assumption), if_neg (by assumption), if_pos (by assumption), if_pos (by assumption)])])), (by rw [gv_3 (show gvT S (sAt S r) L (pAtI (pIts P) i) = none by rw [gvT, if_neg (by assumption), if_neg (by assumption), if_pos (by assumption), if_pos (by assumption)])])⟩, rfl⟩
  by_cases s10 : (iKind (pAtI (pIts P) i)) = 3
  · refine j_tableIn (x := nI (iKind (pAtI (pIts P) i))) (tgt := 151) hC dX10_gives_20 (by rw [nI_toInt (by omega)]; omega) (by rw [nI_toInt (by omega)]; omega) (by rw [nI_toInt (by omega), s10]; rfl) (by decide) ?_
    have h34 := c4 (by assumption)
    have hf5 : iOne (pAtI (pIts P) i) < 5 := by have := h34.1; omega
    have hlf := hl12 _ hf5
    refine j_aload_n hC dX10_gives_151 rfl (jrf_ref _) ?_
    refine j_iload_n hC dX10_gives_152 rfl ?_
    refine j_iload hC dX10_gives_153 rfl ?_
    refine r_ci2 hC kv_X10_109 dX10_gives_155 (m_X10_longOf (show rPre (mdR R l) S from (show rPre (mdR R l) S from hp)) (by assumption) (by omega)) hB rfl (by decide) (Nat.le_of_ble_eq_true rfl) ?_
    refine n_if_ne (tgt := 163) hC dX10_gives_158 (by decide) (by omega) (fun c11 => ?_) (fun c11 => ?_)
    · refine j_aload_n hC dX10_gives_163 rfl (jrf_ref _) ?_
      refine j_aload_n hC dX10_gives_164 rfl (jrf_ref _) ?_
      refine j_iload_n hC dX10_gives_165 rfl ?_
      refine j_iload hC dX10_gives_166 rfl ?_
      refine r_ci2 hC kv_X10_109 dX10_gives_168 (m_X10_longOf (show rPre (mdR R l) S from (show rPre (mdR R l) S from hp)) (by assumption) (by omega)) hB rfl (by decide) (Nat.le_of_ble_eq_true rfl) ?_
      refine r_ci1 hC kv_X10_221 dX10_gives_171 (m_X10_hasRoom (R := R) (S := S) (l := l) (n := ((sAt S (r)).2.2 (iOne (pAtI (pIts P) i))).length) hp (by omega) (by omega)) hB rfl (by decide) (Nat.le_of_ble_eq_true rfl) ?_
      refine jb_if_ne (tgt := 179) hC dX10_gives_174 (by decide) (fun c12 => ?_) (fun c12 => ?_)
      · refine j_aload_n hC dX10_gives_179 rfl (jrf_ref _) ?_
        refine j_iload_n hC dX10_gives_180 rfl ?_
        refine j_iload hC dX10_gives_181 rfl ?_
        refine j_aload_n hC dX10_gives_183 rfl (jrf_ref _) ?_
        refine r_get hC kf_X10_41 dX10_gives_184 rfl ?_
        refine j_iload_n hC dX10_gives_187 rfl ?_
        refine r_aldN (k := 20) (j := i) (x := nI (iTwo (pAtI (pIts P) i))) hC dX10_gives_188 (c := 10) (n := 120) (by decide) rfl rfl (by omega) (by decide) ((hwk.2.2.2.2.1 i hi).2.2.2) ?_
        refine r_cv3 hC kv_X10_230 dX10_gives_189 (m_X10_writesField (R := R) (S := S) (l := l) hp hr hf5 (by omega) (by omega)) hB rfl (by decide) (Nat.le_of_ble_eq_true rfl) ?_
        refine j_iconst (v := nI 0) hC dX10_gives_192 (by decide) ?_
        exact j_iret hC9 rfl rfl dX10_gives_193 ⟨_, ⟨(jv (by rw [gv_0 (show gvT S (sAt S r) L (pAtI (pIts P) i) = some (styT (iTwo (pAtI (pIts P) i)) ((sAt S r).2.2 (iOne (pAtI (pIts P) i))) ((sAt S r).2.2 (iOne (pAtI (pIts P) i))).length) by rw [gvT, if_neg (by assumption), if_neg (by assumption), if_neg (by assumption), if_pos (by assumption), if_neg (by assumption)]) (by rw [styT_len]; assumption)])), (by rw [gv_0 (show gvT S (sAt S r) L (pAtI (pIts P) i) = some (styT (iTwo (pAtI (pIts P) i)) ((sAt S r).2.2 (iOne (pAtI (pIts P) i))) ((sAt S r).2.2 (iOne (pAtI (pIts P) i))).length) by rw [gvT, if_neg (by assumption), if_neg (by assumption), if_neg (by assumption), if_pos (by assumption), if_neg (by assumption)]) (by rw [styT_len]; assumption)])⟩, rfl⟩
      · refine j_iconst (v := nI 4) hC dX10_gives_177 (by decide) ?_
        exact j_iret hC9 rfl rfl dX10_gives_178 ⟨_, ⟨(jv (by rw [gv_4 (show gvT S (sAt S r) L (pAtI (pIts P) i) = some (styT (iTwo (pAtI (pIts P) i)) ((sAt S r).2.2 (iOne (pAtI (pIts P) i))) ((sAt S r).2.2 (iOne (pAtI (pIts P) i))).length) by rw [gvT, if_neg (by assumption), if_neg (by assumption), if_neg (by assumption), if_pos (by assumption), if_neg (by assumption)]) (by rw [styT_len]; assumption)])), (by rw [gv_4 (show gvT S (sAt S r) L (pAtI (pIts P) i) = some (styT (iTwo (pAtI (pIts P) i)) ((sAt S r).2.2 (iOne (pAtI (pIts P) i))) ((sAt S r).2.2 (iOne (pAtI (pIts P) i))).length) by rw [gvT, if_neg (by assumption), if_neg (by assumption), if_neg (by assumption), if_pos (by assumption), if_neg (by assumption)]) (by rw [styT_len]; assumption)])⟩, rfl⟩
    · refine j_iconst (v := nI 3) hC dX10_gives_161 (by decide) ?_
      exact j_iret hC9 rfl rfl dX10_gives_162 ⟨_, ⟨(jv (by rw [gv_3 (show gvT S (sAt S r) L (pAtI (pIts P) i) = none by rw [gvT, if_neg (by assumption), if_neg (by assumption), if_neg (by assumption), if_pos (by assumption), if_pos (by assumption)])])), (by rw [gv_3 (show gvT S (sAt S r) L (pAtI (pIts P) i) = none by rw [gvT, if_neg (by assumption), if_neg (by assumption), if_neg (by assumption), if_pos (by assumption), if_pos (by assumption)])])⟩, rfl⟩
  refine j_tableOut (x := nI (iKind (pAtI (pIts P) i))) (tgt := 194) hC dX10_gives_20 (by rw [nI_toInt (by omega)]; omega) (by decide) ?_
  have h45 := c5 (by omega)
  refine j_iload_n hC dX10_gives_194 rfl ?_
  refine j_iconst (v := nI 1) hC dX10_gives_195 (by decide) ?_
  suffices K : J C (rM o M0 ((mdR R l))) 0 0 214 [some (.ref o), some (.int (nI (r))), some (.int (nI (i))), some (.int (nI ((sAt S (r)).2.1))), some (.int (nI (iOne (pAtI (pIts P) i)))), none, none, none] [.int (nI (wFrom (sAt S r).2.1 (pAtI (pIts P) i)))] by
    refine n_icmp_ne (tgt := 210) hC dX10_gives_196 (by decide) (by omega) (by omega) (fun c13 => ?_) (fun c13 => ?_)
    · refine j_iload hC dX10_gives_210 rfl ?_
      refine j_iconst (v := nI 1) hC dX10_gives_212 (by decide) ?_
      refine n_iadd hC dX10_gives_213 ?_
      exact j_top (by unfold wFrom; first | rw [if_pos (by assumption)] | rw [if_neg (by assumption)]) K
    · refine j_aload_n hC dX10_gives_199 rfl (jrf_ref _) ?_
      refine r_get hC kf_X10_35 dX10_gives_200 rfl ?_
      refine j_iload_n hC dX10_gives_203 rfl ?_
      refine r_aldN (k := 18) (j := i) (x := nI (iPlace (pAtI (pIts P) i))) hC dX10_gives_204 (c := 8) (n := 120) (by decide) rfl rfl (by omega) (by decide) ((hwk.2.2.2.2.1 i hi).2.1) ?_
      refine j_iconst (v := nI 1) hC dX10_gives_205 (by decide) ?_
      refine n_iadd hC dX10_gives_206 ?_
      refine j_goto (tgt := 214) hC dX10_gives_207 (by decide) ?_
      exact j_top (by unfold wFrom; first | rw [if_pos (by assumption)] | rw [if_neg (by assumption)]) K
  refine j_istore_5 hC dX10_gives_214 (by decide) rfl ?_
  refine j_iload_n hC dX10_gives_216 rfl ?_
  refine j_iconst (v := nI 1) hC dX10_gives_217 (by decide) ?_
  suffices K : J C (rM o M0 ((mdR R l))) 0 0 232 [some (.ref o), some (.int (nI (r))), some (.int (nI (i))), some (.int (nI ((sAt S (r)).2.1))), some (.int (nI (iOne (pAtI (pIts P) i)))), some (.int (nI (wFrom (sAt S r).2.1 (pAtI (pIts P) i)))), none, none] [.int (nI (wTill (sAt S r).2.1 (pAtI (pIts P) i)))] by
    refine n_icmp_ne (tgt := 226) hC dX10_gives_218 (by decide) (by omega) (by omega) (fun c14 => ?_) (fun c14 => ?_)
    · refine j_aload_n hC dX10_gives_226 rfl (jrf_ref _) ?_
      refine r_get hC kf_X10_41 dX10_gives_227 rfl ?_
      refine j_iload_n hC dX10_gives_230 rfl ?_
      refine r_aldN (k := 20) (j := i) (x := nI (iTwo (pAtI (pIts P) i))) hC dX10_gives_231 (c := 10) (n := 120) (by decide) rfl rfl (by omega) (by decide) ((hwk.2.2.2.2.1 i hi).2.2.2) ?_
      exact j_top (by unfold wTill; first | rw [if_pos (by assumption)] | rw [if_neg (by assumption)]) K
    · refine j_iload hC dX10_gives_221 rfl ?_
      refine j_goto (tgt := 232) hC dX10_gives_223 (by decide) ?_
      exact j_top (by unfold wTill; first | rw [if_pos (by assumption)] | rw [if_neg (by assumption)]) K
  refine j_istore_6 hC dX10_gives_232 (by decide) rfl ?_
  have hft : wFrom (sAt S r).2.1 (pAtI (pIts P) i) ≤ wTill (sAt S r).2.1 (pAtI (pIts P) i) ∧ wTill (sAt S r).2.1 (pAtI (pIts P) i) ≤ L.length := by
    unfold wFrom wTill
    split <;> omega
  refine j_aload_n hC dX10_gives_234 rfl (jrf_ref _) ?_
  refine j_iload hC dX10_gives_235 rfl ?_
  refine j_iload hC dX10_gives_237 rfl ?_
  refine n_isub hC dX10_gives_239 (by omega) ?_
  refine r_ci1 hC kv_X10_221 dX10_gives_240 (m_X10_hasRoom (R := R) (S := S) (l := l) (n := (wTill (sAt S r).2.1 (pAtI (pIts P) i)) - (wFrom (sAt S r).2.1 (pAtI (pIts P) i))) hp (by omega) (by omega)) hB rfl (by decide) (Nat.le_of_ble_eq_true rfl) ?_
  refine jb_if_ne (tgt := 248) hC dX10_gives_243 (by decide) (fun c15 => ?_) (fun c15 => ?_)
  · refine j_iload hC dX10_gives_248 rfl ?_
    refine j_istore_7 hC dX10_gives_250 (by decide) rfl ?_
    suffices K : ∀ (n9 : Nat) (j : Nat), wTill (sAt S r).2.1 (pAtI (pIts P) i) - wFrom (sAt S r).2.1 (pAtI (pIts P) i) - j < n9 → (j ≤ wTill (sAt S r).2.1 (pAtI (pIts P) i) - wFrom (sAt S r).2.1 (pAtI (pIts P) i)) → J C (rM o M0 ((mdR R (l ++ subT L (wFrom (sAt S r).2.1 (pAtI (pIts P) i)) j)))) 0 0 252 [some (.ref o), some (.int (nI (r))), some (.int (nI (i))), none, none, none, some (.int (nI (wTill (sAt S r).2.1 (pAtI (pIts P) i)))), some (.int (nI (wFrom (sAt S r).2.1 (pAtI (pIts P) i) + j)))] [] from j_R (by rw [show subT L (wFrom (sAt S r).2.1 (pAtI (pIts P) i)) 0 = [] from rfl, List.append_nil]) (j_L (jle_s (jle_s (jle_s (jle_n (jle_n (jle_n (jle_s (jle_s (jle_0))))))))) (K _ (0) (Nat.lt_succ_self _) (Nat.zero_le _)))
    intro n9
    induction n9 with
    | zero => intro j hm; omega
    | succ n9 ih =>
      intro j hm hj
      refine j_iload hC dX10_gives_252 rfl ?_
      refine j_iload hC dX10_gives_254 rfl ?_
      refine n_icmp_ge (tgt := 276) hC dX10_gives_256 (by decide) (by omega) (by omega) (fun c16 => ?_) (fun c16 => ?_)
      · refine j_iconst (v := nI 0) hC dX10_gives_276 (by decide) ?_
        exact j_iret hC9 rfl rfl dX10_gives_277 ⟨_, ⟨(jv (by rw [gv_0 (show gvT S (sAt S r) L (pAtI (pIts P) i) = some (subT L (wFrom (sAt S r).2.1 (pAtI (pIts P) i)) (wTill (sAt S r).2.1 (pAtI (pIts P) i) - wFrom (sAt S r).2.1 (pAtI (pIts P) i))) by rw [gvT, if_neg (by assumption), if_neg (by assumption), if_neg (by assumption), if_neg (by assumption)]) (by rw [subT_len]; assumption)])), (by rw [gv_0 (show gvT S (sAt S r) L (pAtI (pIts P) i) = some (subT L (wFrom (sAt S r).2.1 (pAtI (pIts P) i)) (wTill (sAt S r).2.1 (pAtI (pIts P) i) - wFrom (sAt S r).2.1 (pAtI (pIts P) i))) by rw [gvT, if_neg (by assumption), if_neg (by assumption), if_neg (by assumption), if_neg (by assumption)]) (by rw [subT_len]; assumption), show j = wTill (sAt S r).2.1 (pAtI (pIts P) i) - wFrom (sAt S r).2.1 (pAtI (pIts P) i) by omega])⟩, rfl⟩
      · refine j_aload_n hC dX10_gives_259 rfl (jrf_ref _) ?_
        refine j_aload_n hC dX10_gives_260 rfl (jrf_ref _) ?_
        refine r_get hC kf_X10_29 dX10_gives_261 rfl ?_
        refine j_iload hC dX10_gives_264 rfl ?_
        refine r_aldN (k := 10) (j := wFrom (sAt S r).2.1 (pAtI (pIts P) i) + j) (x := nI (pC L (wFrom (sAt S r).2.1 (pAtI (pIts P) i) + j))) hC dX10_gives_266 (c := 6) (n := 120) (by decide) rfl rfl (by omega) (by decide) (hL.2.1 _ (by omega)) ?_
        refine r_cv1 hC kv_X10_218 dX10_gives_267 (m_X10_writes (R := R) (l := (l ++ subT L (wFrom (sAt S r).2.1 (pAtI (pIts P) i)) j)) (c := pC L (wFrom (sAt S r).2.1 (pAtI (pIts P) i) + j)) (by first | omega | (simp only [List.length_append, List.length_singleton, subT_len]; omega))) hB rfl (by decide) (Nat.le_of_ble_eq_true rfl) ?_
        refine j_iinc_7 (v := nI (wFrom (sAt S r).2.1 (pAtI (pIts P) i) + j + 1)) hC dX10_gives_270 (nI_add _ _) (by decide) rfl ?_
        refine j_goto (tgt := 252) hC dX10_gives_273 (by decide) ?_
        exact j_R (by rw [List.append_assoc]; rfl) (ih (j + 1) (by omega) (by omega))
  · refine j_iconst (v := nI 4) hC dX10_gives_246 (by decide) ?_
    exact j_iret hC9 rfl rfl dX10_gives_247 ⟨_, ⟨(jv (by rw [gv_4 (show gvT S (sAt S r) L (pAtI (pIts P) i) = some (subT L (wFrom (sAt S r).2.1 (pAtI (pIts P) i)) (wTill (sAt S r).2.1 (pAtI (pIts P) i) - wFrom (sAt S r).2.1 (pAtI (pIts P) i))) by rw [gvT, if_neg (by assumption), if_neg (by assumption), if_neg (by assumption), if_neg (by assumption)]) (by rw [subT_len]; assumption)])), (by rw [gv_4 (show gvT S (sAt S r) L (pAtI (pIts P) i) = some (subT L (wFrom (sAt S r).2.1 (pAtI (pIts P) i)) (wTill (sAt S r).2.1 (pAtI (pIts P) i) - wFrom (sAt S r).2.1 (pAtI (pIts P) i))) by rw [gvT, if_neg (by assumption), if_neg (by assumption), if_neg (by assumption), if_neg (by assumption)]) (by rw [subT_len]; assumption)])⟩, rfl⟩
