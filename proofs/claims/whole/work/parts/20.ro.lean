def withKeys (S : aSet) (v : Nat) : aSet := (S.1, v, S.2.2)
def withPol (S : aSet) (v : Nat) : aSet := (S.1, S.2.1, v, S.2.2.2)
def withOut (S : aSet) (v : Nat) : aSet := (S.1, S.2.1, S.2.2.1, v, S.2.2.2.2)
def withLim (S : aSet) (v : Nat) : aSet := (S.1, S.2.1, S.2.2.1, S.2.2.2.1, v, S.2.2.2.2.2)
def withHome (S : aSet) (t : List Nat) : aSet := (S.1, S.2.1, S.2.2.1, S.2.2.2.1, S.2.2.2.2.1, t, S.2.2.2.2.2.2)
def withTmpl (S : aSet) (t : List Nat) : aSet := (S.1, S.2.1, S.2.2.1, S.2.2.2.1, S.2.2.2.2.1, S.2.2.2.2.2.1, t)
def opUndo (T : aSt) : aAns := match (tPast T).getLast? with
  | none => (1, 0, T)
  | some S => (0, nI ((tPast T).length - 1), (S, (tPast T).dropLast, T.2.2))
def opSnap (T : aSt) : aAns := (0, nI (sRecs (tSet T)).length, (tSet T, tPast T, some (tSet T), T.2.2.2))
def opRestore (T : aSt) : aAns := match tSave T with
  | none => (1, 0, T)
  | some S => (0, nI (sRecs S).length, (S, [], T.2.2))
def opKept (r : Int32) (T : aSt) : aAns :=
  if jin r (sRecs (tSet T)).length = true then
    if outA (tSet T) (sAt (tSet T) (toN r)) = true then (2, 0, T)
    else (0, zI (optZ (keptA (tSet T) (toN r) (sPol (tSet T)) false)), T)
  else (1, 0, T)
theorem err_some {S : aSet} {P : List aSet} {V : Option aSet} {b : List Nat} {e : Option Nat} {u : Option aRun} (h : 0 ≤ optZ e) : opErrPos (S, P, V, b, e, u) = (0, zI (optZ e), (S, P, V, b, e, u)) := by
  cases e with
  | none => exact absurd h (by decide)
  | some k => rfl
theorem err_none {S : aSet} {P : List aSet} {V : Option aSet} {b : List Nat} {e : Option Nat} {u : Option aRun} (h : optZ e < 0) : opErrPos (S, P, V, b, e, u) = (1, nI 0, (S, P, V, b, e, u)) := by
  obtain rfl := optZ_none h
  rfl
theorem ri_ez {R : rR} {T : aSt} (h : rInv R T) : -1 ≤ optZ (tErr T) ∧ optZ (tErr T) < 121 := by
  have h2 := ri_eb h
  cases he : tErr T with
  | none => simp only [optZ]; omega
  | some k => have := h2 k he; simp only [optZ]; omega
set_option maxHeartbeats 4000000 in
set_option maxRecDepth 100000 in
theorem o_X10_errorPosition : ROp jX10_errorPosition 0 [] (opErrPos) := by
  intro R T hi
  obtain ⟨S, P, V, b, e, u⟩ := T
  intro G o M0 hs hBo
  refine jMet_of [some (.ref o)] (by decide) rfl (Nat.le_of_ble_eq_true rfl) rfl hs ?_
  intro C hC9 hG
  have hC := hC9.z
  have hB : jB C ≤ o := by rw [jB, hG]; exact hBo
  have hp : rPre R S := ri_pre hi
  have h20 := rp_n20 hp
  have hP8 : P.length ≤ 8 := ri_pn hi
  have hb120 : b.length ≤ 120 := ri_bn hi
  have hez : -1 ≤ optZ e ∧ optZ e < 121 := ri_ez hi
  refine j_aload_n hC dX10_errorPosition_0 rfl (jrf_ref _) ?_
  refine j_aload_n hC dX10_errorPosition_1 rfl (jrf_ref _) ?_
  refine r_getN (x := zI (optZ e)) hC kf_X10_16 dX10_errorPosition_2 rfl (ri_er hi) ?_
  refine z_if_ge (a := (optZ e)) (tgt := 12) hC dX10_errorPosition_5 (by decide) (by unfold zB; omega) (fun c1 => ?_) (fun c1 => ?_)
  · refine j_iconst (v := nI 0) hC dX10_errorPosition_12 (by decide) ?_
    refine r_put hC kp_X10_78 dX10_errorPosition_13 hB rfl rfl rF_set_0 ?_
    refine j_aload_n hC dX10_errorPosition_16 rfl (jrf_ref _) ?_
    refine r_getN (x := nI (0)) hC kf_X10_78 dX10_errorPosition_17 rfl (rfl) ?_
    refine n_if_ne (tgt := 30) hC dX10_errorPosition_20 (by decide) (by omega) (fun c2 => ?_) (fun c2 => ?_)
    · exact absurd c2 (by decide)
    · refine j_aload_n hC dX10_errorPosition_23 rfl (jrf_ref _) ?_
      refine r_getN (x := zI (optZ e)) hC kf_X10_16 dX10_errorPosition_24 rfl (ri_er hi) ?_
      refine j_goto (tgt := 31) hC dX10_errorPosition_27 (by decide) ?_
      have e9 : opErrPos (S, P, V, b, e, u) = (0, zI (optZ e), (S, P, V, b, e, u)) := err_some (by assumption)
      exact j_iret hC9 rfl rfl dX10_errorPosition_31 ⟨(rs R 0 (nI (0))), ro_ans e9 (rfl) (hi), rfl⟩
  · refine j_iconst (v := nI 1) hC dX10_errorPosition_8 (by decide) ?_
    refine j_goto (tgt := 13) hC dX10_errorPosition_9 (by decide) ?_
    refine r_put hC kp_X10_78 dX10_errorPosition_13 hB rfl rfl rF_set_0 ?_
    refine j_aload_n hC dX10_errorPosition_16 rfl (jrf_ref _) ?_
    refine r_getN (x := nI (1)) hC kf_X10_78 dX10_errorPosition_17 rfl (rfl) ?_
    refine n_if_ne (tgt := 30) hC dX10_errorPosition_20 (by decide) (by omega) (fun c3 => ?_) (fun c3 => ?_)
    · refine j_iconst (v := nI 0) hC dX10_errorPosition_30 (by decide) ?_
      have e9 : opErrPos (S, P, V, b, e, u) = (1, nI (0), (S, P, V, b, e, u)) := err_none (by assumption)
      exact j_iret hC9 rfl rfl dX10_errorPosition_31 ⟨(rs R 0 (nI (1))), ro_ans e9 (rfl) (hi), rfl⟩
    · exact absurd c3 (by decide)
/-- no more in a row from b on, up to k of them -/
def zfA (A : Nat → Int32) (b k : Nat) : Nat → Int32 := fun j => if b ≤ j ∧ j < b + k then 0 else A j
theorem zfA_0 {A : Nat → Int32} {b : Nat} : zfA A b 0 = A := by
  funext j
  simp only [zfA]
  rw [if_neg (by omega)]
theorem zfA_succ {A : Nat → Int32} {b k : Nat} : upd (zfA A b k) (b + k) (nI 0) = zfA A b (k + 1) := by
  funext j
  simp only [zfA, upd]
  by_cases h : j = b + k
  · subst h
    rw [if_pos rfl, if_pos (by omega)]
    rfl
  · rw [if_neg h]
    by_cases h2 : b ≤ j ∧ j < b + k
    · rw [if_pos h2, if_pos (by omega)]
    · rw [if_neg h2, if_neg (by omega)]
/-- the cells behind addRecord -/
def addA (A : Nat → Int32) (n g c : Nat) : Nat → Int32 := upd (upd (upd (zfA A (139 + 67 * n) 67) (139 + 67 * n) (nI g)) (139 + 67 * n + 1) (nI c)) 0 (nI (n + 1))
theorem getD_app {α : Type} {L : List α} {x z : α} {r : Nat} (h : r < L.length) : (L ++ [x]).getD r z = L.getD r z := by
  rw [List.getD_eq_getElem?_getD, List.getD_eq_getElem?_getD, List.getElem?_append_left h]
theorem getD_appN {α : Type} {L : List α} {x z : α} : (L ++ [x]).getD L.length z = x := by
  rw [List.getD_eq_getElem?_getD, List.getElem?_append_right (Nat.le_refl _), Nat.sub_self]
  rfl
theorem ra_s {R : rR} {k i : Nat} {v : Int32} : (ra R k i v).2 k i = v := by
  show (if k = k then upd (R.2 k) i v else R.2 k) i = v
  rw [if_pos rfl]
  exact if_pos rfl
theorem ra_n {R : rR} {k i j : Nat} {v : Int32} (h : j ≠ i) : (ra R k i v).2 k j = R.2 k j := by
  show (if k = k then upd (R.2 k) i v else R.2 k) j = R.2 k j
  rw [if_pos rfl]
  exact if_neg h
theorem add_hi {A : Nat → Int32} {n g c j : Nat} (hn : n < 20) (h : 1479 ≤ j) : addA A n g c j = A j := by
  simp only [addA, upd, zfA]
  rw [if_neg (by omega), if_neg (by omega), if_neg (by omega), if_neg (by omega)]
theorem add_row {A : Nat → Int32} {S : aSet} {g c : Nat} (hS : setOK S) (h : rowRep A 0 S) : rowRep (addA A (sRecs S).length g c) 0 (withRecs S (sRecs S ++ [(g, c, fun _ => [])])) := by
  refine rowRep_recs hS h ?_ ?_ ?_
  · rw [List.length_append]
    exact pk_us
  · intro j h1 h2
    simp only [addA, upd, zfA]
    rw [if_neg (by omega), if_neg (by omega), if_neg (by omega), if_neg (by omega)]
  · intro r hr
    rw [List.length_append, List.length_singleton] at hr
    by_cases h9 : r < (sRecs S).length
    · rw [getD_app h9]
      refine recRep_mv (setOK_rec hS h9) (fun j hj => ?_) (recRep_at h h9)
      simp only [addA, upd, zfA]
      rw [if_neg (by omega), if_neg (by omega), if_neg (by omega), if_neg (by omega)]
    · obtain rfl : r = (sRecs S).length := by omega
      rw [getD_appN]
      refine ⟨?_, ?_, fun f hf => ⟨?_, fun i hi => absurd hi (by simp)⟩⟩
      · exact (pk_un (by omega)).trans ((pk_un (by omega)).trans pk_us)
      · exact (pk_un (by omega)).trans pk_us
      · simp only [addA, upd, zfA]
        rw [if_neg (by omega), if_neg (by omega), if_neg (by omega), if_pos (by omega)]
        rfl
theorem setG_recs {S : aSet} {L : List aRec} (hS : setG S) (hl : L.length ≤ 20) (hL : ∀ q ∈ L, recOK q) : setG (withRecs S L) := by
  obtain ⟨⟨h1, h2, h3, h4, h5, h6, h7, h8⟩, h9⟩ := hS
  exact ⟨⟨hl, h2, h3, h4, h5, h6, h7, hL⟩, h9⟩
theorem recOK_new {g c : Nat} (hg : g < 10) (hc : c < 100) : recOK (g, c, fun _ => []) := ⟨hg, hc, fun f hf => ⟨Nat.zero_le _, fun c hc => absurd hc (by simp)⟩⟩
section OA
variable {T : aSt} {g c : Int32}
theorem add_1 (h : ¬ (jin g 10 = true ∧ jin c 100 = true)) : opAdd g c T = (1, nI 0, T) := if_neg h
theorem add_2 (h : jin g 10 = true) (h2 : jin c 100 = true) (h3 : (sRecs (tSet T)).length = 20) : opAdd g c T = (2, nI 0, T) := (if_pos ⟨h, h2⟩).trans (if_pos h3)
theorem add_0 {a k : Nat} (ha : a < 10) (hk : k < 100) (h3 : ¬ (sRecs (tSet T)).length = 20) : opAdd (nI a) (nI k) T = (0, nI (sRecs (tSet T)).length, chg T (withRecs (tSet T) (sRecs (tSet T) ++ [(a, k, fun _ => [])]))) := by
  rw [opAdd, if_pos ⟨by rw [jin_nI (by omega)]; exact decide_eq_true ha, by rw [jin_nI (by omega)]; exact decide_eq_true hk⟩, if_neg h3, toN_nI (by omega), toN_nI (by omega)]
end OA
set_option maxHeartbeats 4000000 in
set_option maxRecDepth 100000 in
theorem o_X10_addRecord {g : Int32} {c : Int32} : ROp jX10_addRecord 2 [.int g, .int c] (opAdd g c) := by
  intro R T hi
  obtain ⟨S, P, V, b, e, u⟩ := T
  intro G o M0 hs hBo
  refine jMet_of [some (.ref o), some (.int g), some (.int c), none, none] (by decide) rfl (Nat.le_of_ble_eq_true rfl) rfl hs ?_
  intro C hC9 hG
  have hC := hC9.z
  have hB : jB C ≤ o := by rw [jB, hG]; exact hBo
  have hp : rPre R S := ri_pre hi
  have h20 := rp_n20 hp
  have hP8 : P.length ≤ 8 := ri_pn hi
  have hb120 : b.length ≤ 120 := ri_bn hi
  refine j_aload_n hC dX10_addRecord_0 rfl (jrf_ref _) ?_
  refine j_iload_n hC dX10_addRecord_1 rfl ?_
  refine j_iconst (v := nI 0) hC dX10_addRecord_2 (by decide) ?_
  refine j_bipush (v := nI 9) hC dX10_addRecord_3 (by decide) ?_
  refine s_ci3 hC ks_X10_88 dX10_addRecord_5 (m_X10_in) rfl (by decide) (Nat.le_of_ble_eq_true rfl) ?_
  refine j_top (jb_in9 (by decide)) ?_
  refine jb_if_eq (tgt := 21) hC dX10_addRecord_8 (by decide) (fun c1 => ?_) (fun c1 => ?_)
  · refine j_iconst (v := nI 1) hC dX10_addRecord_21 (by decide) ?_
    refine j_goto (tgt := 41) hC dX10_addRecord_22 (by decide) ?_
    refine r_put hC kp_X10_78 dX10_addRecord_41 hB rfl rfl rF_set_0 ?_
    refine j_aload_n hC dX10_addRecord_44 rfl (jrf_ref _) ?_
    refine r_getN (x := nI (1)) hC kf_X10_78 dX10_addRecord_45 rfl (rfl) ?_
    refine n_if_eq (tgt := 53) hC dX10_addRecord_48 (by decide) (by omega) (fun c2 => ?_) (fun c2 => ?_)
    · exact absurd c2 (by decide)
    · refine j_iconst (v := nI 0) hC dX10_addRecord_51 (by decide) ?_
      have e9 : opAdd g c (S, P, V, b, e, u) = (1, nI (0), (S, P, V, b, e, u)) := add_1 (fun h => by first | exact absurd h.1 (by assumption) | exact absurd h.2 (by assumption))
      exact j_iret hC9 rfl rfl dX10_addRecord_52 ⟨(rs R 0 (nI (1))), ro_ans e9 (rfl) (hi), rfl⟩
  · refine j_iload_n hC dX10_addRecord_11 rfl ?_
    refine j_iconst (v := nI 0) hC dX10_addRecord_12 (by decide) ?_
    refine j_bipush (v := nI 99) hC dX10_addRecord_13 (by decide) ?_
    refine s_ci3 hC ks_X10_88 dX10_addRecord_15 (m_X10_in) rfl (by decide) (Nat.le_of_ble_eq_true rfl) ?_
    refine j_top (jb_in9 (by decide)) ?_
    refine jb_if_ne (tgt := 25) hC dX10_addRecord_18 (by decide) (fun c3 => ?_) (fun c3 => ?_)
    · refine j_aload_n hC dX10_addRecord_25 rfl (jrf_ref _) ?_
      refine r_get hC kf_X10_9 dX10_addRecord_26 rfl ?_
      refine j_iconst (v := nI 0) hC dX10_addRecord_29 (by decide) ?_
      refine r_aldN (k := 1) (j := 0) (x := nI ((sRecs S).length)) hC dX10_addRecord_30 (c := 1) (n := 14790) (by decide) rfl rfl (by omega) (by decide) (rp_many hp) ?_
      refine j_bipush (v := nI 20) hC dX10_addRecord_31 (by decide) ?_
      refine n_icmp_ne (tgt := 40) hC dX10_addRecord_33 (by decide) (by omega) (by omega) (fun c4 => ?_) (fun c4 => ?_)
      · refine j_iconst (v := nI 0) hC dX10_addRecord_40 (by decide) ?_
        refine r_put hC kp_X10_78 dX10_addRecord_41 hB rfl rfl rF_set_0 ?_
        refine j_aload_n hC dX10_addRecord_44 rfl (jrf_ref _) ?_
        refine r_getN (x := nI (0)) hC kf_X10_78 dX10_addRecord_45 rfl (rfl) ?_
        refine n_if_eq (tgt := 53) hC dX10_addRecord_48 (by decide) (by omega) (fun c5 => ?_) (fun c5 => ?_)
        · obtain ⟨g9, hg9, rfl⟩ := jin_of (by assumption : jin g 10 = true) (by decide)
          obtain ⟨c9, hc9, rfl⟩ := jin_of (by assumption : jin c 100 = true) (by decide)
          have hL9 : ∀ q ∈ sRecs S ++ [(g9, c9, fun _ => [])], recOK q := fun q hq => (List.mem_append.mp hq).elim (fun hq => (ri_ok hi).1.2.2.2.2.2.2.2 q hq) (fun hq => by rw [List.mem_singleton.mp hq]; exact recOK_new hg9 hc9)
          refine j_aload_n hC dX10_addRecord_53 rfl (jrf_ref _) ?_
          refine r_cv0 hC kv_X10_99 dX10_addRecord_54 (m_X10_keeps (R := (rs R 0 (nI (0)))) (n := P.length) hP8 (ri_ch hi)) hB rfl (by decide) (Nat.le_of_ble_eq_true rfl) ?_
          have hi2 := ri_keep (T := (S, P, V, b, e, u)) (R := (rs R 0 (nI (0)))) hi
          have hp2 : rPre (keepR (rs R 0 (nI (0))) P.length) S := ri_pre hi2
          refine j_sipush (v := nI 139) hC dX10_addRecord_57 (by decide) ?_
          refine j_bipush (v := nI 67) hC dX10_addRecord_60 (by decide) ?_
          refine j_aload_n hC dX10_addRecord_62 rfl (jrf_ref _) ?_
          refine r_get hC kf_X10_9 dX10_addRecord_63 rfl ?_
          refine j_iconst (v := nI 0) hC dX10_addRecord_66 (by decide) ?_
          refine r_aldN (k := 1) (j := 0) (x := nI ((sRecs S).length)) hC dX10_addRecord_67 (c := 1) (n := 14790) (by decide) rfl rfl (by omega) (by decide) (rp_many hp2) ?_
          refine n_imul hC dX10_addRecord_68 ?_
          refine n_iadd hC dX10_addRecord_69 ?_
          refine j_istore_n3 hC dX10_addRecord_70 (by decide) rfl ?_
          refine j_iconst (v := nI 0) hC dX10_addRecord_71 (by decide) ?_
          refine j_istore_4 hC dX10_addRecord_72 (by decide) rfl ?_
          suffices K : ∀ (n9 : Nat) (k : Nat), 67 - k < n9 → (k ≤ 67) → J C (rM o M0 (rA (keepR (rs R 0 (nI (0))) P.length) 1 (zfA ((keepR (rs R 0 (nI (0))) P.length).2 1) (139 + 67 * (sRecs S).length) k))) 0 0 74 [some (.ref o), some (.int (nI (g9))), some (.int (nI (c9))), some (.int (nI (139 + 67 * (sRecs S).length))), some (.int (nI (k)))] [] from j_R (by rw [zfA_0]; exact rA_self.symm) (K _ (0) (Nat.lt_succ_self _) (by omega))
          intro n9
          induction n9 with
          | zero => intro k hm; omega
          | succ n9 ih =>
            intro k hm hk
            refine j_iload hC dX10_addRecord_74 rfl ?_
            refine j_bipush (v := nI 67) hC dX10_addRecord_76 (by decide) ?_
            refine n_icmp_ge (tgt := 97) hC dX10_addRecord_78 (by decide) (by omega) (by omega) (fun c6 => ?_) (fun c6 => ?_)
            · refine j_aload_n hC dX10_addRecord_97 rfl (jrf_ref _) ?_
              refine r_get hC kf_X10_9 dX10_addRecord_98 rfl ?_
              refine j_iload_n hC dX10_addRecord_101 rfl ?_
              refine j_iload_n hC dX10_addRecord_102 rfl ?_
              refine r_ast (k := 1) (j := 139 + 67 * (sRecs S).length) hC dX10_addRecord_103 (c := 1) (n := 14790) (by decide) (fun _ => rfl) (rO_k1) hB rfl (by omega) (by decide) ?_
              refine j_aload_n hC dX10_addRecord_104 rfl (jrf_ref _) ?_
              refine r_get hC kf_X10_9 dX10_addRecord_105 rfl ?_
              refine j_iload_n hC dX10_addRecord_108 rfl ?_
              refine j_iconst (v := nI 1) hC dX10_addRecord_109 (by decide) ?_
              refine n_iadd hC dX10_addRecord_110 ?_
              refine j_iload_n hC dX10_addRecord_111 rfl ?_
              refine r_ast (k := 1) (j := (139 + 67 * (sRecs S).length) + (1)) hC dX10_addRecord_112 (c := 1) (n := 14790) (by decide) (fun _ => rfl) (rO_k1) hB rfl (by omega) (by decide) ?_
              refine j_aload_n hC dX10_addRecord_113 rfl (jrf_ref _) ?_
              refine r_get hC kf_X10_9 dX10_addRecord_114 rfl ?_
              refine j_iconst (v := nI 0) hC dX10_addRecord_117 (by decide) ?_
              refine j_dup2_11 hC dX10_addRecord_118 rfl rfl ?_
              refine r_aldN (k := 1) (j := 0) (x := nI ((sRecs S).length)) hC dX10_addRecord_119 (c := 1) (n := 14790) (by decide) rfl rfl (by omega) (by decide) ((ra_n (by omega)).trans ((ra_n (by omega)).trans ((congrFun rA_at 0).trans ((if_neg (by omega)).trans (rp_many hp2))))) ?_
              refine j_iconst (v := nI 1) hC dX10_addRecord_120 (by decide) ?_
              refine n_iadd hC dX10_addRecord_121 ?_
              refine r_ast (k := 1) (j := 0) hC dX10_addRecord_122 (c := 1) (n := 14790) (by decide) (fun _ => rfl) (rO_k1) hB rfl (by omega) (by decide) ?_
              refine j_aload_n hC dX10_addRecord_123 rfl (jrf_ref _) ?_
              refine r_get hC kf_X10_9 dX10_addRecord_124 rfl ?_
              refine j_iconst (v := nI 0) hC dX10_addRecord_127 (by decide) ?_
              refine r_aldN (k := 1) (j := 0) (x := nI ((sRecs S).length + 1)) hC dX10_addRecord_128 (c := 1) (n := 14790) (by decide) rfl rfl (by omega) (by decide) (ra_s) ?_
              refine j_iconst (v := nI 1) hC dX10_addRecord_129 (by decide) ?_
              refine n_isub hC dX10_addRecord_130 (by omega) ?_
              have e9 : opAdd (nI g9) (nI c9) (S, P, V, b, e, u) = (0, nI (((sRecs S).length + 1) - (1)), chg (S, P, V, b, e, u) (withRecs S (sRecs S ++ [(g9, c9, fun _ => [])]))) := add_0 hg9 hc9 (by assumption)
              exact j_iret hC9 rfl rfl dX10_addRecord_131 ⟨(ra (ra (ra (rA (keepR (rs R 0 (nI (0))) P.length) 1 (zfA ((keepR (rs R 0 (nI (0))) P.length).2 1) (139 + 67 * (sRecs S).length) k)) 1 (139 + 67 * (sRecs S).length) (nI (g9))) 1 ((139 + 67 * (sRecs S).length) + (1)) (nI (c9))) 1 (0) (nI (((sRecs S).length) + (1)))), ro_ans e9 (rfl) (by rw [rA_ra, rA_ra, rA_ra, show k = 67 by omega]; exact ri_set hi2 (fun j hj => add_hi (by omega) hj) (add_row (ri_ok hi2).1 (ri_row hi2)) (setG_recs (ri_ok hi2) (by rw [List.length_append]; exact Nat.lt_of_le_of_ne h20 (by assumption)) hL9)), rfl⟩
            · refine j_aload_n hC dX10_addRecord_81 rfl (jrf_ref _) ?_
              refine r_get hC kf_X10_9 dX10_addRecord_82 rfl ?_
              refine j_iload_n hC dX10_addRecord_85 rfl ?_
              refine j_iload hC dX10_addRecord_86 rfl ?_
              refine n_iadd hC dX10_addRecord_88 ?_
              refine j_iconst (v := nI 0) hC dX10_addRecord_89 (by decide) ?_
              refine r_ast (k := 1) (j := (139 + 67 * (sRecs S).length) + (k)) hC dX10_addRecord_90 (c := 1) (n := 14790) (by decide) (fun _ => rfl) (rO_k1) hB rfl (by omega) (by decide) ?_
              refine j_iinc_4 (v := nI (k + 1)) hC dX10_addRecord_91 (nI_add _ _) (by decide) rfl ?_
              refine j_goto (tgt := 74) hC dX10_addRecord_94 (by decide) ?_
              exact j_R (rA_ra.trans (rA_eq zfA_succ)) (ih (k + 1) (by omega) (by omega))
        · exact absurd c5 (by decide)
      · refine j_iconst (v := nI 2) hC dX10_addRecord_36 (by decide) ?_
        refine j_goto (tgt := 41) hC dX10_addRecord_37 (by decide) ?_
        refine r_put hC kp_X10_78 dX10_addRecord_41 hB rfl rfl rF_set_0 ?_
        refine j_aload_n hC dX10_addRecord_44 rfl (jrf_ref _) ?_
        refine r_getN (x := nI (2)) hC kf_X10_78 dX10_addRecord_45 rfl (rfl) ?_
        refine n_if_eq (tgt := 53) hC dX10_addRecord_48 (by decide) (by omega) (fun c7 => ?_) (fun c7 => ?_)
        · exact absurd c7 (by decide)
        · refine j_iconst (v := nI 0) hC dX10_addRecord_51 (by decide) ?_
          have e9 : opAdd g c (S, P, V, b, e, u) = (2, nI (0), (S, P, V, b, e, u)) := add_2 (by assumption) (by assumption) (by assumption)
          exact j_iret hC9 rfl rfl dX10_addRecord_52 ⟨(rs R 0 (nI (2))), ro_ans e9 (rfl) (hi), rfl⟩
    · refine j_iconst (v := nI 1) hC dX10_addRecord_21 (by decide) ?_
      refine j_goto (tgt := 41) hC dX10_addRecord_22 (by decide) ?_
      refine r_put hC kp_X10_78 dX10_addRecord_41 hB rfl rfl rF_set_0 ?_
      refine j_aload_n hC dX10_addRecord_44 rfl (jrf_ref _) ?_
      refine r_getN (x := nI (1)) hC kf_X10_78 dX10_addRecord_45 rfl (rfl) ?_
      refine n_if_eq (tgt := 53) hC dX10_addRecord_48 (by decide) (by omega) (fun c8 => ?_) (fun c8 => ?_)
      · exact absurd c8 (by decide)
      · refine j_iconst (v := nI 0) hC dX10_addRecord_51 (by decide) ?_
        have e9 : opAdd g c (S, P, V, b, e, u) = (1, nI (0), (S, P, V, b, e, u)) := add_1 (fun h => by first | exact absurd h.1 (by assumption) | exact absurd h.2 (by assumption))
        exact j_iret hC9 rfl rfl dX10_addRecord_52 ⟨(rs R 0 (nI (1))), ro_ans e9 (rfl) (hi), rfl⟩
