theorem hd_row {A : Nat → Int32} {S : aSet} {n : Nat} (hS : setOK S) (h : rowRep A 0 S) : rowRep (upd A 3 (nI n)) 0 (withOut S n) := by
  obtain ⟨h0, h1, h2, h3, h4, h5, h6, h7, h8, h9⟩ := h
  have e : ∀ j, j ≠ 3 → upd A 3 (nI n) j = A j := fun j hj => pk_un hj
  exact ⟨(e _ (by decide)).trans h0, (e _ (by decide)).trans h1, (e _ (by decide)).trans h2, pk_us, (e _ (by decide)).trans h4, (e _ (by decide)).trans h5, fun i hi => (e _ (by omega)).trans (h6 i hi), (e _ (by decide)).trans h7, fun i hi => (e _ (by omega)).trans (h8 i hi), fun r hr => recRep_mv (setOK_rec hS hr) (fun j hj => e _ (by omega)) (h9 r hr)⟩
theorem setG_out {S : aSet} {n : Nat} (hS : setG S) (h : n < 1024) : setG (withOut S n) := by
  obtain ⟨⟨a1, a2, a3, a4, a5, a6, a7, a8⟩, a9⟩ := hS
  exact ⟨⟨a1, a2, a3, h, a5, a6, a7, a8⟩, a9⟩
def newOut (n g : Nat) (on : Bool) : Nat := if on = true then n ||| 2 ^ g else n &&& (1023 ^^^ 2 ^ g)
theorem tb_of1 {n g : Nat} (h : n / 2 ^ g % 2 = 1) : n.testBit g = true := tb_1 (by omega)
theorem tb_no1 {n g : Nat} (h : ¬ n / 2 ^ g % 2 = 1) : ¬ n.testBit g = true := by
  rw [tb_0 (by omega)]
  decide
theorem tb_lt {n g : Nat} : n / 2 ^ g % 2 < 2 := Nat.mod_lt _ (by decide)
def opExclude (g : Int32) (on : Bool) (T : aSt) : aAns :=
  if jin g 10 = true then (0, jb ((sOut (tSet T)).testBit (toN g) = true), chg T (withOut (tSet T) (newOut (sOut (tSet T)) (toN g) on)))
  else (1, 0, T)
section OI
variable {T : aSt} {g : Int32} {on : Bool} {a : Nat}
theorem exc_1 (h : ¬ jin g 10 = true) : opExclude g on T = (1, nI 0, T) := if_neg h
theorem exc_0 (ha : a < 10) : opExclude (nI a) on T = (0, jb ((sOut (tSet T)).testBit a = true), chg T (withOut (tSet T) (newOut (sOut (tSet T)) a on))) := by
  rw [opExclude, if_pos (by rw [jin_nI (by omega)]; exact decide_eq_true ha), toN_nI (by omega)]
end OI
theorem orN (a b : Nat) : nI a ||| nI b = nI (a ||| b) := by
  refine Int32.toBitVec_inj.mp ?_
  rw [Int32.toBitVec_or]
  exact (BitVec.ofNat_or (x := a) (y := b)).symm
theorem andN (a b : Nat) : nI a &&& nI b = nI (a &&& b) := by
  refine Int32.toBitVec_inj.mp ?_
  rw [Int32.toBitVec_and]
  exact (BitVec.ofNat_and (x := a) (y := b)).symm
theorem sh1 : ∀ g, g < 10 → (nI 1 <<< (nI g &&& 31)) = nI (2 ^ g) := by decide +kernel
theorem sh1n : ∀ g, g < 10 → ((nI 1 <<< (nI g &&& 31)) ^^^ zI (-1)) = nI (4294967295 ^^^ 2 ^ g) := by decide +kernel
theorem m1023 : ∀ g, g < 10 → 1023 &&& (4294967295 ^^^ 2 ^ g) = 1023 ^^^ 2 ^ g := by decide +kernel
theorem and1023 {n : Nat} (hn : n < 1024) : n &&& 1023 = n := by
  have h := Nat.and_two_pow_sub_one_eq_mod n 10
  rw [show 2 ^ 10 - 1 = 1023 from rfl] at h
  rw [h]
  exact Nat.mod_eq_of_lt hn
theorem out_on {n g : Nat} (hg : g < 10) : nI n ||| (nI 1 <<< (nI g &&& 31)) = nI (n ||| 2 ^ g) := by
  rw [sh1 g hg, orN]
theorem out_off {n g : Nat} (hn : n < 1024) (hg : g < 10) : nI n &&& ((nI 1 <<< (nI g &&& 31)) ^^^ zI (-1)) = nI (n &&& (1023 ^^^ 2 ^ g)) := by
  rw [sh1n g hg, andN, ← m1023 g hg, ← Nat.and_assoc, and1023 hn]
theorem newOut_lt {n g : Nat} {on : Bool} (hn : n < 1024) (hg : g < 10) : newOut n g on < 1024 := by
  unfold newOut
  split
  · exact Nat.or_lt_two_pow (n := 10) hn (Nat.pow_lt_pow_right (by decide) hg)
  · exact Nat.lt_of_le_of_lt Nat.and_le_left hn
set_option maxHeartbeats 4000000 in
set_option maxRecDepth 100000 in
theorem o_X10_exclude {g : Int32} {c : Bool} : ROp jX10_exclude 2 [.int g, .int (jb (c = true))] (opExclude g c) := by
  intro R T hi
  obtain ⟨S, P, V, b, e, u⟩ := T
  intro G o M0 hs hBo
  refine jMet_of [some (.ref o), some (.int g), some (.int (jb (c = true))), none] (by decide) rfl (Nat.le_of_ble_eq_true rfl) rfl hs ?_
  intro C hC9 hG
  have hC := hC9.z
  have hB : jB C ≤ o := by rw [jB, hG]; exact hBo
  have hp : rPre R S := ri_pre hi
  have h20 := rp_n20 hp
  have hP8 : P.length ≤ 8 := ri_pn hi
  have hb120 : b.length ≤ 120 := ri_bn hi
  have hO : sOut S < 1024 := hp.2.2.2.2.1
  refine j_aload_n hC dX10_exclude_0 rfl (jrf_ref _) ?_
  refine j_iload_n hC dX10_exclude_1 rfl ?_
  refine j_iconst (v := nI 0) hC dX10_exclude_2 (by decide) ?_
  refine j_bipush (v := nI 9) hC dX10_exclude_3 (by decide) ?_
  refine s_ci3 hC ks_X10_88 dX10_exclude_5 (m_X10_in) rfl (by decide) (Nat.le_of_ble_eq_true rfl) ?_
  refine j_top (jb_in9 (by decide)) ?_
  refine jb_if_eq (tgt := 15) hC dX10_exclude_8 (by decide) (fun c1 => ?_) (fun c1 => ?_)
  · refine j_iconst (v := nI 1) hC dX10_exclude_15 (by decide) ?_
    refine r_put hC kp_X10_78 dX10_exclude_16 hB rfl rfl rF_set_0 ?_
    refine j_aload_n hC dX10_exclude_19 rfl (jrf_ref _) ?_
    refine r_getN (x := nI (1)) hC kf_X10_78 dX10_exclude_20 rfl (rfl) ?_
    refine n_if_eq (tgt := 28) hC dX10_exclude_23 (by decide) (by omega) (fun c2 => ?_) (fun c2 => ?_)
    · exact absurd c2 (by decide)
    · refine j_iconst (v := nI 0) hC dX10_exclude_26 (by decide) ?_
      have e9 : opExclude g c (S, P, V, b, e, u) = (1, nI (0), (S, P, V, b, e, u)) := exc_1 (by assumption)
      exact j_iret hC9 rfl rfl dX10_exclude_27 ⟨(rs R 0 (nI (1))), ro_ans e9 (rfl) (hi), rfl⟩
  · refine j_iconst (v := nI 0) hC dX10_exclude_11 (by decide) ?_
    refine j_goto (tgt := 16) hC dX10_exclude_12 (by decide) ?_
    refine r_put hC kp_X10_78 dX10_exclude_16 hB rfl rfl rF_set_0 ?_
    refine j_aload_n hC dX10_exclude_19 rfl (jrf_ref _) ?_
    refine r_getN (x := nI (0)) hC kf_X10_78 dX10_exclude_20 rfl (rfl) ?_
    refine n_if_eq (tgt := 28) hC dX10_exclude_23 (by decide) (by omega) (fun c3 => ?_) (fun c3 => ?_)
    · obtain ⟨g9, hg9, rfl⟩ := jin_of (by assumption : jin g 10 = true) (by decide)
      have htb := tb_lt (n := sOut S) (g := g9)
      refine j_aload_n hC dX10_exclude_28 rfl (jrf_ref _) ?_
      refine r_cv0 hC kv_X10_99 dX10_exclude_29 (m_X10_keeps (R := (rs R 0 (nI (0)))) (n := P.length) hP8 (ri_ch hi)) hB rfl (by decide) (Nat.le_of_ble_eq_true rfl) ?_
      have hi2 := ri_keep (T := (S, P, V, b, e, u)) (R := (rs R 0 (nI (0)))) hi
      have hp2 : rPre (keepR (rs R 0 (nI (0))) P.length) S := ri_pre hi2
      refine j_aload_n hC dX10_exclude_32 rfl (jrf_ref _) ?_
      refine r_get hC kf_X10_9 dX10_exclude_33 rfl ?_
      refine j_iconst (v := nI 3) hC dX10_exclude_36 (by decide) ?_
      refine r_aldN (k := 1) (j := 3) (x := nI (sOut S)) hC dX10_exclude_37 (c := 1) (n := 14790) (by decide) rfl rfl (by omega) (by decide) (rp_out hp2) ?_
      refine j_iload_n hC dX10_exclude_38 rfl ?_
      refine j_ishr hC dX10_exclude_39 ?_
      refine j_iconst (v := nI 1) hC dX10_exclude_40 (by decide) ?_
      refine j_iand hC dX10_exclude_41 ?_
      refine j_top (sh_bit (by omega) (by omega)) ?_
      refine j_iconst (v := nI 1) hC dX10_exclude_42 (by decide) ?_
      suffices K : J C (rM o M0 ((keepR (rs R 0 (nI (0))) P.length))) 0 0 51 [some (.ref o), some (.int (nI (g9))), some (.int (jb (c = true))), none] [.int (jb ((sOut S).testBit g9 = true))] by
        refine n_icmp_ne (tgt := 50) hC dX10_exclude_43 (by decide) (by omega) (by omega) (fun c4 => ?_) (fun c4 => ?_)
        · refine j_iconst (v := nI 0) hC dX10_exclude_50 (by decide) ?_
          exact j_top (jb_f0 (tb_no1 (by assumption))) K
        · refine j_iconst (v := nI 1) hC dX10_exclude_46 (by decide) ?_
          refine j_goto (tgt := 51) hC dX10_exclude_47 (by decide) ?_
          exact j_top (jb_t1 (tb_of1 (by assumption))) K
      refine j_istore_n3 hC dX10_exclude_51 (by decide) rfl ?_
      refine j_aload_n hC dX10_exclude_52 rfl (jrf_ref _) ?_
      refine r_get hC kf_X10_9 dX10_exclude_53 rfl ?_
      refine j_iconst (v := nI 3) hC dX10_exclude_56 (by decide) ?_
      refine j_iload_n hC dX10_exclude_57 rfl ?_
      suffices K : J C (rM o M0 ((keepR (rs R 0 (nI (0))) P.length))) 0 0 86 [some (.ref o), some (.int (nI (g9))), some (.int (jb (c = true))), some (.int (jb ((sOut S).testBit g9 = true)))] [.int (nI (newOut (sOut S) g9 c)), .int (nI (3)), .ref (o + 1)] by
        refine jb_if_eq (tgt := 74) hC dX10_exclude_58 (by decide) (fun c5 => ?_) (fun c5 => ?_)
        · refine j_aload_n hC dX10_exclude_74 rfl (jrf_ref _) ?_
          refine r_get hC kf_X10_9 dX10_exclude_75 rfl ?_
          refine j_iconst (v := nI 3) hC dX10_exclude_78 (by decide) ?_
          refine r_aldN (k := 1) (j := 3) (x := nI (sOut S)) hC dX10_exclude_79 (c := 1) (n := 14790) (by decide) rfl rfl (by omega) (by decide) (rp_out hp2) ?_
          refine j_iconst (v := nI 1) hC dX10_exclude_80 (by decide) ?_
          refine j_iload_n hC dX10_exclude_81 rfl ?_
          refine j_ishl hC dX10_exclude_82 ?_
          refine j_iconst (v := zI (-1)) hC dX10_exclude_83 (by decide) ?_
          refine j_ixor hC dX10_exclude_84 ?_
          refine j_iand hC dX10_exclude_85 ?_
          exact j_top (by unfold newOut; first | rw [out_on hg9, if_pos (by assumption)] | rw [out_off hO hg9, if_neg (by assumption)]) K
        · refine j_aload_n hC dX10_exclude_61 rfl (jrf_ref _) ?_
          refine r_get hC kf_X10_9 dX10_exclude_62 rfl ?_
          refine j_iconst (v := nI 3) hC dX10_exclude_65 (by decide) ?_
          refine r_aldN (k := 1) (j := 3) (x := nI (sOut S)) hC dX10_exclude_66 (c := 1) (n := 14790) (by decide) rfl rfl (by omega) (by decide) (rp_out hp2) ?_
          refine j_iconst (v := nI 1) hC dX10_exclude_67 (by decide) ?_
          refine j_iload_n hC dX10_exclude_68 rfl ?_
          refine j_ishl hC dX10_exclude_69 ?_
          refine j_ior hC dX10_exclude_70 ?_
          refine j_goto (tgt := 86) hC dX10_exclude_71 (by decide) ?_
          exact j_top (by unfold newOut; first | rw [out_on hg9, if_pos (by assumption)] | rw [out_off hO hg9, if_neg (by assumption)]) K
      refine r_ast (k := 1) (j := 3) hC dX10_exclude_86 (c := 1) (n := 14790) (by decide) (fun _ => rfl) (rO_k1) hB rfl (by omega) (by decide) ?_
      refine j_iload_n hC dX10_exclude_87 rfl ?_
      have e9 : opExclude (nI g9) c (S, P, V, b, e, u) = (0, jb ((sOut S).testBit g9 = true), chg (S, P, V, b, e, u) (withOut S (newOut (sOut S) g9 c))) := exc_0 hg9
      exact j_iret hC9 rfl jb_nar dX10_exclude_88 ⟨(ra (keepR (rs R 0 (nI (0))) P.length) 1 (3) (nI (newOut (sOut S) g9 c))), ro_ans e9 (rfl) (by rw [ra_rA]; exact ri_set hi2 (fun j hj => pk_un (by omega)) (hd_row (ri_ok hi2).1 (ri_row hi2)) (setG_out (ri_ok hi2) (newOut_lt hO hg9))), rfl⟩
    · exact absurd c3 (by decide)
def settA (T : aSt) (w : Nat) : Nat := if w = 0 then (sRecs (tSet T)).length else if w = 1 then sKeys (tSet T) else if w = 2 then sPol (tSet T) else if w = 3 then sOut (tSet T) else if w = 4 then sLim (tSet T) else if w = 5 then (tBuf T).length else if w = 6 then (tPast T).length else (sHome (tSet T)).length
def opSetting (w : Int32) (T : aSt) : aAns := if jin w 8 = true then (0, nI (settA T (toN w)), T) else (1, 0, T)
def hdW (S : aSet) (w : Nat) : Nat := if w = 0 then (sRecs S).length else if w = 1 then sKeys S else if w = 2 then sPol S else if w = 3 then sOut S else sLim S
theorem hdW_at {R : rR} {S : aSet} (hp : rPre R S) : ∀ w, w < 5 → R.2 1 w = nI (hdW S w)
  | 0, _ => rp_many hp
  | 1, _ => rp_keys hp
  | 2, _ => rp_pol hp
  | 3, _ => rp_out hp
  | 4, _ => rp_lim hp
  | w + 5, h => absurd h (by omega)
theorem settA_lo (T : aSt) : ∀ w, w < 5 → settA T w = hdW (tSet T) w
  | 0, _ => rfl
  | 1, _ => rfl
  | 2, _ => rfl
  | 3, _ => rfl
  | 4, _ => rfl
  | w + 5, h => absurd h (by omega)
theorem settA_5 {T : aSt} {w : Nat} (h : w = 5) : settA T w = (tBuf T).length := by subst h; rfl
theorem settA_6 {T : aSt} {w : Nat} (h : w = 6) : settA T w = (tPast T).length := by subst h; rfl
theorem settA_7 {T : aSt} {w : Nat} (h : w = 7) : settA T w = (sHome (tSet T)).length := by subst h; rfl
section OJ
variable {T : aSt} {w : Int32} {a : Nat}
theorem sett_1 (h : ¬ jin w 8 = true) : opSetting w T = (1, nI 0, T) := if_neg h
theorem sett_0 (ha : a < 8) {x : Nat} (hx : settA T a = x) : opSetting (nI a) T = (0, nI x, T) := by
  rw [opSetting, if_pos (by rw [jin_nI (by omega)]; exact decide_eq_true ha), toN_nI (by omega), hx]
end OJ
set_option maxHeartbeats 4000000 in
set_option maxRecDepth 100000 in
theorem o_X10_setting {w : Int32} : ROp jX10_setting 1 [.int w] (opSetting w) := by
  intro R T hi
  obtain ⟨S, P, V, b, e, u⟩ := T
  intro G o M0 hs hBo
  refine jMet_of [some (.ref o), some (.int w)] (by decide) rfl (Nat.le_of_ble_eq_true rfl) rfl hs ?_
  intro C hC9 hG
  have hC := hC9.z
  have hB : jB C ≤ o := by rw [jB, hG]; exact hBo
  have hp : rPre R S := ri_pre hi
  have h20 := rp_n20 hp
  have hP8 : P.length ≤ 8 := ri_pn hi
  have hb120 : b.length ≤ 120 := ri_bn hi
  refine j_aload_n hC dX10_setting_0 rfl (jrf_ref _) ?_
  refine j_iload_n hC dX10_setting_1 rfl ?_
  refine j_iconst (v := nI 0) hC dX10_setting_2 (by decide) ?_
  refine j_bipush (v := nI 7) hC dX10_setting_3 (by decide) ?_
  refine s_ci3 hC ks_X10_88 dX10_setting_5 (m_X10_in) rfl (by decide) (Nat.le_of_ble_eq_true rfl) ?_
  refine j_top (jb_in9 (by decide)) ?_
  refine jb_if_eq (tgt := 15) hC dX10_setting_8 (by decide) (fun c1 => ?_) (fun c1 => ?_)
  · refine j_iconst (v := nI 1) hC dX10_setting_15 (by decide) ?_
    refine r_put hC kp_X10_78 dX10_setting_16 hB rfl rfl rF_set_0 ?_
    refine j_aload_n hC dX10_setting_19 rfl (jrf_ref _) ?_
    refine r_getN (x := nI (1)) hC kf_X10_78 dX10_setting_20 rfl (rfl) ?_
    refine n_if_eq (tgt := 28) hC dX10_setting_23 (by decide) (by omega) (fun c2 => ?_) (fun c2 => ?_)
    · exact absurd c2 (by decide)
    · refine j_iconst (v := nI 0) hC dX10_setting_26 (by decide) ?_
      have e9 : opSetting w (S, P, V, b, e, u) = (1, nI (0), (S, P, V, b, e, u)) := sett_1 (by assumption)
      exact j_iret hC9 rfl rfl dX10_setting_27 ⟨(rs R 0 (nI (1))), ro_ans e9 (rfl) (hi), rfl⟩
  · refine j_iconst (v := nI 0) hC dX10_setting_11 (by decide) ?_
    refine j_goto (tgt := 16) hC dX10_setting_12 (by decide) ?_
    refine r_put hC kp_X10_78 dX10_setting_16 hB rfl rfl rF_set_0 ?_
    refine j_aload_n hC dX10_setting_19 rfl (jrf_ref _) ?_
    refine r_getN (x := nI (0)) hC kf_X10_78 dX10_setting_20 rfl (rfl) ?_
    refine n_if_eq (tgt := 28) hC dX10_setting_23 (by decide) (by omega) (fun c3 => ?_) (fun c3 => ?_)
    · obtain ⟨w9, hw9, rfl⟩ := jin_of (by assumption : jin w 8 = true) (by decide)
      refine j_iload_n hC dX10_setting_28 rfl ?_
      refine j_iconst (v := nI 5) hC dX10_setting_29 (by decide) ?_
      refine n_icmp_ge (tgt := 42) hC dX10_setting_30 (by decide) (by omega) (by omega) (fun c4 => ?_) (fun c4 => ?_)
      · refine j_iload_n hC dX10_setting_42 rfl ?_
        refine j_iconst (v := nI 5) hC dX10_setting_43 (by decide) ?_
        refine n_icmp_ne (tgt := 54) hC dX10_setting_44 (by decide) (by omega) (by omega) (fun c5 => ?_) (fun c5 => ?_)
        · refine j_iload_n hC dX10_setting_54 rfl ?_
          refine j_bipush (v := nI 6) hC dX10_setting_55 (by decide) ?_
          refine n_icmp_ne (tgt := 67) hC dX10_setting_57 (by decide) (by omega) (by omega) (fun c6 => ?_) (fun c6 => ?_)
          · refine j_aload_n hC dX10_setting_67 rfl (jrf_ref _) ?_
            refine r_get hC kf_X10_9 dX10_setting_68 rfl ?_
            refine j_iconst (v := nI 5) hC dX10_setting_71 (by decide) ?_
            refine r_aldN (k := 1) (j := 5) (x := nI ((sHome S).length)) hC dX10_setting_72 (c := 1) (n := 14790) (by decide) rfl rfl (by omega) (by decide) (rp_home hp) ?_
            have e9 : opSetting (nI w9) (S, P, V, b, e, u) = (0, nI ((sHome S).length), (S, P, V, b, e, u)) := sett_0 hw9 (by first | exact settA_lo (S, P, V, b, e, u) _ (by assumption) | exact settA_5 (T := (S, P, V, b, e, u)) (by assumption) | exact settA_6 (T := (S, P, V, b, e, u)) (by assumption) | exact settA_7 (T := (S, P, V, b, e, u)) (by omega))
            exact j_iret hC9 rfl rfl dX10_setting_73 ⟨(rs R 0 (nI (0))), ro_ans e9 (rfl) (hi), rfl⟩
          · refine j_aload_n hC dX10_setting_60 rfl (jrf_ref _) ?_
            refine r_getN (x := nI (P.length)) hC kf_X10_81 dX10_setting_61 rfl (ri_ch hi) ?_
            refine j_goto (tgt := 73) hC dX10_setting_64 (by decide) ?_
            have e9 : opSetting (nI w9) (S, P, V, b, e, u) = (0, nI (P.length), (S, P, V, b, e, u)) := sett_0 hw9 (by first | exact settA_lo (S, P, V, b, e, u) _ (by assumption) | exact settA_5 (T := (S, P, V, b, e, u)) (by assumption) | exact settA_6 (T := (S, P, V, b, e, u)) (by assumption) | exact settA_7 (T := (S, P, V, b, e, u)) (by omega))
            exact j_iret hC9 rfl rfl dX10_setting_73 ⟨(rs R 0 (nI (0))), ro_ans e9 (rfl) (hi), rfl⟩
        · refine j_aload_n hC dX10_setting_47 rfl (jrf_ref _) ?_
          refine r_getN (x := nI (b.length)) hC kf_X10_96 dX10_setting_48 rfl (ri_bl hi) ?_
          refine j_goto (tgt := 73) hC dX10_setting_51 (by decide) ?_
          have e9 : opSetting (nI w9) (S, P, V, b, e, u) = (0, nI (b.length), (S, P, V, b, e, u)) := sett_0 hw9 (by first | exact settA_lo (S, P, V, b, e, u) _ (by assumption) | exact settA_5 (T := (S, P, V, b, e, u)) (by assumption) | exact settA_6 (T := (S, P, V, b, e, u)) (by assumption) | exact settA_7 (T := (S, P, V, b, e, u)) (by omega))
          exact j_iret hC9 rfl rfl dX10_setting_73 ⟨(rs R 0 (nI (0))), ro_ans e9 (rfl) (hi), rfl⟩
      · refine j_aload_n hC dX10_setting_33 rfl (jrf_ref _) ?_
        refine r_get hC kf_X10_9 dX10_setting_34 rfl ?_
        refine j_iload_n hC dX10_setting_37 rfl ?_
        refine r_aldN (k := 1) (j := w9) (x := nI (hdW S w9)) hC dX10_setting_38 (c := 1) (n := 14790) (by decide) rfl rfl (by omega) (by decide) (hdW_at hp _ (by omega)) ?_
        refine j_goto (tgt := 73) hC dX10_setting_39 (by decide) ?_
        have e9 : opSetting (nI w9) (S, P, V, b, e, u) = (0, nI (hdW S w9), (S, P, V, b, e, u)) := sett_0 hw9 (by first | exact settA_lo (S, P, V, b, e, u) _ (by assumption) | exact settA_5 (T := (S, P, V, b, e, u)) (by assumption) | exact settA_6 (T := (S, P, V, b, e, u)) (by assumption) | exact settA_7 (T := (S, P, V, b, e, u)) (by omega))
        exact j_iret hC9 rfl rfl dX10_setting_73 ⟨(rs R 0 (nI (0))), ro_ans e9 (rfl) (hi), rfl⟩
    · exact absurd c3 (by decide)
theorem last_of {P : List aSet} (h : ¬ P.length = 0) : ∃ S, P.getLast? = some S ∧ P[P.length - 1]? = some S := by
  have hl : P.length - 1 < P.length := by omega
  exact ⟨P[P.length - 1], by rw [List.getLast?_eq_getElem?, List.getElem?_eq_getElem hl], List.getElem?_eq_getElem hl⟩
theorem und_1 {T : aSt} (h : (tPast T).length = 0) : opUndo T = (1, nI 0, T) := by
  rw [opUndo, List.eq_nil_of_length_eq_zero h]
  rfl
theorem und_0 {T : aSt} {S : aSet} (h : (tPast T).getLast? = some S) : opUndo T = (0, nI ((tPast T).length - 1), (S, (tPast T).dropLast, T.2.2)) := by
  rw [opUndo, h]
theorem cp_row {A : Nat → Int32} {S : aSet} {f t : Nat} (hS : setOK S) (h : rowRep A (1479 * f) S) : rowRep (cpA A f t 1479) (1479 * t) S := rowRep_mv hS (fun j hj => by simp only [cpA]; rw [if_pos (by omega), Nat.add_sub_cancel_left]) h
theorem cp_out {A : Nat → Int32} {f t j : Nat} (h : j < 1479 * t ∨ 1479 * t + 1479 ≤ j) : cpA A f t 1479 j = A j := by
  simp only [cpA]
  rw [if_neg (by omega)]
theorem ri_undo {R : rR} {T : aSt} {S : aSet} {n : Nat} {x : Int32} (hi : rInv R T) (hn : n = (tPast T).length) (h : ¬ n = 0) (hS : (tPast T)[(tPast T).length - 1]? = some S) (hx : x = nI (n - 1)) : rInv (rs (rA R 1 (cpA (R.2 1) n 0 1479)) 2 x) (S, (tPast T).dropLast, T.2.2) := by
  subst hn; subst hx
  have hp := ri_past hi _ S hS
  obtain ⟨h1, h2, h3, h4, h5, h6, h7, h8, h9, h10, h11, h12, h13, h14, h15⟩ := hi
  refine ⟨?_, hp.2, ?_, ?_, ?_, h6, ?_, h8, h9, h10, h11, h12, h13, h14, h15⟩
  · have e := cp_row (t := 0) hp.2.1 hp.1
    rw [show (tPast T).length - 1 + 1 = (tPast T).length by omega] at e
    exact e
  · show (tPast T).dropLast.length ≤ 8
    rw [List.length_dropLast]; omega
  · show nI _ = nI (tPast T).dropLast.length
    rw [List.length_dropLast]
  · intro k S' hk
    have hk2 : (tPast T).dropLast[k]? = some S' := hk
    have hk3 : (tPast T)[k]? = some S' := by
      rw [List.getElem?_dropLast] at hk2
      split at hk2
      · exact hk2
      · exact absurd hk2 (by simp)
    have e := h5 k S' hk3
    exact ⟨rowRep_mv e.2.1 (fun j hj => cp_out (by omega)) e.1, e.2⟩
  · intro S' hS'
    have e := h7 S' hS'
    exact ⟨rowRep_mv e.2.1 (fun j hj => cp_out (by omega)) e.1, e.2⟩
theorem ri_snap {R : rR} {T : aSt} {x : Int32} (hi : rInv R T) (hx : x = nI 1) : rInv (rA (rs R 3 x) 1 (cpA (R.2 1) 0 9 1479)) (tSet T, tPast T, some (tSet T), T.2.2.2) := by
  subst hx
  obtain ⟨h1, h2, h3, h4, h5, h6, h7, h8, h9, h10, h11, h12, h13, h14, h15⟩ := hi
  refine ⟨rowRep_mv h2.1 (fun j hj => cp_out (by omega)) h1, h2, h3, h4, fun k S hk => ?_, rfl, fun S hS => ?_, h8, h9, h10, h11, h12, h13, h14, h15⟩
  · have e := h5 k S hk
    have hk8 : k < 8 := by
      by_cases hc : k < (tPast T).length
      · omega
      · rw [show (tPast T)[k]? = none from List.getElem?_eq_none (by omega)] at hk
        exact absurd hk (by simp)
    exact ⟨rowRep_mv e.2.1 (fun j hj => cp_out (by omega)) e.1, e.2⟩
  · injection hS with hS
    subst hS
    exact ⟨cp_row h2.1 h1, h2⟩
theorem ri_rest {R : rR} {T : aSt} {S : aSet} {x : Int32} (hi : rInv R T) (hS : tSave T = some S) (hx : x = nI 0) : rInv (rs (rA R 1 (cpA (R.2 1) 9 0 1479)) 2 x) (S, [], T.2.2) := by
  subst hx
  have hp := ri_svr hi S hS
  obtain ⟨h1, h2, h3, h4, h5, h6, h7, h8, h9, h10, h11, h12, h13, h14, h15⟩ := hi
  refine ⟨cp_row hp.2.1 hp.1, hp.2, Nat.zero_le _, rfl, fun k S' hk => absurd hk (by simp [tPast]), h6, fun S' hS' => ?_, h8, h9, h10, h11, h12, h13, h14, h15⟩
  have e := h7 S' hS'
  exact ⟨rowRep_mv e.2.1 (fun j hj => cp_out (by omega)) e.1, e.2⟩
theorem rst_1 {T : aSt} (h : ¬ (tSave T).isSome = true) : opRestore T = (1, nI 0, T) := by
  rw [opRestore]
  cases hs : tSave T with
  | none => rfl
  | some S => rw [hs] at h; exact absurd rfl h
theorem rst_0 {T : aSt} {S : aSet} (h : tSave T = some S) : opRestore T = (0, nI (sRecs S).length, (S, [], T.2.2)) := by
  rw [opRestore, h]
set_option maxHeartbeats 4000000 in
set_option maxRecDepth 100000 in
theorem o_X10_undo  : ROp jX10_undo 1 [] (opUndo) := by
  intro R T hi
  obtain ⟨S, P, V, b, e, u⟩ := T
  intro G o M0 hs hBo
  refine jMet_of [some (.ref o)] (by decide) rfl (Nat.le_of_ble_eq_true rfl) rfl hs ?_
  intro C hC9 hG
  have hC := hC9.z
  have hB : jB C ≤ o := by rw [jB, hG]; exact hBo
  have hp : rPre R S := ri_pre hi
  have h20 := rp_n20 hp
  have hP8 : P.length ≤ 8 := ri_pn hi
  have hb120 : b.length ≤ 120 := ri_bn hi
  refine j_aload_n hC dX10_undo_0 rfl (jrf_ref _) ?_
  refine j_aload_n hC dX10_undo_1 rfl (jrf_ref _) ?_
  refine r_getN (x := nI (P.length)) hC kf_X10_81 dX10_undo_2 rfl (ri_ch hi) ?_
  refine n_if_ne (tgt := 12) hC dX10_undo_5 (by decide) (by omega) (fun c1 => ?_) (fun c1 => ?_)
  · refine j_iconst (v := nI 0) hC dX10_undo_12 (by decide) ?_
    refine r_put hC kp_X10_78 dX10_undo_13 hB rfl rfl rF_set_0 ?_
    refine j_aload_n hC dX10_undo_16 rfl (jrf_ref _) ?_
    refine r_getN (x := nI (0)) hC kf_X10_78 dX10_undo_17 rfl (rfl) ?_
    refine n_if_eq (tgt := 25) hC dX10_undo_20 (by decide) (by omega) (fun c2 => ?_) (fun c2 => ?_)
    · have hP0 : ¬ P.length = 0 := by assumption
      obtain ⟨S9, hS1, hS2⟩ := last_of hP0
      refine j_aload_n hC dX10_undo_25 rfl (jrf_ref _) ?_
      refine j_aload_n hC dX10_undo_26 rfl (jrf_ref _) ?_
      refine r_getN (x := nI (P.length)) hC kf_X10_81 dX10_undo_27 rfl (ri_ch hi) ?_
      refine j_iconst (v := nI 0) hC dX10_undo_30 (by decide) ?_
      refine r_cv2 hC kv_X10_84 dX10_undo_31 (m_X10_copies (f := P.length) (t := 0) (by omega) (by omega)) hB rfl (by decide) (Nat.le_of_ble_eq_true rfl) ?_
      refine j_aload_n hC dX10_undo_34 rfl (jrf_ref _) ?_
      refine j_dup hC dX10_undo_35 rfl ?_
      refine r_getN (x := nI (P.length)) hC kf_X10_81 dX10_undo_36 rfl (ri_ch hi) ?_
      refine j_iconst (v := nI 1) hC dX10_undo_39 (by decide) ?_
      refine n_isub hC dX10_undo_40 (by omega) ?_
      refine r_put hC kp_X10_81 dX10_undo_41 hB rfl rfl rF_set_2 ?_
      refine j_aload_n hC dX10_undo_44 rfl (jrf_ref _) ?_
      refine r_getN (x := nI ((P.length) - (1))) hC kf_X10_81 dX10_undo_45 rfl (rfl) ?_
      have e9 : opUndo (S, P, V, b, e, u) = (0, nI ((P.length) - (1)), (S9, P.dropLast, V, b, e, u)) := und_0 hS1
      exact j_iret hC9 rfl rfl dX10_undo_48 ⟨(rs (rA (rs R 0 (nI (0))) 1 (cpA ((rs R 0 (nI (0))).2 1) (P.length) (0) 1479)) 2 (nI ((P.length) - (1)))), ro_ans e9 (rfl) (ri_undo (T := (S, P, V, b, e, u)) (R := rs R 0 (nI 0)) hi rfl hP0 hS2 rfl), rfl⟩
    · exact absurd c2 (by decide)
  · refine j_iconst (v := nI 1) hC dX10_undo_8 (by decide) ?_
    refine j_goto (tgt := 13) hC dX10_undo_9 (by decide) ?_
    refine r_put hC kp_X10_78 dX10_undo_13 hB rfl rfl rF_set_0 ?_
    refine j_aload_n hC dX10_undo_16 rfl (jrf_ref _) ?_
    refine r_getN (x := nI (1)) hC kf_X10_78 dX10_undo_17 rfl (rfl) ?_
    refine n_if_eq (tgt := 25) hC dX10_undo_20 (by decide) (by omega) (fun c3 => ?_) (fun c3 => ?_)
    · exact absurd c3 (by decide)
    · refine j_iconst (v := nI 0) hC dX10_undo_23 (by decide) ?_
      have e9 : opUndo (S, P, V, b, e, u) = (1, nI (0), (S, P, V, b, e, u)) := und_1 (by assumption)
      exact j_iret hC9 rfl rfl dX10_undo_24 ⟨(rs R 0 (nI (1))), ro_ans e9 (rfl) (hi), rfl⟩
set_option maxHeartbeats 4000000 in
set_option maxRecDepth 100000 in
theorem o_X10_snapshot  : ROp jX10_snapshot 1 [] (opSnap) := by
  intro R T hi
  obtain ⟨S, P, V, b, e, u⟩ := T
  intro G o M0 hs hBo
  refine jMet_of [some (.ref o)] (by decide) rfl (Nat.le_of_ble_eq_true rfl) rfl hs ?_
  intro C hC9 hG
  have hC := hC9.z
  have hB : jB C ≤ o := by rw [jB, hG]; exact hBo
  have hp : rPre R S := ri_pre hi
  have h20 := rp_n20 hp
  have hP8 : P.length ≤ 8 := ri_pn hi
  have hb120 : b.length ≤ 120 := ri_bn hi
  refine j_aload_n hC dX10_snapshot_0 rfl (jrf_ref _) ?_
  refine j_iconst (v := nI 0) hC dX10_snapshot_1 (by decide) ?_
  refine r_put hC kp_X10_78 dX10_snapshot_2 hB rfl rfl rF_set_0 ?_
  refine j_aload_n hC dX10_snapshot_5 rfl (jrf_ref _) ?_
  refine j_iconst (v := nI 1) hC dX10_snapshot_6 (by decide) ?_
  refine r_put hC kp_X10_268 dX10_snapshot_7 hB (by decide) (by decide) rF_set_3 ?_
  refine j_aload_n hC dX10_snapshot_10 rfl (jrf_ref _) ?_
  refine j_iconst (v := nI 0) hC dX10_snapshot_11 (by decide) ?_
  refine j_bipush (v := nI 9) hC dX10_snapshot_12 (by decide) ?_
  refine r_cv2 hC kv_X10_84 dX10_snapshot_14 (m_X10_copies (f := 0) (t := 9) (by omega) (by omega)) hB rfl (by decide) (Nat.le_of_ble_eq_true rfl) ?_
  refine j_aload_n hC dX10_snapshot_17 rfl (jrf_ref _) ?_
  refine r_get hC kf_X10_9 dX10_snapshot_18 rfl ?_
  refine j_iconst (v := nI 0) hC dX10_snapshot_21 (by decide) ?_
  refine r_aldN (k := 1) (j := 0) (x := nI ((sRecs S).length)) hC dX10_snapshot_22 (c := 1) (n := 14790) (by decide) rfl rfl (by omega) (by decide) ((cp_out (f := 0) (t := 9) (by omega)).trans (rp_many hp)) ?_
  have e9 : opSnap (S, P, V, b, e, u) = (0, nI ((sRecs S).length), (S, P, some S, b, e, u)) := rfl
  exact j_iret hC9 rfl rfl dX10_snapshot_23 ⟨(rA (rs (rs R 0 (nI (0))) 3 (nI (1))) 1 (cpA ((rs (rs R 0 (nI (0))) 3 (nI (1))).2 1) (0) (9) 1479)), ro_ans e9 (rfl) (ri_snap (T := (S, P, V, b, e, u)) (R := rs R 0 (nI 0)) hi rfl), rfl⟩
set_option maxHeartbeats 4000000 in
set_option maxRecDepth 100000 in
theorem o_X10_restore  : ROp jX10_restore 1 [] (opRestore) := by
  intro R T hi
  obtain ⟨S, P, V, b, e, u⟩ := T
  intro G o M0 hs hBo
  refine jMet_of [some (.ref o)] (by decide) rfl (Nat.le_of_ble_eq_true rfl) rfl hs ?_
  intro C hC9 hG
  have hC := hC9.z
  have hB : jB C ≤ o := by rw [jB, hG]; exact hBo
  have hp : rPre R S := ri_pre hi
  have h20 := rp_n20 hp
  have hP8 : P.length ≤ 8 := ri_pn hi
  have hb120 : b.length ≤ 120 := ri_bn hi
  refine j_aload_n hC dX10_restore_0 rfl (jrf_ref _) ?_
  refine j_aload_n hC dX10_restore_1 rfl (jrf_ref _) ?_
  refine r_getN (x := jb (V.isSome = true)) hC kf_X10_268 dX10_restore_2 rfl (ri_sv hi) ?_
  refine jb_if_eq (tgt := 12) hC dX10_restore_5 (by decide) (fun c1 => ?_) (fun c1 => ?_)
  · refine j_iconst (v := nI 1) hC dX10_restore_12 (by decide) ?_
    refine r_put hC kp_X10_78 dX10_restore_13 hB rfl rfl rF_set_0 ?_
    refine j_aload_n hC dX10_restore_16 rfl (jrf_ref _) ?_
    refine r_getN (x := nI (1)) hC kf_X10_78 dX10_restore_17 rfl (rfl) ?_
    refine n_if_eq (tgt := 25) hC dX10_restore_20 (by decide) (by omega) (fun c2 => ?_) (fun c2 => ?_)
    · exact absurd c2 (by decide)
    · refine j_iconst (v := nI 0) hC dX10_restore_23 (by decide) ?_
      have e9 : opRestore (S, P, V, b, e, u) = (1, nI (0), (S, P, V, b, e, u)) := rst_1 (by assumption)
      exact j_iret hC9 rfl rfl dX10_restore_24 ⟨(rs R 0 (nI (1))), ro_ans e9 (rfl) (hi), rfl⟩
  · refine j_iconst (v := nI 0) hC dX10_restore_8 (by decide) ?_
    refine j_goto (tgt := 13) hC dX10_restore_9 (by decide) ?_
    refine r_put hC kp_X10_78 dX10_restore_13 hB rfl rfl rF_set_0 ?_
    refine j_aload_n hC dX10_restore_16 rfl (jrf_ref _) ?_
    refine r_getN (x := nI (0)) hC kf_X10_78 dX10_restore_17 rfl (rfl) ?_
    refine n_if_eq (tgt := 25) hC dX10_restore_20 (by decide) (by omega) (fun c3 => ?_) (fun c3 => ?_)
    · obtain ⟨S9, hV⟩ : ∃ S9, V = some S9 := Option.isSome_iff_exists.mp (by assumption)
      refine j_aload_n hC dX10_restore_25 rfl (jrf_ref _) ?_
      refine j_bipush (v := nI 9) hC dX10_restore_26 (by decide) ?_
      refine j_iconst (v := nI 0) hC dX10_restore_28 (by decide) ?_
      refine r_cv2 hC kv_X10_84 dX10_restore_29 (m_X10_copies (f := 9) (t := 0) (by omega) (by omega)) hB rfl (by decide) (Nat.le_of_ble_eq_true rfl) ?_
      refine j_aload_n hC dX10_restore_32 rfl (jrf_ref _) ?_
      refine j_iconst (v := nI 0) hC dX10_restore_33 (by decide) ?_
      refine r_put hC kp_X10_81 dX10_restore_34 hB rfl rfl rF_set_2 ?_
      have hi9 : rInv (rs (rA (rs R 0 (nI (0))) 1 (cpA ((rs R 0 (nI (0))).2 1) (9) (0) 1479)) 2 (nI (0))) (S9, [], V, b, e, u) := ri_rest (T := (S, P, V, b, e, u)) (R := rs R 0 (nI 0)) hi hV rfl
      have hp9 := ri_pre hi9
      refine j_aload_n hC dX10_restore_37 rfl (jrf_ref _) ?_
      refine r_get hC kf_X10_9 dX10_restore_38 rfl ?_
      refine j_iconst (v := nI 0) hC dX10_restore_41 (by decide) ?_
      refine r_aldN (k := 1) (j := 0) (x := nI ((sRecs S9).length)) hC dX10_restore_42 (c := 1) (n := 14790) (by decide) rfl rfl (by omega) (by decide) (rp_many hp9) ?_
      have e9 : opRestore (S, P, V, b, e, u) = (0, nI ((sRecs S9).length), (S9, [], V, b, e, u)) := rst_0 hV
      exact j_iret hC9 rfl rfl dX10_restore_43 ⟨(rs (rA (rs R 0 (nI (0))) 1 (cpA ((rs R 0 (nI (0))).2 1) (9) (0) 1479)) 2 (nI (0))), ro_ans e9 (rfl) (hi9), rfl⟩
    · exact absurd c3 (by decide)
section OK9
variable {T : aSt} {r : Int32} {a : Nat}
theorem kpt_1 (h : ¬ jin r (sRecs (tSet T)).length = true) : opKept r T = (1, nI 0, T) := if_neg h
theorem kpt_2 (ha : a < (sRecs (tSet T)).length) (h20 : (sRecs (tSet T)).length ≤ 20) (h : outA (tSet T) (sAt (tSet T) a) = true) : opKept (nI a) T = (2, nI 0, T) := by
  rw [opKept, if_pos (by rw [jin_nI (by omega)]; exact decide_eq_true ha), toN_nI (by omega), if_pos h]
  rfl
theorem kpt_0 (ha : a < (sRecs (tSet T)).length) (h20 : (sRecs (tSet T)).length ≤ 20) (h : ¬ outA (tSet T) (sAt (tSet T) a) = true) : opKept (nI a) T = (0, zI (optZ (keptA (tSet T) a (sPol (tSet T)) false)), T) := by
  rw [opKept, if_pos (by rw [jin_nI (by omega)]; exact decide_eq_true ha), toN_nI (by omega), if_neg h]
end OK9
set_option maxHeartbeats 4000000 in
set_option maxRecDepth 100000 in
theorem o_X10_kept {r : Int32} : ROp jX10_kept 5 [.int r] (opKept r) := by
  intro R T hi
  obtain ⟨S, P, V, b, e, u⟩ := T
  intro G o M0 hs hBo
  refine jMet_of [some (.ref o), some (.int r)] (by decide) rfl (Nat.le_of_ble_eq_true rfl) rfl hs ?_
  intro C hC9 hG
  have hC := hC9.z
  have hB : jB C ≤ o := by rw [jB, hG]; exact hBo
  have hp : rPre R S := ri_pre hi
  have h20 := rp_n20 hp
  have hP8 : P.length ≤ 8 := ri_pn hi
  have hb120 : b.length ≤ 120 := ri_bn hi
  have hpl : sPol S < 3 := hp.2.2.2.1
  refine j_aload_n hC dX10_kept_0 rfl (jrf_ref _) ?_
  refine j_aload_n hC dX10_kept_1 rfl (jrf_ref _) ?_
  refine j_iload_n hC dX10_kept_2 rfl ?_
  refine r_ci1 hC kv_X10_102 dX10_kept_3 (m_X10_isRecord hp) hB rfl (by decide) (Nat.le_of_ble_eq_true rfl) ?_
  refine jb_if_ne (tgt := 13) hC dX10_kept_6 (by decide) (fun c1 => ?_) (fun c1 => ?_)
  · obtain ⟨r9, hr9, rfl⟩ := jin_of (by assumption : jin r (sRecs S).length = true) (by omega)
    refine j_aload_n hC dX10_kept_13 rfl (jrf_ref _) ?_
    refine j_iload_n hC dX10_kept_14 rfl ?_
    refine r_ci1 hC kv_X10_243 dX10_kept_15 (m_X10_isOut hp (by assumption)) hB rfl (by decide) (Nat.le_of_ble_eq_true rfl) ?_
    refine jb_if_eq (tgt := 25) hC dX10_kept_18 (by decide) (fun c2 => ?_) (fun c2 => ?_)
    · refine j_iconst (v := nI 0) hC dX10_kept_25 (by decide) ?_
      refine r_put hC kp_X10_78 dX10_kept_26 hB rfl rfl rF_set_0 ?_
      refine j_aload_n hC dX10_kept_29 rfl (jrf_ref _) ?_
      refine r_getN (x := nI (0)) hC kf_X10_78 dX10_kept_30 rfl (rfl) ?_
      refine n_if_ne (tgt := 51) hC dX10_kept_33 (by decide) (by omega) (fun c3 => ?_) (fun c3 => ?_)
      · exact absurd c3 (by decide)
      · refine j_aload_n hC dX10_kept_36 rfl (jrf_ref _) ?_
        refine j_iload_n hC dX10_kept_37 rfl ?_
        refine j_aload_n hC dX10_kept_38 rfl (jrf_ref _) ?_
        refine r_get hC kf_X10_9 dX10_kept_39 rfl ?_
        refine j_iconst (v := nI 2) hC dX10_kept_42 (by decide) ?_
        refine r_aldN (k := 1) (j := 2) (x := nI (sPol S)) hC dX10_kept_43 (c := 1) (n := 14790) (by decide) rfl rfl (by omega) (by decide) (rp_pol hp) ?_
        refine j_iconst (v := nI 0) hC dX10_kept_44 (by decide) ?_
        refine r_ci3 hC kv_X10_249 dX10_kept_45 (m_X10_keptOf (b := false) hp (by assumption) (by omega)) hB rfl (by decide) (Nat.le_of_ble_eq_true rfl) ?_
        refine j_goto (tgt := 52) hC dX10_kept_48 (by decide) ?_
        have e9 : opKept (nI r9) (S, P, V, b, e, u) = (0, zI (optZ (keptA S (r9) (sPol S) false)), (S, P, V, b, e, u)) := kpt_0 hr9 h20 (by assumption)
        exact j_iret hC9 rfl rfl dX10_kept_52 ⟨(rs R 0 (nI (0))), ro_ans e9 (rfl) (hi), rfl⟩
    · refine j_iconst (v := nI 2) hC dX10_kept_21 (by decide) ?_
      refine j_goto (tgt := 26) hC dX10_kept_22 (by decide) ?_
      refine r_put hC kp_X10_78 dX10_kept_26 hB rfl rfl rF_set_0 ?_
      refine j_aload_n hC dX10_kept_29 rfl (jrf_ref _) ?_
      refine r_getN (x := nI (2)) hC kf_X10_78 dX10_kept_30 rfl (rfl) ?_
      refine n_if_ne (tgt := 51) hC dX10_kept_33 (by decide) (by omega) (fun c4 => ?_) (fun c4 => ?_)
      · refine j_iconst (v := nI 0) hC dX10_kept_51 (by decide) ?_
        have e9 : opKept (nI r9) (S, P, V, b, e, u) = (2, nI (0), (S, P, V, b, e, u)) := kpt_2 hr9 h20 (by assumption)
        exact j_iret hC9 rfl rfl dX10_kept_52 ⟨(rs R 0 (nI (2))), ro_ans e9 (rfl) (hi), rfl⟩
      · exact absurd c4 (by decide)
  · refine j_iconst (v := nI 1) hC dX10_kept_9 (by decide) ?_
    refine j_goto (tgt := 26) hC dX10_kept_10 (by decide) ?_
    refine r_put hC kp_X10_78 dX10_kept_26 hB rfl rfl rF_set_0 ?_
    refine j_aload_n hC dX10_kept_29 rfl (jrf_ref _) ?_
    refine r_getN (x := nI (1)) hC kf_X10_78 dX10_kept_30 rfl (rfl) ?_
    refine n_if_ne (tgt := 51) hC dX10_kept_33 (by decide) (by omega) (fun c5 => ?_) (fun c5 => ?_)
    · refine j_iconst (v := nI 0) hC dX10_kept_51 (by decide) ?_
      have e9 : opKept r (S, P, V, b, e, u) = (1, nI (0), (S, P, V, b, e, u)) := kpt_1 (by assumption)
      exact j_iret hC9 rfl rfl dX10_kept_52 ⟨(rs R 0 (nI (1))), ro_ans e9 (rfl) (hi), rfl⟩
    · exact absurd c5 (by decide)
