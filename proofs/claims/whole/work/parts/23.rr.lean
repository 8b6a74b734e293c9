theorem ri_buf {R : rR} {T : aSt} {n : Int32} (h : rInv R T) (hn : n = nI 0) : rInv (rs R 5 n) (setBuf T []) := by
  subst hn
  obtain ⟨h1, h2, h3, h4, h5, h6, h7, h8, h9, h10, h11, h12, h13, h14, h15⟩ := h
  exact ⟨h1, h2, h3, h4, h5, h6, h7, Nat.zero_le _, rfl, fun i hi => absurd hi (Nat.not_lt_zero i), fun c hc => absurd (show c ∈ ([] : List Nat) from hc) List.not_mem_nil, h12, h13, h14, h15⟩
theorem ri_err {R : rR} {T : aSt} {k : Nat} (h : rInv R T) (hk : k ≤ 120) {x : Int32} (hx : x = zI (optZ (some k))) : rInv (rs R 6 x) (setErr T k) := by
  subst hx
  obtain ⟨h1, h2, h3, h4, h5, h6, h7, h8, h9, h10, h11, h12, h13, h14, h15⟩ := h
  exact ⟨h1, h2, h3, h4, h5, h6, h7, h8, h9, h10, h11, rfl, fun k' e => by injection e with e; omega, h14, h15⟩
/-- a text and its length, in a row -/
def fiA (A : Nat → Int32) (c1 c2 : Nat) (t : List Nat) (k : Nat) : Nat → Int32 := fun j => if c2 ≤ j ∧ j < c2 + k then nI (t.getD (j - c2) 0) else if j = c1 then nI t.length else A j
theorem fiA_0 {A : Nat → Int32} {c1 c2 : Nat} {t : List Nat} : fiA A c1 c2 t 0 = upd A c1 (nI t.length) := by
  funext j
  simp only [fiA, upd]
  rw [if_neg (by omega)]
theorem fiA_succ {A : Nat → Int32} {c1 c2 k : Nat} {t : List Nat} : upd (fiA A c1 c2 t k) (c2 + k) (nI (t.getD k 0)) = fiA A c1 c2 t (k + 1) := by
  funext j
  simp only [fiA, upd]
  by_cases h : j = c2 + k
  · subst h
    rw [if_pos rfl, if_pos (by omega), Nat.add_sub_cancel_left]
  · rw [if_neg h]
    by_cases h2 : c2 ≤ j ∧ j < c2 + k
    · rw [if_pos h2, if_pos (by omega)]
    · rw [if_neg h2, if_neg (show ¬ (c2 ≤ j ∧ j < c2 + (k + 1)) by omega)]
theorem fiA_out {A : Nat → Int32} {c1 c2 k j : Nat} {t : List Nat} (h : j < c2 ∨ c2 + k ≤ j) (h1 : j ≠ c1) : fiA A c1 c2 t k j = A j := by
  simp only [fiA]
  rw [if_neg (by omega), if_neg h1]
theorem fiA_len {A : Nat → Int32} {c1 c2 k : Nat} {t : List Nat} (h : c1 < c2) : fiA A c1 c2 t k c1 = nI t.length := by
  show (if c2 ≤ c1 ∧ c1 < c2 + k then nI (t.getD (c1 - c2) 0) else if c1 = c1 then nI t.length else A c1) = nI t.length
  rw [if_neg (by omega)]
  exact if_pos rfl
theorem fiA_in {A : Nat → Int32} {c1 c2 k i : Nat} {t : List Nat} (h : i < k) : fiA A c1 c2 t k (c2 + i) = nI (t.getD i 0) := by
  simp only [fiA]
  rw [if_pos (by omega), Nat.add_sub_cancel_left]
theorem getD_out {t : List Nat} {k : Nat} (h : t.length ≤ k) : t.getD k 0 = 0 := by
  rw [List.getD_eq_getElem?_getD, List.getElem?_eq_none h]
  rfl
def opHome (T : aSt) : aAns := match wrongA (tBuf T) with
  | some k => (1, 0, setErr (setBuf T []) k)
  | none => (0, nI (sHome (tSet T)).length, chg (setBuf T []) (withHome (tSet T) (tBuf T)))
theorem home_row {A : Nat → Int32} {S : aSet} {t : List Nat} (hS : setOK S) (h : rowRep A 0 S) (hl : t.length ≤ 12) : rowRep (fiA A 5 6 t 12) 0 (withHome S t) := by
  have ht := hS.2.2.2.2.2.2.1.1
  obtain ⟨h0, h1, h2, h3, h4, h5, h6, h7, h8, h9⟩ := h
  have e : ∀ j, j < 5 ∨ 18 ≤ j → fiA A 5 6 t 12 j = A j := fun j hj => fiA_out (by omega) (by omega)
  exact ⟨(e _ (by decide)).trans h0, (e _ (by decide)).trans h1, (e _ (by decide)).trans h2, (e _ (by decide)).trans h3, (e _ (by decide)).trans h4, fiA_len (by decide), fun i hi => by rw [Nat.zero_add]; exact fiA_in (by have : i < t.length := hi; omega), (e _ (by decide)).trans h7, fun i hi => (e _ (by omega)).trans (h8 i hi), fun r hr => recRep_mv (setOK_rec hS hr) (fun j hj => e _ (by omega)) (h9 r hr)⟩
theorem setG_home {S : aSet} {t : List Nat} (hS : setG S) (h : t.length ≤ 12) (hc : ∀ c ∈ t, 32 ≤ c ∧ c ≤ 126) : setG (withHome S t) := by
  obtain ⟨⟨a1, a2, a3, a4, a5, a6, a7, a8⟩, a9⟩ := hS
  exact ⟨⟨a1, a2, a3, a4, a5, ⟨h, hc⟩, a7, a8⟩, a9⟩
theorem optZ_eq {x : Option Nat} {k : Nat} (h : x = some k) : zI (optZ x) = zI (optZ (some k)) := by rw [h]
section OF
variable {T : aSt} {k : Nat}
theorem hom_1 (h : wrongA (tBuf T) = some k) : opHome T = (1, nI 0, setErr (setBuf T []) k) := by
  rw [opHome, h]
  rfl
theorem hom_0 (h : wrongA (tBuf T) = none) : opHome T = (0, nI (sHome (tSet T)).length, chg (setBuf T []) (withHome (tSet T) (tBuf T))) := by
  rw [opHome, h]
end OF
set_option maxHeartbeats 4000000 in
set_option maxRecDepth 100000 in
theorem o_X10_setHome  : ROp jX10_setHome 2 [] (opHome) := by
  intro R T hi
  obtain ⟨S, P, V, b, e, u⟩ := T
  intro G o M0 hs hBo
  refine jMet_of [some (.ref o), none, none, none, none] (by decide) rfl (Nat.le_of_ble_eq_true rfl) rfl hs ?_
  intro C hC9 hG
  have hC := hC9.z
  have hB : jB C ≤ o := by rw [jB, hG]; exact hBo
  have hp : rPre R S := ri_pre hi
  have h20 := rp_n20 hp
  have hP8 : P.length ≤ 8 := ri_pn hi
  have hb120 : b.length ≤ 120 := ri_bn hi
  have hwz := optZ_zB (n := 120) (fun m hm => Nat.lt_of_lt_of_le (wrong_lt (b := b) hm) hb120)
  refine j_aload_n hC dX10_setHome_0 rfl (jrf_ref _) ?_
  refine r_ci0 hC kv_X10_127 dX10_setHome_1 (m_X10_wrongField (b := b) (R := R) (ri_bn hi) (ri_bl hi) (ri_bc hi) (ri_bo hi)) hB rfl (by decide) (Nat.le_of_ble_eq_true rfl) ?_
  refine j_istore_n1 hC dX10_setHome_4 (by decide) rfl ?_
  refine j_aload_n hC dX10_setHome_5 rfl (jrf_ref _) ?_
  refine r_getN (x := nI (b.length)) hC kf_X10_96 dX10_setHome_6 rfl (ri_bl hi) ?_
  refine j_istore_n2 hC dX10_setHome_9 (by decide) rfl ?_
  refine j_aload_n hC dX10_setHome_10 rfl (jrf_ref _) ?_
  refine j_iconst (v := nI 0) hC dX10_setHome_11 (by decide) ?_
  refine r_put hC kp_X10_96 dX10_setHome_12 hB rfl rfl rF_set_5 ?_
  refine j_aload_n hC dX10_setHome_15 rfl (jrf_ref _) ?_
  refine j_iload_n hC dX10_setHome_16 rfl ?_
  refine z_if_lt (a := (optZ (wrongA b))) (tgt := 24) hC dX10_setHome_17 (by decide) (by unfold zB; omega) (fun c1 => ?_) (fun c1 => ?_)
  · refine j_iconst (v := nI 0) hC dX10_setHome_24 (by decide) ?_
    refine r_put hC kp_X10_78 dX10_setHome_25 hB rfl rfl rF_set_0 ?_
    refine j_aload_n hC dX10_setHome_28 rfl (jrf_ref _) ?_
    refine r_getN (x := nI (0)) hC kf_X10_78 dX10_setHome_29 rfl (rfl) ?_
    refine n_if_eq (tgt := 42) hC dX10_setHome_32 (by decide) (by omega) (fun c2 => ?_) (fun c2 => ?_)
    · have hn9 := optZ_none (x := wrongA b) (by omega)
      have hi1 : rInv (rs (rs R 5 (nI (0))) 0 (nI (0))) (S, P, V, [], e, u) := ri_thr (ri_buf hi rfl)
      refine j_aload_n hC dX10_setHome_42 rfl (jrf_ref _) ?_
      refine r_cv0 hC kv_X10_99 dX10_setHome_43 (m_X10_keeps (R := (rs (rs R 5 (nI (0))) 0 (nI (0)))) (n := P.length) hP8 (ri_ch hi)) hB rfl (by decide) (Nat.le_of_ble_eq_true rfl) ?_
      have hi2 := ri_keep (T := (S, P, V, [], e, u)) (R := (rs (rs R 5 (nI (0))) 0 (nI (0)))) hi1
      have hp2 : rPre (keepR (rs (rs R 5 (nI (0))) 0 (nI (0))) P.length) S := ri_pre hi2
      refine j_aload_n hC dX10_setHome_46 rfl (jrf_ref _) ?_
      refine r_get hC kf_X10_9 dX10_setHome_47 rfl ?_
      refine j_iconst (v := nI 5) hC dX10_setHome_50 (by decide) ?_
      refine r_aldN (k := 1) (j := 5) (x := nI ((sHome S).length)) hC dX10_setHome_51 (c := 1) (n := 14790) (by decide) rfl rfl (by omega) (by decide) (rp_home hp2) ?_
      refine j_istore_n3 hC dX10_setHome_52 (by decide) rfl ?_
      refine j_aload_n hC dX10_setHome_53 rfl (jrf_ref _) ?_
      refine r_get hC kf_X10_9 dX10_setHome_54 rfl ?_
      refine j_iconst (v := nI 5) hC dX10_setHome_57 (by decide) ?_
      refine j_iload_n hC dX10_setHome_58 rfl ?_
      refine r_ast (k := 1) (j := 5) hC dX10_setHome_59 (c := 1) (n := 14790) (by decide) (fun _ => rfl) (rO_k1) hB rfl (by omega) (by decide) ?_
      refine j_iconst (v := nI 0) hC dX10_setHome_60 (by decide) ?_
      refine j_istore_4 hC dX10_setHome_61 (by decide) rfl ?_
      suffices K : ∀ (n9 : Nat) (k : Nat), 12 - k < n9 → (k ≤ 12) → J C (rM o M0 (rA (keepR (rs (rs R 5 (nI (0))) 0 (nI (0))) P.length) 1 (fiA ((keepR (rs (rs R 5 (nI (0))) 0 (nI (0))) P.length).2 1) 5 6 b k))) 0 0 63 [some (.ref o), none, some (.int (nI (b.length))), some (.int (nI ((sHome S).length))), some (.int (nI (k)))] [] from j_R (by rw [fiA_0]; exact ra_rA) (j_L (jle_s (jle_n (jle_s (jle_s (jle_s (jle_0)))))) (K _ (0) (Nat.lt_succ_self _) (by omega)))
      intro n9
      induction n9 with
      | zero => intro k hm; omega
      | succ n9 ih =>
        intro k hm hk
        refine j_iload hC dX10_setHome_63 rfl ?_
        refine j_bipush (v := nI 12) hC dX10_setHome_65 (by decide) ?_
        refine n_icmp_ge (tgt := 103) hC dX10_setHome_67 (by decide) (by omega) (by omega) (fun c3 => ?_) (fun c3 => ?_)
        · refine j_iload_n hC dX10_setHome_103 rfl ?_
          have e9 : opHome (S, P, V, b, e, u) = (0, nI ((sHome S).length), chg (S, P, V, [], e, u) (withHome S b)) := hom_0 hn9
          exact j_iret hC9 rfl rfl dX10_setHome_104 ⟨(rA (keepR (rs (rs R 5 (nI (0))) 0 (nI (0))) P.length) 1 (fiA ((keepR (rs (rs R 5 (nI (0))) 0 (nI (0))) P.length).2 1) 5 6 b k)), ro_ans e9 (rfl) (by rw [show k = 12 by omega]; exact ri_set hi2 (fun j hj => fiA_out (by omega) (by omega)) (home_row (ri_ok hi2).1 (ri_row hi2) (wrong_ok hn9).1) (setG_home (ri_ok hi2) (wrong_ok hn9).1 (ri_bo hi))), rfl⟩
        · refine j_aload_n hC dX10_setHome_70 rfl (jrf_ref _) ?_
          refine r_get hC kf_X10_9 dX10_setHome_71 rfl ?_
          refine j_bipush (v := nI 6) hC dX10_setHome_74 (by decide) ?_
          refine j_iload hC dX10_setHome_76 rfl ?_
          refine n_iadd hC dX10_setHome_78 ?_
          refine j_iload hC dX10_setHome_79 rfl ?_
          refine j_iload_n hC dX10_setHome_81 rfl ?_
          suffices K : J C (rM o M0 ((rA (keepR (rs (rs R 5 (nI (0))) 0 (nI (0))) P.length) 1 (fiA ((keepR (rs (rs R 5 (nI (0))) 0 (nI (0))) P.length).2 1) 5 6 b k)))) 0 0 96 [some (.ref o), none, some (.int (nI (b.length))), some (.int (nI ((sHome S).length))), some (.int (nI (k)))] [.int (nI (b.getD k 0)), .int (nI (6 + k)), .ref (o + 1)] by
            refine n_icmp_ge (tgt := 95) hC dX10_setHome_82 (by decide) (by omega) (by omega) (fun c4 => ?_) (fun c4 => ?_)
            · refine j_iconst (v := nI 0) hC dX10_setHome_95 (by decide) ?_
              exact j_top (by first | rfl | rw [getD_out (by omega)]) K
            · refine j_aload_n hC dX10_setHome_85 rfl (jrf_ref _) ?_
              refine r_get hC kf_X10_13 dX10_setHome_86 rfl ?_
              refine j_iload hC dX10_setHome_89 rfl ?_
              refine r_aldN (k := 4) (j := k) (x := nI (b.getD (k) 0)) hC dX10_setHome_91 (c := 2) (n := 120) (by decide) rfl rfl (by omega) (by decide) (ri_bc hi _ (by omega)) ?_
              refine j_goto (tgt := 96) hC dX10_setHome_92 (by decide) ?_
              exact j_top (by first | rfl | rw [getD_out (by omega)]) K
          refine r_ast (k := 1) (j := 6 + k) hC dX10_setHome_96 (c := 1) (n := 14790) (by decide) (fun _ => rfl) (rO_k1) hB rfl (by omega) (by decide) ?_
          refine j_iinc_4 (v := nI (k + 1)) hC dX10_setHome_97 (nI_add _ _) (by decide) rfl ?_
          refine j_goto (tgt := 63) hC dX10_setHome_100 (by decide) ?_
          exact j_R (rA_ra.trans (rA_eq fiA_succ)) (ih (k + 1) (by omega) (by omega))
    · exact absurd c2 (by decide)
  · refine j_iconst (v := nI 1) hC dX10_setHome_20 (by decide) ?_
    refine j_goto (tgt := 25) hC dX10_setHome_21 (by decide) ?_
    refine r_put hC kp_X10_78 dX10_setHome_25 hB rfl rfl rF_set_0 ?_
    refine j_aload_n hC dX10_setHome_28 rfl (jrf_ref _) ?_
    refine r_getN (x := nI (1)) hC kf_X10_78 dX10_setHome_29 rfl (rfl) ?_
    refine n_if_eq (tgt := 42) hC dX10_setHome_32 (by decide) (by omega) (fun c5 => ?_) (fun c5 => ?_)
    · exact absurd c5 (by decide)
    · obtain ⟨k9, hk9⟩ := optZ_some (x := wrongA b) (by omega)
      have hi1 : rInv (rs (rs R 5 (nI (0))) 0 (nI (1))) (S, P, V, [], e, u) := ri_thr (ri_buf hi rfl)
      refine j_aload_n hC dX10_setHome_35 rfl (jrf_ref _) ?_
      refine j_iload_n hC dX10_setHome_36 rfl ?_
      refine r_put hC kp_X10_16 dX10_setHome_37 hB rfl rfl rF_set_6 ?_
      refine j_iconst (v := nI 0) hC dX10_setHome_40 (by decide) ?_
      have e9 : opHome (S, P, V, b, e, u) = (1, nI (0), setErr (S, P, V, [], e, u) k9) := hom_1 hk9
      exact j_iret hC9 rfl rfl dX10_setHome_41 ⟨(rs (rs (rs R 5 (nI (0))) 0 (nI (1))) 6 (zI (optZ (wrongA b)))), ro_ans e9 (rfl) (ri_err (k := k9) (R := (rs (rs R 5 (nI (0))) 0 (nI (1)))) (ri_thr hi1) (by have := wrong_lt hk9; omega) (optZ_eq hk9)), rfl⟩
theorem rowRep_setrec {A A' : Nat → Int32} {S : aSet} {r : Nat} {q : aRec} (hS : setOK S) (h : rowRep A 0 S) (hr : r < (sRecs S).length) (hA : ∀ j, j < 139 + 67 * r ∨ 139 + 67 * r + 67 ≤ j → A' j = A j) (hq : recRep A' (139 + 67 * r) q) : rowRep A' 0 (setRec S r q) := by
  refine rowRep_recs hS h ?_ (fun j h1 h2 => hA j (by omega)) (fun s hs => ?_)
  · rw [List.length_set]
    exact (hA 0 (by omega)).trans h.1
  · rw [List.length_set] at hs
    by_cases e : s = r
    · subst e
      rw [List.getD_eq_getElem?_getD, List.getElem?_set_self hr]
      exact hq
    · rw [List.getD_eq_getElem?_getD, List.getElem?_set_ne (fun e2 => e e2.symm), ← List.getD_eq_getElem?_getD]
      exact recRep_mv (setOK_rec hS hs) (fun j hj => hA _ (by omega)) (recRep_at h hs)
theorem setG_rec {S : aSet} {r : Nat} {q : aRec} (hS : setG S) (hq : recOK q) : setG (setRec S r q) :=
  setG_recs hS (by rw [List.length_set]; exact setG_len hS) (fun x hx => (List.mem_or_eq_of_mem_set hx).elim (setG_all hS x) (fun e => e ▸ hq))
theorem fld_row {A : Nat → Int32} {S : aSet} {r f : Nat} {t : List Nat} (hS : setOK S) (h : rowRep A 0 S) (hr : r < (sRecs S).length) (hf : f < 5) (hl : t.length ≤ 12) : rowRep (fiA A (139 + 67 * r + 2 + f) (139 + 67 * r + 7 + 12 * f) t 12) 0 (setRec S r (setFld (sAt S r) f t)) := by
  have hq := recRep_at h hr
  refine rowRep_setrec hS h hr (fun j hj => fiA_out (by omega) (by omega)) ⟨(fiA_out (by omega) (by omega)).trans hq.1, (fiA_out (by omega) (by omega)).trans hq.2.1, fun g hg => ?_⟩
  by_cases e : g = f
  · subst e
    rw [show (setFld (sAt S r) g t).2.2 g = t from if_pos rfl]
    exact ⟨fiA_len (by omega), fun i hi => fiA_in (by omega)⟩
  · rw [show (setFld (sAt S r) f t).2.2 g = (sAt S r).2.2 g from if_neg e]
    refine ⟨(fiA_out (by omega) (by omega)).trans (hq.2.2 g hg).1, fun i hi => ?_⟩
    have h12 := ((setOK_rec hS hr).2.2 g hg).1
    refine (fiA_out ?_ (by omega)).trans ((hq.2.2 g hg).2 i hi)
    omega
theorem recOK_fld {q : aRec} {f : Nat} {t : List Nat} (hq : recOK q) (hl : t.length ≤ 12) (hc : ∀ c ∈ t, 32 ≤ c ∧ c ≤ 126) : recOK (setFld q f t) := by
  refine ⟨hq.1, hq.2.1, fun g hg => ?_⟩
  by_cases e : g = f
  · rw [show (setFld q f t).2.2 g = t from if_pos e]
    exact ⟨hl, hc⟩
  · rw [show (setFld q f t).2.2 g = q.2.2 g from if_neg e]
    exact hq.2.2 g hg
section OG
variable {T : aSt} {r f : Int32} {a g k : Nat}
theorem sfl_1 (h : ¬ (jin r (sRecs (tSet T)).length = true ∧ jin f 5 = true)) : opSetFld r f T = (1, nI 0, T) := if_neg h
theorem sfl_c (ha : a < (sRecs (tSet T)).length) (h20 : (sRecs (tSet T)).length ≤ 20) (hk : g < 5) : opSetFld (nI a) (nI g) T = match wrongA (tBuf T) with
    | some k => (2, 0, setErr (setBuf T []) k)
    | none => (0, nI ((sAt (tSet T) a).2.2 g).length, chg (setBuf T []) (setRec (tSet T) a (setFld (sAt (tSet T) a) g (tBuf T)))) := by
  rw [opSetFld, if_pos ⟨by rw [jin_nI (by omega)]; exact decide_eq_true ha, by rw [jin_nI (by omega)]; exact decide_eq_true hk⟩, toN_nI (by omega), toN_nI (by omega)]
  rfl
theorem sfl_2 (ha : a < (sRecs (tSet T)).length) (h20 : (sRecs (tSet T)).length ≤ 20) (hk : g < 5) (h : wrongA (tBuf T) = some k) : opSetFld (nI a) (nI g) T = (2, nI 0, setErr (setBuf T []) k) := by
  rw [sfl_c ha h20 hk, h]
  rfl
theorem sfl_0 (ha : a < (sRecs (tSet T)).length) (h20 : (sRecs (tSet T)).length ≤ 20) (hk : g < 5) (h : wrongA (tBuf T) = none) : opSetFld (nI a) (nI g) T = (0, nI ((sAt (tSet T) a).2.2 g).length, chg (setBuf T []) (setRec (tSet T) a (setFld (sAt (tSet T) a) g (tBuf T)))) := by
  rw [sfl_c ha h20 hk, h]
end OG
set_option maxHeartbeats 4000000 in
set_option maxRecDepth 100000 in
theorem o_X10_setField {r f : Int32} : ROp jX10_setField 3 [.int r, .int f] (opSetFld r f) := by
  intro R T hi
  obtain ⟨S, P, V, b, e, u⟩ := T
  intro G o M0 hs hBo
  refine jMet_of [some (.ref o), some (.int r), some (.int f), none, none, none, none, none] (by decide) rfl (Nat.le_of_ble_eq_true rfl) rfl hs ?_
  intro C hC9 hG
  have hC := hC9.z
  have hB : jB C ≤ o := by rw [jB, hG]; exact hBo
  have hp : rPre R S := ri_pre hi
  have h20 := rp_n20 hp
  have hP8 : P.length ≤ 8 := ri_pn hi
  have hb120 : b.length ≤ 120 := ri_bn hi
  have hwz := optZ_zB (n := 120) (fun m hm => Nat.lt_of_lt_of_le (wrong_lt (b := b) hm) hb120)
  refine j_aload_n hC dX10_setField_0 rfl (jrf_ref _) ?_
  refine j_aload_n hC dX10_setField_1 rfl (jrf_ref _) ?_
  refine j_iload_n hC dX10_setField_2 rfl ?_
  refine r_ci1 hC kv_X10_102 dX10_setField_3 (m_X10_isRecord hp) hB rfl (by decide) (Nat.le_of_ble_eq_true rfl) ?_
  refine jb_if_eq (tgt := 22) hC dX10_setField_6 (by decide) (fun c1 => ?_) (fun c1 => ?_)
  · refine j_iconst (v := nI 1) hC dX10_setField_22 (by decide) ?_
    refine r_put hC kp_X10_78 dX10_setField_23 hB rfl rfl rF_set_0 ?_
    refine j_aload_n hC dX10_setField_26 rfl (jrf_ref _) ?_
    refine r_getN (x := nI (1)) hC kf_X10_78 dX10_setField_27 rfl (rfl) ?_
    refine n_if_eq (tgt := 35) hC dX10_setField_30 (by decide) (by omega) (fun c2 => ?_) (fun c2 => ?_)
    · exact absurd c2 (by decide)
    · refine j_iconst (v := nI 0) hC dX10_setField_33 (by decide) ?_
      have e9 : opSetFld r f (S, P, V, b, e, u) = (1, nI (0), (S, P, V, b, e, u)) := sfl_1 (fun h => by first | exact absurd h.1 (by assumption) | exact absurd h.2 (by assumption))
      exact j_iret hC9 rfl rfl dX10_setField_34 ⟨(rs R 0 (nI (1))), ro_ans e9 (rfl) (hi), rfl⟩
  · refine j_iload_n hC dX10_setField_9 rfl ?_
    refine j_iconst (v := nI 0) hC dX10_setField_10 (by decide) ?_
    refine j_iconst (v := nI 4) hC dX10_setField_11 (by decide) ?_
    refine s_ci3 hC ks_X10_88 dX10_setField_12 (m_X10_in) rfl (by decide) (Nat.le_of_ble_eq_true rfl) ?_
    refine j_top (jb_in9 (by decide)) ?_
    refine jb_if_eq (tgt := 22) hC dX10_setField_15 (by decide) (fun c3 => ?_) (fun c3 => ?_)
    · refine j_iconst (v := nI 1) hC dX10_setField_22 (by decide) ?_
      refine r_put hC kp_X10_78 dX10_setField_23 hB rfl rfl rF_set_0 ?_
      refine j_aload_n hC dX10_setField_26 rfl (jrf_ref _) ?_
      refine r_getN (x := nI (1)) hC kf_X10_78 dX10_setField_27 rfl (rfl) ?_
      refine n_if_eq (tgt := 35) hC dX10_setField_30 (by decide) (by omega) (fun c4 => ?_) (fun c4 => ?_)
      · exact absurd c4 (by decide)
      · refine j_iconst (v := nI 0) hC dX10_setField_33 (by decide) ?_
        have e9 : opSetFld r f (S, P, V, b, e, u) = (1, nI (0), (S, P, V, b, e, u)) := sfl_1 (fun h => by first | exact absurd h.1 (by assumption) | exact absurd h.2 (by assumption))
        exact j_iret hC9 rfl rfl dX10_setField_34 ⟨(rs R 0 (nI (1))), ro_ans e9 (rfl) (hi), rfl⟩
    · refine j_iconst (v := nI 0) hC dX10_setField_18 (by decide) ?_
      refine j_goto (tgt := 23) hC dX10_setField_19 (by decide) ?_
      refine r_put hC kp_X10_78 dX10_setField_23 hB rfl rfl rF_set_0 ?_
      refine j_aload_n hC dX10_setField_26 rfl (jrf_ref _) ?_
      refine r_getN (x := nI (0)) hC kf_X10_78 dX10_setField_27 rfl (rfl) ?_
      refine n_if_eq (tgt := 35) hC dX10_setField_30 (by decide) (by omega) (fun c5 => ?_) (fun c5 => ?_)
      · obtain ⟨r9, hr9, rfl⟩ := jin_of (by assumption : jin r (sRecs S).length = true) (by omega)
        obtain ⟨f9, hf9, rfl⟩ := jin_of (by assumption : jin f 5 = true) (by decide)
        have hl9 := rp_l12 hp hr9 hf9
        refine j_aload_n hC dX10_setField_35 rfl (jrf_ref _) ?_
        refine r_ci0 hC kv_X10_127 dX10_setField_36 (m_X10_wrongField (b := b) (R := (rs R 0 (nI (0)))) (ri_bn hi) (ri_bl hi) (ri_bc hi) (ri_bo hi)) hB rfl (by decide) (Nat.le_of_ble_eq_true rfl) ?_
        refine j_istore_n3 hC dX10_setField_39 (by decide) rfl ?_
        refine j_aload_n hC dX10_setField_40 rfl (jrf_ref _) ?_
        refine r_getN (x := nI (b.length)) hC kf_X10_96 dX10_setField_41 rfl (ri_bl hi) ?_
        refine j_istore_4 hC dX10_setField_44 (by decide) rfl ?_
        refine j_aload_n hC dX10_setField_46 rfl (jrf_ref _) ?_
        refine j_iconst (v := nI 0) hC dX10_setField_47 (by decide) ?_
        refine r_put hC kp_X10_96 dX10_setField_48 hB rfl rfl rF_set_5 ?_
        refine j_iload_n hC dX10_setField_51 rfl ?_
        refine z_if_lt (a := (optZ (wrongA b))) (tgt := 67) hC dX10_setField_52 (by decide) (by unfold zB; omega) (fun c6 => ?_) (fun c6 => ?_)
        · have hn9 := optZ_none (x := wrongA b) (by omega)
          have hi1 : rInv (rs (rs R 0 (nI (0))) 5 (nI (0))) (S, P, V, [], e, u) := ri_buf hi rfl
          refine j_aload_n hC dX10_setField_67 rfl (jrf_ref _) ?_
          refine r_cv0 hC kv_X10_99 dX10_setField_68 (m_X10_keeps (R := (rs (rs R 0 (nI (0))) 5 (nI (0)))) (n := P.length) hP8 (ri_ch hi)) hB rfl (by decide) (Nat.le_of_ble_eq_true rfl) ?_
          have hi2 := ri_keep (T := (S, P, V, [], e, u)) (R := (rs (rs R 0 (nI (0))) 5 (nI (0)))) hi1
          have hp2 : rPre (keepR (rs (rs R 0 (nI (0))) 5 (nI (0))) P.length) S := ri_pre hi2
          refine j_aload_n hC dX10_setField_71 rfl (jrf_ref _) ?_
          refine j_iload_n hC dX10_setField_72 rfl ?_
          refine j_iload_n hC dX10_setField_73 rfl ?_
          refine r_ci2 hC kv_X10_109 dX10_setField_74 (m_X10_longOf hp2 (by assumption) (by omega)) hB rfl (by decide) (Nat.le_of_ble_eq_true rfl) ?_
          refine j_istore_5 hC dX10_setField_77 (by decide) rfl ?_
          refine j_sipush (v := nI 139) hC dX10_setField_79 (by decide) ?_
          refine j_bipush (v := nI 67) hC dX10_setField_82 (by decide) ?_
          refine j_iload_n hC dX10_setField_84 rfl ?_
          refine n_imul hC dX10_setField_85 ?_
          refine n_iadd hC dX10_setField_86 ?_
          refine j_istore_6 hC dX10_setField_87 (by decide) rfl ?_
          refine j_aload_n hC dX10_setField_89 rfl (jrf_ref _) ?_
          refine r_get hC kf_X10_9 dX10_setField_90 rfl ?_
          refine j_iload hC dX10_setField_93 rfl ?_
          refine j_iconst (v := nI 2) hC dX10_setField_95 (by decide) ?_
          refine n_iadd hC dX10_setField_96 ?_
          refine j_iload_n hC dX10_setField_97 rfl ?_
          refine n_iadd hC dX10_setField_98 ?_
          refine j_iload hC dX10_setField_99 rfl ?_
          refine r_ast (k := 1) (j := (((139) + (67 * r9)) + (2)) + (f9)) hC dX10_setField_101 (c := 1) (n := 14790) (by decide) (fun _ => rfl) (rO_k1) hB rfl (by omega) (by decide) ?_
          refine j_iconst (v := nI 0) hC dX10_setField_102 (by decide) ?_
          refine j_istore_7 hC dX10_setField_103 (by decide) rfl ?_
          suffices K : ∀ (n9 : Nat) (k : Nat), 12 - k < n9 → (k ≤ 12) → J C (rM o M0 (rA (keepR (rs (rs R 0 (nI (0))) 5 (nI (0))) P.length) 1 (fiA ((keepR (rs (rs R 0 (nI (0))) 5 (nI (0))) P.length).2 1) (139 + 67 * r9 + 2 + f9) (139 + 67 * r9 + 7 + 12 * f9) b k))) 0 0 105 [some (.ref o), some (.int (nI (r9))), some (.int (nI (f9))), none, some (.int (nI (b.length))), some (.int (nI (((sAt S r9).2.2 f9).length))), some (.int (nI (139 + 67 * r9))), some (.int (nI (k)))] [] from j_R (by rw [fiA_0]; exact ra_rA) (j_L (jle_s (jle_s (jle_s (jle_n (jle_s (jle_s (jle_s (jle_s (jle_0))))))))) (K _ (0) (Nat.lt_succ_self _) (by omega)))
          intro n9
          induction n9 with
          | zero => intro k hm; omega
          | succ n9 ih =>
            intro k hm hk
            refine j_iload hC dX10_setField_105 rfl ?_
            refine j_bipush (v := nI 12) hC dX10_setField_107 (by decide) ?_
            refine n_icmp_ge (tgt := 154) hC dX10_setField_109 (by decide) (by omega) (by omega) (fun c7 => ?_) (fun c7 => ?_)
            · refine j_iload hC dX10_setField_154 rfl ?_
              have e9 : opSetFld (nI r9) (nI f9) (S, P, V, b, e, u) = (0, nI (((sAt S r9).2.2 f9).length), chg (S, P, V, [], e, u) (setRec S r9 (setFld (sAt S r9) f9 b))) := sfl_0 hr9 h20 hf9 hn9
              exact j_iret hC9 rfl rfl dX10_setField_156 ⟨(rA (keepR (rs (rs R 0 (nI (0))) 5 (nI (0))) P.length) 1 (fiA ((keepR (rs (rs R 0 (nI (0))) 5 (nI (0))) P.length).2 1) (139 + 67 * r9 + 2 + f9) (139 + 67 * r9 + 7 + 12 * f9) b k)), ro_ans e9 (rfl) (by rw [show k = 12 by omega]; exact ri_set hi2 (fun j hj => fiA_out (by omega) (by omega)) (fld_row (ri_ok hi2).1 (ri_row hi2) hr9 hf9 (wrong_ok hn9).1) (setG_rec (ri_ok hi2) (recOK_fld (setG_at (ri_ok hi2) hr9) (wrong_ok hn9).1 (ri_bo hi)))), rfl⟩
            · refine j_aload_n hC dX10_setField_112 rfl (jrf_ref _) ?_
              refine r_get hC kf_X10_9 dX10_setField_113 rfl ?_
              refine j_iload hC dX10_setField_116 rfl ?_
              refine j_bipush (v := nI 7) hC dX10_setField_118 (by decide) ?_
              refine n_iadd hC dX10_setField_120 ?_
              refine j_bipush (v := nI 12) hC dX10_setField_121 (by decide) ?_
              refine j_iload_n hC dX10_setField_123 rfl ?_
              refine n_imul hC dX10_setField_124 ?_
              refine n_iadd hC dX10_setField_125 ?_
              refine j_iload hC dX10_setField_126 rfl ?_
              refine n_iadd hC dX10_setField_128 ?_
              refine j_iload hC dX10_setField_129 rfl ?_
              refine j_iload hC dX10_setField_131 rfl ?_
              suffices K : J C (rM o M0 ((rA (keepR (rs (rs R 0 (nI (0))) 5 (nI (0))) P.length) 1 (fiA ((keepR (rs (rs R 0 (nI (0))) 5 (nI (0))) P.length).2 1) (139 + 67 * r9 + 2 + f9) (139 + 67 * r9 + 7 + 12 * f9) b k)))) 0 0 147 [some (.ref o), some (.int (nI (r9))), some (.int (nI (f9))), none, some (.int (nI (b.length))), some (.int (nI (((sAt S r9).2.2 f9).length))), some (.int (nI (139 + 67 * r9))), some (.int (nI (k)))] [.int (nI (b.getD k 0)), .int (nI ((((139 + 67 * r9) + (7)) + (12 * f9)) + (k))), .ref (o + 1)] by
                refine n_icmp_ge (tgt := 146) hC dX10_setField_133 (by decide) (by omega) (by omega) (fun c8 => ?_) (fun c8 => ?_)
                · refine j_iconst (v := nI 0) hC dX10_setField_146 (by decide) ?_
                  exact j_top (by first | rfl | rw [getD_out (by omega)]) K
                · refine j_aload_n hC dX10_setField_136 rfl (jrf_ref _) ?_
                  refine r_get hC kf_X10_13 dX10_setField_137 rfl ?_
                  refine j_iload hC dX10_setField_140 rfl ?_
                  refine r_aldN (k := 4) (j := k) (x := nI (b.getD (k) 0)) hC dX10_setField_142 (c := 2) (n := 120) (by decide) rfl rfl (by omega) (by decide) (ri_bc hi _ (by omega)) ?_
                  refine j_goto (tgt := 147) hC dX10_setField_143 (by decide) ?_
                  exact j_top (by first | rfl | rw [getD_out (by omega)]) K
              refine r_ast (k := 1) (j := (((139 + 67 * r9) + (7)) + (12 * f9)) + (k)) hC dX10_setField_147 (c := 1) (n := 14790) (by decide) (fun _ => rfl) (rO_k1) hB rfl (by omega) (by decide) ?_
              refine j_iinc_7 (v := nI (k + 1)) hC dX10_setField_148 (nI_add _ _) (by decide) rfl ?_
              refine j_goto (tgt := 105) hC dX10_setField_151 (by decide) ?_
              exact j_R (rA_ra.trans (rA_eq fiA_succ)) (ih (k + 1) (by omega) (by omega))
        · obtain ⟨k9, hk9⟩ := optZ_some (x := wrongA b) (by omega)
          have hi1 : rInv (rs (rs R 0 (nI (0))) 5 (nI (0))) (S, P, V, [], e, u) := ri_buf hi rfl
          refine j_aload_n hC dX10_setField_55 rfl (jrf_ref _) ?_
          refine j_iload_n hC dX10_setField_56 rfl ?_
          refine r_put hC kp_X10_16 dX10_setField_57 hB rfl rfl rF_set_6 ?_
          refine j_aload_n hC dX10_setField_60 rfl (jrf_ref _) ?_
          refine j_iconst (v := nI 2) hC dX10_setField_61 (by decide) ?_
          refine r_put hC kp_X10_78 dX10_setField_62 hB rfl rfl rF_set_0 ?_
          refine j_iconst (v := nI 0) hC dX10_setField_65 (by decide) ?_
          have e9 : opSetFld (nI r9) (nI f9) (S, P, V, b, e, u) = (2, nI (0), setErr (S, P, V, [], e, u) k9) := sfl_2 hr9 h20 hf9 hk9
          exact j_iret hC9 rfl rfl dX10_setField_66 ⟨(rs (rs (rs (rs R 0 (nI (0))) 5 (nI (0))) 6 (zI (optZ (wrongA b)))) 0 (nI (2))), ro_ans e9 (rfl) (ri_thr (ri_err (k := k9) (R := (rs (rs R 0 (nI (0))) 5 (nI (0)))) hi1 (by have := wrong_lt hk9; omega) (optZ_eq hk9))), rfl⟩
      · exact absurd c5 (by decide)
theorem cnt_row {A : Nat → Int32} {S : aSet} {r v : Nat} {c : Bool} (hS : setOK S) (h : rowRep A 0 S) (hr : r < (sRecs S).length) : rowRep (upd A (139 + 67 * r + if c = true then 1 else 0) (nI v)) 0 (setRec S r (if c = true then ((sAt S r).1, v, (sAt S r).2.2) else (v, (sAt S r).2))) := by
  have hq := recRep_at h hr
  have hb : (if c = true then 1 else 0) ≤ 1 := by split <;> omega
  have h12 := fun g hg => ((setOK_rec hS hr).2.2 g hg).1
  refine rowRep_setrec hS h hr (fun j hj => pk_un (by omega)) ?_
  cases c with
  | true => exact ⟨(pk_un (by simp)).trans hq.1, pk_us, fun g hg => ⟨(pk_un (by simp only [if_true]; omega)).trans (hq.2.2 g hg).1, fun i hi => (pk_un (by simp only [if_true]; omega)).trans ((hq.2.2 g hg).2 i hi)⟩⟩
  | false => exact ⟨pk_us, (pk_un (by simp)).trans hq.2.1, fun g hg => ⟨(pk_un (by simp only [Bool.false_eq_true, if_false]; omega)).trans (hq.2.2 g hg).1, fun i hi => (pk_un (by simp only [Bool.false_eq_true, if_false]; omega)).trans ((hq.2.2 g hg).2 i hi)⟩⟩
theorem recOK_num {q : aRec} {v : Nat} {c : Bool} (hq : recOK q) (hv : v < (if c = true then 99 else 9) + 1) : recOK (if c = true then (q.1, v, q.2.2) else (v, q.2)) := by
  cases c with
  | true => exact ⟨hq.1, hv, hq.2.2⟩
  | false => exact ⟨hv, hq.2⟩
section OH
variable {T : aSt} {r v : Int32} {c : Bool} {a k : Nat}
theorem num_if : (if c = true then 100 else 10) = (if c = true then 99 else 9) + 1 := by cases c <;> rfl
theorem num_1 (h : ¬ jin r (sRecs (tSet T)).length = true) : opNumber r c v T = (1, nI 0, T) := if_neg h
theorem num_2 (h : jin r (sRecs (tSet T)).length = true) (h2 : ¬ jin v ((if c = true then 99 else 9) + 1) = true) : opNumber r c v T = (2, nI 0, T) := (if_pos h).trans (if_neg (by rw [num_if]; exact h2))
theorem num_0 (ha : a < (sRecs (tSet T)).length) (h20 : (sRecs (tSet T)).length ≤ 20) (hv : k < (if c = true then 99 else 9) + 1) : opNumber (nI a) c (nI k) T = (0, nI (if c = true then (sAt (tSet T) a).2.1 else (sAt (tSet T) a).1), chg T (setRec (tSet T) a (if c = true then ((sAt (tSet T) a).1, k, (sAt (tSet T) a).2.2) else (k, (sAt (tSet T) a).2)))) := by
  have h99 : (if c = true then 99 else 9) ≤ 99 := by split <;> omega
  rw [opNumber, if_pos (by rw [jin_nI (by omega)]; exact decide_eq_true ha), if_pos (by rw [num_if, jin_nI (by omega)]; exact decide_eq_true hv), toN_nI (by omega), toN_nI (by omega)]
theorem num_at {R : rR} {S : aSet} {r : Nat} (hp : rPre R S) (hr : r < (sRecs S).length) : R.2 1 (139 + 67 * r + if c = true then 1 else 0) = nI (if c = true then (sAt S r).2.1 else (sAt S r).1) := by
  cases c with
  | true => exact rp_count hp hr
  | false => exact rp_group hp hr
end OH
set_option maxHeartbeats 4000000 in
set_option maxRecDepth 100000 in
theorem o_X10_setNumber {r v : Int32} {c : Bool} : ROp jX10_setNumber 2 [.int r, .int (jb (c = true)), .int v] (opNumber r c v) := by
  intro R T hi
  obtain ⟨S, P, V, b, e, u⟩ := T
  intro G o M0 hs hBo
  refine jMet_of [some (.ref o), some (.int r), some (.int (jb (c = true))), some (.int v), none, none] (by decide) rfl (Nat.le_of_ble_eq_true rfl) rfl hs ?_
  intro C hC9 hG
  have hC := hC9.z
  have hB : jB C ≤ o := by rw [jB, hG]; exact hBo
  have hp : rPre R S := ri_pre hi
  have h20 := rp_n20 hp
  have hP8 : P.length ≤ 8 := ri_pn hi
  have hb120 : b.length ≤ 120 := ri_bn hi
  have h1c : (if c = true then 1 else 0) ≤ 1 := by split <;> omega
  have h99 : (if c = true then 99 else 9) ≤ 99 := by split <;> omega
  refine j_aload_n hC dX10_setNumber_0 rfl (jrf_ref _) ?_
  refine j_aload_n hC dX10_setNumber_1 rfl (jrf_ref _) ?_
  refine j_iload_n hC dX10_setNumber_2 rfl ?_
  refine r_ci1 hC kv_X10_102 dX10_setNumber_3 (m_X10_isRecord hp) hB rfl (by decide) (Nat.le_of_ble_eq_true rfl) ?_
  refine jb_if_ne (tgt := 13) hC dX10_setNumber_6 (by decide) (fun c1 => ?_) (fun c1 => ?_)
  · refine j_iload_n hC dX10_setNumber_13 rfl ?_
    refine j_iconst (v := nI 0) hC dX10_setNumber_14 (by decide) ?_
    refine j_iload_n hC dX10_setNumber_15 rfl ?_
    suffices K : J C (rM o M0 (R)) 0 0 26 [some (.ref o), some (.int (r)), some (.int (jb (c = true))), some (.int (v)), none, none] [.int (nI (if c = true then 99 else 9)), .int (nI (0)), .int (v), .ref o] by
      refine jb_if_eq (tgt := 24) hC dX10_setNumber_16 (by decide) (fun c2 => ?_) (fun c2 => ?_)
      · refine j_bipush (v := nI 9) hC dX10_setNumber_24 (by decide) ?_
        exact j_top (by first | rw [if_pos (by assumption)] | rw [if_neg (by assumption)]) K
      · refine j_bipush (v := nI 99) hC dX10_setNumber_19 (by decide) ?_
        refine j_goto (tgt := 26) hC dX10_setNumber_21 (by decide) ?_
        exact j_top (by first | rw [if_pos (by assumption)] | rw [if_neg (by assumption)]) K
    refine s_ci3 hC ks_X10_88 dX10_setNumber_26 (m_X10_in) rfl (by decide) (Nat.le_of_ble_eq_true rfl) ?_
    refine j_top (jb_in9 (by split <;> decide)) ?_
    refine jb_if_eq (tgt := 36) hC dX10_setNumber_29 (by decide) (fun c3 => ?_) (fun c3 => ?_)
    · refine j_iconst (v := nI 2) hC dX10_setNumber_36 (by decide) ?_
      refine r_put hC kp_X10_78 dX10_setNumber_37 hB rfl rfl rF_set_0 ?_
      refine j_aload_n hC dX10_setNumber_40 rfl (jrf_ref _) ?_
      refine r_getN (x := nI (2)) hC kf_X10_78 dX10_setNumber_41 rfl (rfl) ?_
      refine n_if_eq (tgt := 49) hC dX10_setNumber_44 (by decide) (by omega) (fun c4 => ?_) (fun c4 => ?_)
      · exact absurd c4 (by decide)
      · refine j_iconst (v := nI 0) hC dX10_setNumber_47 (by decide) ?_
        have e9 : opNumber r c v (S, P, V, b, e, u) = (2, nI (0), (S, P, V, b, e, u)) := num_2 (by assumption) (by assumption)
        exact j_iret hC9 rfl rfl dX10_setNumber_48 ⟨(rs R 0 (nI (2))), ro_ans e9 (rfl) (hi), rfl⟩
    · refine j_iconst (v := nI 0) hC dX10_setNumber_32 (by decide) ?_
      refine j_goto (tgt := 37) hC dX10_setNumber_33 (by decide) ?_
      refine r_put hC kp_X10_78 dX10_setNumber_37 hB rfl rfl rF_set_0 ?_
      refine j_aload_n hC dX10_setNumber_40 rfl (jrf_ref _) ?_
      refine r_getN (x := nI (0)) hC kf_X10_78 dX10_setNumber_41 rfl (rfl) ?_
      refine n_if_eq (tgt := 49) hC dX10_setNumber_44 (by decide) (by omega) (fun c5 => ?_) (fun c5 => ?_)
      · obtain ⟨r9, hr9, rfl⟩ := jin_of (by assumption : jin r (sRecs S).length = true) (by omega)
        obtain ⟨v9, hv9, rfl⟩ := jin_of (by assumption : jin v ((if c = true then 99 else 9) + 1) = true) (by omega)
        refine j_aload_n hC dX10_setNumber_49 rfl (jrf_ref _) ?_
        refine r_cv0 hC kv_X10_99 dX10_setNumber_50 (m_X10_keeps (R := (rs R 0 (nI (0)))) (n := P.length) hP8 (ri_ch hi)) hB rfl (by decide) (Nat.le_of_ble_eq_true rfl) ?_
        have hi2 := ri_keep (T := (S, P, V, b, e, u)) (R := (rs R 0 (nI (0)))) hi
        have hp2 : rPre (keepR (rs R 0 (nI (0))) P.length) S := ri_pre hi2
        refine j_sipush (v := nI 139) hC dX10_setNumber_53 (by decide) ?_
        refine j_bipush (v := nI 67) hC dX10_setNumber_56 (by decide) ?_
        refine j_iload_n hC dX10_setNumber_58 rfl ?_
        refine n_imul hC dX10_setNumber_59 ?_
        refine n_iadd hC dX10_setNumber_60 ?_
        refine j_iload_n hC dX10_setNumber_61 rfl ?_
        suffices K : J C (rM o M0 ((keepR (rs R 0 (nI (0))) P.length))) 0 0 70 [some (.ref o), some (.int (nI (r9))), some (.int (jb (c = true))), some (.int (nI (v9))), none, none] [.int (nI (if c = true then 1 else 0)), .int (nI ((139) + (67 * r9)))] by
          refine jb_if_eq (tgt := 69) hC dX10_setNumber_62 (by decide) (fun c6 => ?_) (fun c6 => ?_)
          · refine j_iconst (v := nI 0) hC dX10_setNumber_69 (by decide) ?_
            exact j_top (by first | rw [if_pos (by assumption)] | rw [if_neg (by assumption)]) K
          · refine j_iconst (v := nI 1) hC dX10_setNumber_65 (by decide) ?_
            refine j_goto (tgt := 70) hC dX10_setNumber_66 (by decide) ?_
            exact j_top (by first | rw [if_pos (by assumption)] | rw [if_neg (by assumption)]) K
        refine n_iadd hC dX10_setNumber_70 ?_
        refine j_istore_4 hC dX10_setNumber_71 (by decide) rfl ?_
        refine j_aload_n hC dX10_setNumber_73 rfl (jrf_ref _) ?_
        refine r_get hC kf_X10_9 dX10_setNumber_74 rfl ?_
        refine j_iload hC dX10_setNumber_77 rfl ?_
        refine r_aldN (k := 1) (j := ((139) + (67 * r9)) + (if c = true then 1 else 0)) (x := nI (if c = true then (sAt S r9).2.1 else (sAt S r9).1)) hC dX10_setNumber_79 (c := 1) (n := 14790) (by decide) rfl rfl (by omega) (by decide) (num_at hp2 hr9) ?_
        refine j_istore_5 hC dX10_setNumber_80 (by decide) rfl ?_
        refine j_aload_n hC dX10_setNumber_82 rfl (jrf_ref _) ?_
        refine r_get hC kf_X10_9 dX10_setNumber_83 rfl ?_
        refine j_iload hC dX10_setNumber_86 rfl ?_
        refine j_iload_n hC dX10_setNumber_88 rfl ?_
        refine r_ast (k := 1) (j := ((139) + (67 * r9)) + (if c = true then 1 else 0)) hC dX10_setNumber_89 (c := 1) (n := 14790) (by decide) (fun _ => rfl) (rO_k1) hB rfl (by omega) (by decide) ?_
        refine j_iload hC dX10_setNumber_90 rfl ?_
        have e9 : opNumber (nI r9) c (nI v9) (S, P, V, b, e, u) = (0, nI (if c = true then (sAt S r9).2.1 else (sAt S r9).1), chg (S, P, V, b, e, u) (setRec S r9 (if c = true then ((sAt S r9).1, v9, (sAt S r9).2.2) else (v9, (sAt S r9).2)))) := num_0 hr9 h20 hv9
        exact j_iret hC9 rfl rfl dX10_setNumber_92 ⟨(ra (keepR (rs R 0 (nI (0))) P.length) 1 (((139) + (67 * r9)) + (if c = true then 1 else 0)) (nI (v9))), ro_ans e9 (rfl) (by rw [ra_rA]; exact ri_set hi2 (fun j hj => pk_un (by omega)) (cnt_row (ri_ok hi2).1 (ri_row hi2) hr9) (setG_rec (ri_ok hi2) (recOK_num (setG_at (ri_ok hi2) hr9) hv9))), rfl⟩
      · exact absurd c5 (by decide)
  · refine j_iconst (v := nI 1) hC dX10_setNumber_9 (by decide) ?_
    refine j_goto (tgt := 37) hC dX10_setNumber_10 (by decide) ?_
    refine r_put hC kp_X10_78 dX10_setNumber_37 hB rfl rfl rF_set_0 ?_
    refine j_aload_n hC dX10_setNumber_40 rfl (jrf_ref _) ?_
    refine r_getN (x := nI (1)) hC kf_X10_78 dX10_setNumber_41 rfl (rfl) ?_
    refine n_if_eq (tgt := 49) hC dX10_setNumber_44 (by decide) (by omega) (fun c7 => ?_) (fun c7 => ?_)
    · exact absurd c7 (by decide)
    · refine j_iconst (v := nI 0) hC dX10_setNumber_47 (by decide) ?_
      have e9 : opNumber r c v (S, P, V, b, e, u) = (1, nI (0), (S, P, V, b, e, u)) := num_1 (by assumption)
      exact j_iret hC9 rfl rfl dX10_setNumber_48 ⟨(rs R 0 (nI (1))), ro_ans e9 (rfl) (hi), rfl⟩
