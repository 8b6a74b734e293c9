/-! ===== a letter is made ===== -/
section WR
variable {S : aSet} {q : aRec} {L l t : List Nat} {its : List pIt} {cos : List pCo} {i fu lim a n : Nat} {y : Nat × List Nat × Nat}
theorem puts_fit : ∀ {t l : List Nat} , l.length + t.length ≤ lim → putsS lim (l, false) t = (l ++ t, false)
  | [], l, _ => by rw [List.append_nil]; rfl
  | c :: t, l, h => by
    have h2 : l.length + (t.length + 1) ≤ lim := h
    rw [show putsS lim (l, false) (c :: t) = putsS lim (putS lim (l, false) c) t from rfl, putS_t (show l.length < lim by omega), puts_fit (l := l ++ [c]) (by rw [List.length_append]; show l.length + 1 + t.length ≤ lim; omega), List.append_assoc]
    rfl
theorem puts_b : ∀ {t : List Nat} {X : List Nat × Bool}, X.2 = true → (putsS lim X t).2 = true
  | [], X, h => h
  | c :: t, X, h => by
    rw [show putsS lim X (c :: t) = putsS lim (putS lim X c) t from rfl]
    refine puts_b ?_
    unfold putS
    split
    · exact h
    · rfl
theorem puts_over : ∀ {t l : List Nat}, ¬ l.length + t.length ≤ lim → l.length ≤ lim → (putsS lim (l, false) t).2 = true
  | [], l, h, h2 => absurd h2 h
  | c :: t, l, h, h2 => by
    have h3 : ¬ l.length + (t.length + 1) ≤ lim := h
    rw [show putsS lim (l, false) (c :: t) = putsS lim (putS lim (l, false) c) t from rfl]
    by_cases e : l.length < lim
    · rw [putS_t e]
      exact puts_over (l := l ++ [c]) (by rw [List.length_append]; show ¬ l.length + 1 + t.length ≤ lim; omega) (by rw [List.length_append]; exact e)
    · rw [putS_f e]
      exact puts_b rfl
theorem lMet_app {c1 c2 : List pCo} : lMet q (c1 ++ c2) = (lMet q c1 && lMet q c2) := by unfold lMet; exact List.all_append
theorem lMet_rev : ∀ {c : List pCo}, lMet q c.reverse = lMet q c
  | [] => rfl
  | x :: c => by
    rw [List.reverse_cons, lMet_app, lMet_rev, lMet_c, Bool.and_comm]
    show (lMet q [x] && _) = _
    rw [show lMet q [x] = cndA q x from by rw [lMet_c]; exact Bool.and_true _, lMet_c]
theorem lMet_take : ∀ n, a + n ≤ cos.length → lMet q ((cos.drop a).take n) = cAll q cos a n
  | 0, _ => by rw [List.take_zero]; rfl
  | n + 1, h => by
    have hl : n < (cos.drop a).length := by rw [List.length_drop]; omega
    rw [List.take_succ, List.getElem?_eq_getElem hl, lMet_app, lMet_take n (by omega), cAll]
    congr 1
    show lMet q [(cos.drop a)[n]] = _
    rw [show lMet q [(cos.drop a)[n]] = cndA q (cos.drop a)[n] from by rw [lMet_c]; exact Bool.and_true _]
    congr 1
    rw [pAtC, List.getD_eq_getElem?_getD, List.getElem?_eq_getElem (show a + n < cos.length by omega), List.getElem_drop]
    rfl
abbrev coL (cos : List pCo) (x : pIt) : List pCo := if iKind x = 5 then ((cos.drop (iOne x)).take (iTwo x - iOne x)).reverse else []
theorem met_5 {x : pIt} (h : iKind x = 5) (h2 : iOne x ≤ iTwo x ∧ iTwo x ≤ cos.length) : lMet q (coL cos x) = cMet q cos x := by
  rw [coL, if_pos h, lMet_rev, lMet_take _ (by omega)]
  rfl
theorem met_n {x : pIt} (h : ¬ iKind x = 5) : lMet q (coL cos x) = true := by
  rw [coL, if_neg h]
  rfl
theorem wr_not (hi : i < its.length) (hfu : 0 < fu) (hm : mkA S q L its cos fu i l = y) (hmet : ¬ lMet q (coL cos (pAtI its i)) = true) (hb : iKind (pAtI its i) = 5 → iOne (pAtI its i) ≤ iTwo (pAtI its i) ∧ iTwo (pAtI its i) ≤ cos.length) : iKind (pAtI its i) = 5 ∧ mkA S q L its cos (fu - 1) (iTill (pAtI its i)) l = y := by
  by_cases h5 : iKind (pAtI its i) = 5
  · rw [met_5 h5 (hb h5)] at hmet
    exact ⟨h5, by rw [← hm]; exact (mk_br hfu hi h5 (if_neg hmet)).symm⟩
  · exact absurd (met_n h5) hmet
theorem wr_step (hi : i < its.length) (hfu : 0 < fu) (hm : mkA S q L its cos fu i l = y) (hmet : lMet q (coL cos (pAtI its i)) = true) (hb : iKind (pAtI its i) = 5 → iOne (pAtI its i) ≤ iTwo (pAtI its i) ∧ iTwo (pAtI its i) ≤ cos.length) (hl : l.length ≤ sLim S) :
    (∃ l', gvX (sLim S) (l, false) (itO S q L (pAtI its i)) = (l', false) ∧ gvr 0 (itO S q L (pAtI its i)) = 0 ∧ mkA S q L its cos (fu - 1) (i + 1) l' = y) ∨ (gvX (sLim S) (l, false) (itO S q L (pAtI its i)) = (l, false) ∧ gvr 0 (itO S q L (pAtI its i)) = 3 ∧ y = (3, l, i)) ∨ ((gvX (sLim S) (l, false) (itO S q L (pAtI its i))).2 = true ∧ gvr 0 (itO S q L (pAtI its i)) = 0 ∧ y.1 = 4 ∧ y.2.2 = i) := by
  by_cases h5 : iKind (pAtI its i) = 5
  · rw [met_5 h5 (hb h5)] at hmet
    exact Or.inl ⟨l, by rw [it_5 h5]; rfl, by rw [it_5 h5]; rfl, by rw [← hm]; exact (mk_br hfu hi h5 (if_pos hmet)).symm⟩
  · have ho : itO S q L (pAtI its i) = gvT S q L (pAtI its i) := if_neg h5
    rw [ho]
    cases e : gvT S q L (pAtI its i) with
    | none =>
      have hg := gv_3 (S := S) (l := l) e
      refine Or.inr (Or.inl ⟨rfl, rfl, ?_⟩)
      rw [← hm, mk_bad hfu hi h5 (by rw [hg]; exact (show ¬ (3 : Nat) = 0 by decide)), hg]
    | some t =>
      by_cases hf : l.length + t.length ≤ sLim S
      · have hg := gv_0 (S := S) (l := l) e hf
        refine Or.inl ⟨l ++ t, puts_fit hf, rfl, ?_⟩
        rw [← hm, mk_ok hfu hi h5 (by rw [hg]), hg]
      · have hg := gv_4 (S := S) (l := l) e hf
        refine Or.inr (Or.inr ⟨puts_over hf hl, rfl, ?_⟩)
        rw [← hm, mk_bad hfu hi h5 (by rw [hg]; exact (show ¬ (4 : Nat) = 0 by decide)), hg]
        exact ⟨rfl, rfl⟩
end WR
theorem shS_l {M : jM} {a k r lim lim' : Nat} {ch : Nat → Int32} (h : shS M.1 a ([], false) k r lim ch) : shS (jput M a (.inr (10, shF a ([], false) k r lim'))).1 a ([], false) k r lim' ch := ⟨jput_at, h.2.1.elim (fun g e => ⟨g, (jput_ne (show a + 1 ≠ a by omega)).trans e.1, e.2⟩), (jput_ne (show a + 2 ≠ a by omega)).trans h.2.2.1, Nat.zero_le _⟩
/-- a sheet after a run: why there is no letter, the letter, the chain -/
def shR (H : jH) (a : Nat) (x : Nat × List Nat × List Nat) : Prop := ∃ (X : List Nat × Bool) (k lim : Nat) (ch : Nat → Int32), shS H a X k x.1 lim ch ∧ (x.1 = 0 → X.1 = x.2.1) ∧ (3 ≤ x.1 → k = x.2.2.length ∧ ∀ m, m < x.2.2.length → ch m = nI (x.2.2.getD m 0))
set_option maxHeartbeats 4000000 in
set_option maxRecDepth 100000 in
theorem m_X6_write {G : jG} {M : jM} {a k r lim : Nat} {X : List Nat × Bool} {ch : Nat → Int32} {s e : Nat} {S : aSet} {q : aRec} {Z : jH} (hs : (gL G).stackTraces = false) (h : shS M.1 a X k r lim ch) (hS : suR M.1 Z s S) (he : entR Z e q) (hz : sub Z M.1) (hz3 : zn3 Z a) (hsa : s ≠ a ∧ s ≠ a + 1 ∧ s ≠ a + 2 ∧ s + 1 ≠ a ∧ s + 1 ≠ a + 1 ∧ s + 1 ≠ a + 2) (hBa : gB G ≤ a) : JMet G jX6_write [.ref a, .ref s, .ref e] (M) 0 0 8 (fun v M' => v = none ∧ ∃ (X' : List Nat × Bool) (k' lim' : Nat) (ch' : Nat → Int32), shS M'.1 a X' k' (ltrQ S q).1 lim' ch' ∧ lim' ≤ 200 ∧ ((ltrQ S q).1 = 0 → X'.1 = (ltrQ S q).2.1) ∧ (3 ≤ (ltrQ S q).1 → k' = (chnA (pIts (pEnd (sTmpl S))) (ltrQ S q).2.2).length ∧ ∀ m, m < (chnA (pIts (pEnd (sTmpl S))) (ltrQ S q).2.2).length → ch' m = nI ((chnA (pIts (pEnd (sTmpl S))) (ltrQ S q).2.2).getD m 0)) ∧ on3 M M' a) jNo := by
  refine jMet_of [some (.ref (a)), some (.ref (s)), some (.ref (e)), none, none, none, none] (by decide) rfl (Nat.le_of_ble_eq_true rfl) (rfl) hs ?_
  intro C hC9 hG
  have hC := hC9.z
  have hs9 := jOK0_tr hC
  refine j_lt (fun hlt => ?_)
  have hBg : jB C = gB G := by rw [jB, hG]
  subst hG
  obtain ⟨⟨lay, home, ff, xe, u1, u2, u5, u3, u6, u7⟩, u4⟩ := id hS
  obtain ⟨⟨lb, lf, l1, l2, l3⟩, hL120, hL126, hok⟩ := id u6
  have hwf := wf_end hok
  have hle := its_le hok
  have hop := op_end hL120 hok
  have hlim : sLim S ≤ 200 := u4.1.2.2.2.2.1.2
  refine j_aload_n hC dX6_write_0 rfl (jrf_ref _) ?_
  refine j_iconst (v := nI 0) hC dX6_write_1 (by decide) ?_
  refine c_Pv (kc := 0) (ks := 0) hC kv_X6_36 dX6_write_2 (m_X6_leaveBlank (r9 := 0) hs9 h hBa) (h.1) rfl rfl rfl rfl (by decide) (Nat.le_of_ble_eq_true rfl) ?_
  intro v9 M1 h9
  obtain ⟨rfl, eM1, fM1⟩ := h9
  obtain ⟨gM1, rM1, -⟩ := id eM1.2.1
  refine j_aload_n hC dX6_write_5 rfl (jrf_ref _) ?_
  refine j_aload_n hC dX6_write_6 rfl (jrf_ref _) ?_
  refine j_get (v := .int (nI (sLim S))) hC kf_X6_40 dX6_write_7 ((fM1 _ (by omega) (by omega) (by omega)).trans (u1)) (rfl) ?_
  refine j_aload_n hC dX6_write_10 rfl (jrf_ref _) ?_
  refine j_get (v := .ref (a + 1)) hC kf_X6_9 dX6_write_11 (eM1.1) (rfl) ?_
  refine c_alen hC dX6_write_14 (rM1) ?_
  refine c_min (a := sLim S) (b := 200) hC ks_X6_43 dX6_write_15 (by omega) (by omega) (by decide) (Nat.le_of_ble_eq_true rfl) ?_
  rw [show min (sLim S) 200 = sLim S by omega]
  refine c_put (fs' := [.ref (a + 1), .ref (a + 2), .int (nI (([], false)).1.length), .int (nI (0)), .int (nI (0)), .int (nI (sLim S)), .int (jb ((([], false)).2 = true))]) hC kp_X6_29 dX6_write_18 (eM1.1) (by omega) (rfl) (rfl) rfl ?_
  have h9 : shS (jput (M1) (a) (.inr (10, [.ref (a + 1), .ref (a + 2), .int (nI (([], false)).1.length), .int (nI (0)), .int (nI (0)), .int (nI (sLim S)), .int (jb ((([], false)).2 = true))]))).1 a ([], false) 0 0 (sLim S) ch := shS_l eM1
  refine j_aload_n hC dX6_write_21 rfl (jrf_ref _) ?_
  refine j_get (v := .ref (lay)) hC kf_X6_49 dX6_write_22 ((jput_ne (by show (s) ≠ (a); omega)).trans ((fM1 _ (by omega) (by omega) (by omega)).trans (u1))) (rfl) ?_
  refine j_astore_n3 hC dX6_write_25 (jrf_ref _) (by decide) rfl ?_
  refine j_iconst (v := nI 0) hC dX6_write_26 (by decide) ?_
  refine j_istore_4 hC dX6_write_27 (by decide) rfl ?_
  refine j_iconst (v := nI 0) hC dX6_write_29 (by decide) ?_
  refine j_istore_5 hC dX6_write_30 (by decide) rfl ?_
  suffices K : ∀ (n9 : Nat) (Mr : jM) (i : Nat) (fw : Nat) (l : List Nat) (fu : Nat) (ch9 : Nat → Int32), (pIts (pEnd (sTmpl S))).length - i < n9 → (mkA S q (sTmpl S) (pIts (pEnd (sTmpl S))) (pCos (pEnd (sTmpl S))) fu (max i fw) l = ltrQ S q) → ((pIts (pEnd (sTmpl S))).length < fu + max i fw) → (i ≤ (pIts (pEnd (sTmpl S))).length ∧ fw ≤ (pIts (pEnd (sTmpl S))).length) → (shS Mr.1 a (l, false) 0 0 (sLim S) ch9) → (on3 M Mr a) → (sub Z Mr.1) → J C (Mr) 0 0 32 [some (.ref (a)), some (.ref (s)), some (.ref (e)), some (.ref (lay)), some (.int (nI (fw))), some (.int (nI (i))), none] [] from (K _ (jput (M1) (a) (.inr (10, [.ref (a + 1), .ref (a + 2), .int (nI (([], false)).1.length), .int (nI (0)), .int (nI (0)), .int (nI (sLim S)), .int (jb ((([], false)).2 = true))]))) (0) (0) ([]) (121) (ch) (Nat.lt_succ_self _) (by rw [Nat.max_self]; exact ltrQ_eq) (by omega) (by omega) (h9) (((on3_refl.trans fM1).trans on3_put)) ((on3_put.sub (fM1.sub hz hz3) hz3)))
  intro n9
  induction n9 with
  | zero => intro Mr i fw l fu ch9 hm; omega
  | succ n9 ih =>
    intro Mr i fw l fu ch9 hm hm9 hfu hif hsh hfr hzr
    refine j_iload hC dX6_write_32 rfl ?_
    refine j_aload_n hC dX6_write_34 rfl (jrf_ref _) ?_
    refine j_get (v := .int (nI ((pIts (pEnd (sTmpl S))).length))) hC kf_X6_53 dX6_write_35 (hzr _ _ l1) (rfl) ?_
    refine n_icmp_ge (tgt := 130) hC dX6_write_38 (by decide) (by omega) (by omega) (fun c2 => ?_) (fun c2 => ?_)
    · have hq := hm9.symm.trans (mk_end (show (pIts (pEnd (sTmpl S))).length ≤ max i fw by omega))
      exact j_vret hC9 rfl dX6_write_130 (⟨rfl, _, _, _, _, (by rw [hq]; exact hsh), hlim, fun _ => by rw [hq], fun e => absurd (show 3 ≤ (0 : Nat) by rw [hq] at e; exact e) (by decide), hfr⟩)
    · refine j_aload_n hC dX6_write_41 rfl (jrf_ref _) ?_
      refine j_get (v := .int (nI (0))) hC kf_X6_26 dX6_write_42 (hsh.1) (rfl) ?_
      refine n_if_ne (tgt := 130) hC dX6_write_45 (by decide) (by omega) (fun c3 => ?_) (fun c3 => ?_)
      · exact absurd c3 (by decide)
      · obtain ⟨pj, l5, l6⟩ := l3 i (by omega)
        obtain ⟨z1, z2, z3, w1, w2, w3, w4⟩ := id l6
        have hwy := hwf.1 i (by omega)
        have hb5 := hwy.2.2.2.2.2.1
        have hx0 : iKind (pAtI (pIts (pEnd (sTmpl S))) i) = 0 → iOne (pAtI (pIts (pEnd (sTmpl S))) i) ≤ 126 := fun e => by rw [hwy.2.2.1 e]; exact getD_le126 (fun c hc => (hL126 c hc).2)
        have hll := hsh.2.2.2
        refine j_aload_n hC dX6_write_48 rfl (jrf_ref _) ?_
        refine j_iload hC dX6_write_49 rfl ?_
        refine c_V hC kv_X6_58 dX6_write_51 (m_X2_pieceAt (i := i) (p := pj) hs9 (hzr _ _ l1) (hzr _ _ l2) (by omega) hle (by omega) l5) (hzr _ _ l1) rfl rfl rfl rfl (by decide) (Nat.le_of_ble_eq_true rfl) ?_
        refine j_astore_6 hC dX6_write_54 (jrf_ref _) (by decide) rfl ?_
        refine j_iload hC dX6_write_56 rfl ?_
        refine j_iload hC dX6_write_58 rfl ?_
        refine n_icmp_lt (tgt := 124) hC dX6_write_60 (by decide) (by omega) (by omega) (fun c4 => ?_) (fun c4 => ?_)
        · refine j_iinc_5 (v := nI (i + 1)) hC dX6_write_124 (nI_add _ _) (by decide) rfl ?_
          refine j_goto (tgt := 32) hC dX6_write_127 (by decide) ?_
          have hmb : mkA S q (sTmpl S) (pIts (pEnd (sTmpl S))) (pCos (pEnd (sTmpl S))) fu (max (i + 1) fw) l = ltrQ S q := by rw [show max (i + 1) fw = max i fw by omega]; exact hm9
          exact j_L (jle_s (jle_s (jle_s (jle_s (jle_s (jle_s (jle_n (jle_0)))))))) (ih (Mr) (i + 1) (fw) (l) (fu) (ch9) (by omega) (hmb) (by omega) (by omega) (hsh) (hfr) (hzr))
        · have hmi : mkA S q (sTmpl S) (pIts (pEnd (sTmpl S))) (pCos (pEnd (sTmpl S))) fu i l = ltrQ S q := by rw [show max i fw = i by omega] at hm9; exact hm9
          refine j_aload hC dX6_write_63 rfl (jrf_ref _) ?_
          refine j_ifnonnull (tgt := 71) hC dX6_write_65 (by decide) ?_
          refine j_aload hC dX6_write_71 rfl (jrf_ref _) ?_
          refine j_aload_n hC dX6_write_73 rfl (jrf_ref _) ?_
          refine c_V hC kv_X6_62 dX6_write_74 (m_X4_isMetBy hs9 (hzr _ _ w1) rfl (w4.mono hzr) (he.mono hzr)) (hzr _ _ w1) rfl rfl rfl rfl (by decide) (Nat.le_of_ble_eq_true rfl) ?_
          refine jb_if_ne (tgt := 90) hC dX6_write_77 (by decide) (fun c5 => ?_) (fun c5 => ?_)
          · refine j_aload_n hC dX6_write_90 rfl (jrf_ref _) ?_
            refine j_aload_n hC dX6_write_91 rfl (jrf_ref _) ?_
            refine j_aload_n hC dX6_write_92 rfl (jrf_ref _) ?_
            refine j_aload hC dX6_write_93 rfl (jrf_ref _) ?_
            refine c_Pv (kc := 0) (ks := 0) hC kv_X6_71 dX6_write_95 (m_X6_writePiece hs9 hsh (hS.at (hfr _ (by omega) (by omega) (by omega)) (hfr _ (by omega) (by omega) (by omega))) he l6 hzr hz3 hwy.1 hx0 hwy.2.2.2.1 hlim hBa) (hsh.1) rfl rfl rfl rfl (by decide) (Nat.le_of_ble_eq_true rfl) ?_
            intro v9 Mw h9
            obtain ⟨rfl, eMw, fMw⟩ := h9
            rcases wr_step (by omega) (show 0 < fu by omega) hmi (by assumption) hb5 hll with ⟨l1, hX, hr, hm1⟩ | ⟨hX, hr, hq⟩ | ⟨hX, hr, hq1, hq2⟩
            · rw [hX, hr] at eMw
              refine j_aload_n hC dX6_write_98 rfl (jrf_ref _) ?_
              refine j_get (v := .int (nI (0))) hC kf_X6_32 dX6_write_99 (eMw.1) (rfl) ?_
              refine n_if_eq (tgt := 110) hC dX6_write_102 (by decide) (by omega) (fun c6 => ?_) (fun c6 => ?_)
              · refine j_aload_n hC dX6_write_110 rfl (jrf_ref _) ?_
                refine j_get (v := .int (nI (0))) hC kf_X6_26 dX6_write_111 (eMw.1) (rfl) ?_
                refine n_if_eq (tgt := 124) hC dX6_write_114 (by decide) (by omega) (fun c7 => ?_) (fun c7 => ?_)
                · refine j_iinc_5 (v := nI (i + 1)) hC dX6_write_124 (nI_add _ _) (by decide) rfl ?_
                  refine j_goto (tgt := 32) hC dX6_write_127 (by decide) ?_
                  have hmb : mkA S q (sTmpl S) (pIts (pEnd (sTmpl S))) (pCos (pEnd (sTmpl S))) (fu - 1) (max (i + 1) fw) l1 = ltrQ S q := by rw [show max (i + 1) fw = i + 1 by omega]; exact hm1
                  exact j_L (jle_s (jle_s (jle_s (jle_s (jle_s (jle_s (jle_n (jle_0)))))))) (ih (Mw) (i + 1) (fw) (l1) (fu - 1) (ch9) (by omega) (hmb) (by omega) (by omega) (eMw) ((hfr.trans fMw)) ((fMw.sub hzr hz3)))
                · exact absurd c7 (by decide)
              · exact absurd c6 (by decide)
            · rw [hX, hr] at eMw
              refine j_aload_n hC dX6_write_98 rfl (jrf_ref _) ?_
              refine j_get (v := .int (nI (0))) hC kf_X6_32 dX6_write_99 (eMw.1) (rfl) ?_
              refine n_if_eq (tgt := 110) hC dX6_write_102 (by decide) (by omega) (fun c8 => ?_) (fun c8 => ?_)
              · refine j_aload_n hC dX6_write_110 rfl (jrf_ref _) ?_
                refine j_get (v := .int (nI (3))) hC kf_X6_26 dX6_write_111 (eMw.1) (rfl) ?_
                refine n_if_eq (tgt := 124) hC dX6_write_114 (by decide) (by omega) (fun c9 => ?_) (fun c9 => ?_)
                · exact absurd c9 (by decide)
                · refine j_aload_n hC dX6_write_117 rfl (jrf_ref _) ?_
                  refine j_aload_n hC dX6_write_118 rfl (jrf_ref _) ?_
                  refine j_aload hC dX6_write_119 rfl (jrf_ref _) ?_
                  refine c_Pv (kc := 0) (ks := 0) hC kv_X6_75 dX6_write_121 (m_X6_explain hs9 eMw u6 l6 (by omega) (fMw.sub hzr hz3) hz3 hlim hBa) (eMw.1) rfl rfl rfl rfl (by decide) (Nat.le_of_ble_eq_true rfl) ?_
                  intro v9 Mx h9
                  obtain ⟨rfl, ch1, eMx, gMx, fMx⟩ := h9
                  refine j_iinc_5 (v := nI (i + 1)) hC dX6_write_124 (nI_add _ _) (by decide) rfl ?_
                  refine j_goto (tgt := 32) hC dX6_write_127 (by decide) ?_
                  refine j_iload hC dX6_write_32 rfl ?_
                  refine j_aload_n hC dX6_write_34 rfl (jrf_ref _) ?_
                  refine j_get (v := .int (nI ((pIts (pEnd (sTmpl S))).length))) hC kf_X6_53 dX6_write_35 ((fMx.sub (fMw.sub hzr hz3) hz3) _ _ l1) (rfl) ?_
                  refine n_icmp_ge (tgt := 130) hC dX6_write_38 (by decide) (by omega) (by omega) (fun c10 => ?_) (fun c10 => ?_)
                  · exact j_vret hC9 rfl dX6_write_130 (⟨rfl, _, _, _, _, (by rw [hq]; exact eMx), hlim, fun e => absurd e (by rw [hq]; exact (show ¬ (3 : Nat) = 0 by decide)), fun _ => by rw [hq]; exact ⟨rfl, gMx⟩, ((hfr.trans fMw).trans fMx)⟩)
                  · refine j_aload_n hC dX6_write_41 rfl (jrf_ref _) ?_
                    refine j_get (v := .int (nI (3))) hC kf_X6_26 dX6_write_42 (eMx.1) (rfl) ?_
                    refine n_if_ne (tgt := 130) hC dX6_write_45 (by decide) (by omega) (fun c11 => ?_) (fun c11 => ?_)
                    · exact j_vret hC9 rfl dX6_write_130 (⟨rfl, _, _, _, _, (by rw [hq]; exact eMx), hlim, fun e => absurd e (by rw [hq]; exact (show ¬ (3 : Nat) = 0 by decide)), fun _ => by rw [hq]; exact ⟨rfl, gMx⟩, ((hfr.trans fMw).trans fMx)⟩)
                    · exact absurd c11 (by decide)
              · exact absurd c8 (by decide)
            · rw [hr] at eMw
              refine j_aload_n hC dX6_write_98 rfl (jrf_ref _) ?_
              refine j_get (v := .int (nI (1))) hC kf_X6_32 dX6_write_99 (eMw.1) (congrArg some (congrArg Value.int (jb_t hX))) ?_
              refine n_if_eq (tgt := 110) hC dX6_write_102 (by decide) (by omega) (fun c12 => ?_) (fun c12 => ?_)
              · exact absurd c12 (by decide)
              · refine j_aload_n hC dX6_write_105 rfl (jrf_ref _) ?_
                refine j_iconst (v := nI 4) hC dX6_write_106 (by decide) ?_
                refine c_put (fs' := [.ref (a + 1), .ref (a + 2), .int (nI ((gvX (sLim S) (l, false) (itO S q (sTmpl S) (pAtI (pIts (pEnd (sTmpl S))) i)))).1.length), .int (nI (0)), .int (nI (4)), .int (nI (sLim S)), .int (jb (((gvX (sLim S) (l, false) (itO S q (sTmpl S) (pAtI (pIts (pEnd (sTmpl S))) i)))).2 = true))]) hC kp_X6_26 dX6_write_107 (eMw.1) (by omega) (rfl) (rfl) rfl ?_
                have h9 : shS (jput (Mw) (a) (.inr (10, [.ref (a + 1), .ref (a + 2), .int (nI ((gvX (sLim S) (l, false) (itO S q (sTmpl S) (pAtI (pIts (pEnd (sTmpl S))) i)))).1.length), .int (nI (0)), .int (nI (4)), .int (nI (sLim S)), .int (jb (((gvX (sLim S) (l, false) (itO S q (sTmpl S) (pAtI (pIts (pEnd (sTmpl S))) i)))).2 = true))]))).1 a (gvX (sLim S) (l, false) (itO S q (sTmpl S) (pAtI (pIts (pEnd (sTmpl S))) i))) 0 4 (sLim S) ch9 := shS_r eMw
                refine j_aload_n hC dX6_write_110 rfl (jrf_ref _) ?_
                refine j_get (v := .int (nI (4))) hC kf_X6_26 dX6_write_111 (h9.1) (rfl) ?_
                refine n_if_eq (tgt := 124) hC dX6_write_114 (by decide) (by omega) (fun c13 => ?_) (fun c13 => ?_)
                · exact absurd c13 (by decide)
                · refine j_aload_n hC dX6_write_117 rfl (jrf_ref _) ?_
                  refine j_aload_n hC dX6_write_118 rfl (jrf_ref _) ?_
                  refine j_aload hC dX6_write_119 rfl (jrf_ref _) ?_
                  refine c_Pv (kc := 0) (ks := 0) hC kv_X6_75 dX6_write_121 (m_X6_explain hs9 h9 u6 l6 (by omega) (on3_put.sub (fMw.sub hzr hz3) hz3) hz3 hlim hBa) (h9.1) rfl rfl rfl rfl (by decide) (Nat.le_of_ble_eq_true rfl) ?_
                  intro v9 Mx h9
                  obtain ⟨rfl, ch1, eMx, gMx, fMx⟩ := h9
                  refine j_iinc_5 (v := nI (i + 1)) hC dX6_write_124 (nI_add _ _) (by decide) rfl ?_
                  refine j_goto (tgt := 32) hC dX6_write_127 (by decide) ?_
                  refine j_iload hC dX6_write_32 rfl ?_
                  refine j_aload_n hC dX6_write_34 rfl (jrf_ref _) ?_
                  refine j_get (v := .int (nI ((pIts (pEnd (sTmpl S))).length))) hC kf_X6_53 dX6_write_35 ((fMx.sub (on3_put.sub (fMw.sub hzr hz3) hz3) hz3) _ _ l1) (rfl) ?_
                  refine n_icmp_ge (tgt := 130) hC dX6_write_38 (by decide) (by omega) (by omega) (fun c14 => ?_) (fun c14 => ?_)
                  · exact j_vret hC9 rfl dX6_write_130 (⟨rfl, _, _, _, _, (by rw [hq1]; exact eMx), hlim, fun e => absurd e (by rw [hq1]; decide), fun _ => by rw [hq2]; exact ⟨rfl, gMx⟩, (((hfr.trans fMw).trans on3_put).trans fMx)⟩)
                  · refine j_aload_n hC dX6_write_41 rfl (jrf_ref _) ?_
                    refine j_get (v := .int (nI (4))) hC kf_X6_26 dX6_write_42 (eMx.1) (rfl) ?_
                    refine n_if_ne (tgt := 130) hC dX6_write_45 (by decide) (by omega) (fun c15 => ?_) (fun c15 => ?_)
                    · exact j_vret hC9 rfl dX6_write_130 (⟨rfl, _, _, _, _, (by rw [hq1]; exact eMx), hlim, fun e => absurd e (by rw [hq1]; decide), fun _ => by rw [hq2]; exact ⟨rfl, gMx⟩, (((hfr.trans fMw).trans on3_put).trans fMx)⟩)
                    · exact absurd c15 (by decide)
          · have hnm := wr_not (show i < (pIts (pEnd (sTmpl S))).length by omega) (show 0 < fu by omega) hmi (by assumption) hb5
            have htl := hwy.2.2.2.2.2.2.1 hnm.1 (by rw [hop]; exact List.not_mem_nil)
            refine j_aload hC dX6_write_80 rfl (jrf_ref _) ?_
            refine j_get (v := .int (nI (if iKind (pAtI (pIts (pEnd (sTmpl S))) i) = 5 then iTill (pAtI (pIts (pEnd (sTmpl S))) i) else 0))) hC kf_X6_68 dX6_write_82 (hzr _ _ w1) (rfl) ?_
            refine j_top (by rw [if_pos hnm.1]) ?_
            refine j_istore_4 hC dX6_write_85 (by decide) rfl ?_
            refine j_goto (tgt := 124) hC dX6_write_87 (by decide) ?_
            refine j_iinc_5 (v := nI (i + 1)) hC dX6_write_124 (nI_add _ _) (by decide) rfl ?_
            refine j_goto (tgt := 32) hC dX6_write_127 (by decide) ?_
            have hmb : mkA S q (sTmpl S) (pIts (pEnd (sTmpl S))) (pCos (pEnd (sTmpl S))) (fu - 1) (max (i + 1) (iTill (pAtI (pIts (pEnd (sTmpl S))) i))) l = ltrQ S q := by rw [show max (i + 1) (iTill (pAtI (pIts (pEnd (sTmpl S))) i)) = iTill (pAtI (pIts (pEnd (sTmpl S))) i) by omega]; exact hnm.2
            exact j_L (jle_s (jle_s (jle_s (jle_s (jle_s (jle_s (jle_n (jle_0)))))))) (ih (Mr) (i + 1) (iTill (pAtI (pIts (pEnd (sTmpl S))) i)) (l) (fu - 1) (ch9) (by omega) (hmb) (by omega) (by omega) (hsh) (hfr) (hzr))
