/-! ===== a reader of templates: the whole text ===== -/
section IT
variable {Z : jH} {M M' : jM} {a tx dp e s q k i0 : Nat} {L : List Nat} {P : pP} {op : Nat → Int32} {g : Nat → Value} {xp : Nat → Nat} {v : Value} {ff : Nat}
theorem pk_ne {c : Nat} (h : pKind c = some k) : ¬ c = 91 ∧ ¬ c = 93 := by
  refine ⟨fun e => ?_, fun e => ?_⟩
  · have e0 : pKind 91 = none := by decide
    rw [e, e0] at h; cases h
  · have e0 : pKind 93 = none := by decide
    rw [e, e0] at h; cases h
theorem stp_item (hk : pKind (pC L (pσ P).1) = some k) : pStep1 L P = (pEndσ L k (pσ P).1, pIts P ++ [(k, (pσ P).1, pOp P, pOne L k (pσ P).1, pTwo L k (pσ P).1, (pIts P).length + 1)], pCos P, pOp P, pDeep P) := by
  rw [pStep1, if_neg (pk_ne hk).1, if_neg (pk_ne hk).2, hk]
theorem stp_bad (h91 : ¬ pC L (pσ P).1 = 91) (h93 : ¬ pC L (pσ P).1 = 93) (hk : pKind (pC L (pσ P).1) = none) : pStep1 L P = pBad P ((pσ P).1, false) := by
  rw [pStep1, if_neg h91, if_neg h93, hk]
theorem stp_open (h91 : pC L (pσ P).1 = 91) (h4 : ¬ (pOp P).length = 4) : pStep1 L P = ((pOpen L (pσ P).1).2, pIts P ++ [(5, (pσ P).1, pOp P, (pCos P).length, (pCos P).length + (pOpen L (pσ P).1).1.length, 0)], pCos P ++ (pOpen L (pσ P).1).1, (pIts P).length :: pOp P, max (pDeep P) ((pOp P).length + 1)) := by
  rw [pStep1, if_pos h91, if_neg h4]
theorem stp_full (h91 : pC L (pσ P).1 = 91) (h4 : (pOp P).length = 4) : pStep1 L P = pBad P ((pσ P).1, false) := by
  rw [pStep1, if_pos h91, if_pos h4]
theorem stp_end (h93 : pC L (pσ P).1 = 93) (h0 : (pOp P).length = 0) : pStep1 L P = pBad P ((pσ P).1, false) := by
  rw [pStep1, if_neg (by omega), if_pos h93, List.eq_nil_of_length_eq_zero h0]
theorem rdT_item (h : rdT Z M a tx dp L P op g xp) (hk : pKind (pC L (pσ P).1) = some k) (hok : (pEndσ L k (pσ P).1).2 = true) (h1 : M'.1 a = some (.inr (11, rdF a tx (pEndσ L k (pσ P).1) dp)))
    (h3 : M'.1 (a + 4) = some (.inr (6, lyF a L ((pIts P).length + 1) (pDeep P) ff (brN (pIts P))))) (hff : ff = if k = 3 then mskP P ||| 2 ^ pOne L k (pσ P).1 else mskP P) (h4 : M'.1 (a + 5) = some (.inl (.object RX4, L.length, updV g (pIts P).length (.ref e)))) (he : M.1 e = none) (hae : a + 3 ≤ e)
    {v4 v5 v6 : Value} (hpc : M'.1 e = some (.inr (8, pcF k (pσ P).1 dp (optZ (pOp P).head?) v4 v5 v6 (.ref s) (.ref q) .null (.int (nI 0))))) (e4 : v4 = .int (nI (if k = 0 then pC L (pσ P).1 else 32))) (e5 : v5 = .int (nI (if k = 3 then pOne L k (pσ P).1 else 0))) (e6 : v6 = .int (nI (if k = 3 then styN (pTwo L k (pσ P).1) else 32)))
    (hs : strR (zf Z M'.1 a) s (if k = 4 then subT L ((pσ P).1 + 1) (pOne L k (pσ P).1 - ((pσ P).1 + 1)) else [])) (hq : strR (zf Z M'.1 a) q (if k = 4 then subT L (pOne L k (pσ P).1 + 1) (pTwo L k (pσ P).1 - (pOne L k (pσ P).1 + 1)) else []))
    (hkp : ∀ b o, M.1 b = some o → b ≠ a → b ≠ a + 4 → b ≠ a + 5 → M'.1 b = some o) : ∃ op g xp, rdT Z M' a tx dp L (pStep1 L P) op g xp := by
  have hk4 := pKind_le hk
  have hdp := h.2.2.2.2.1
  have hop := h.2.2.2.2.2.1
  have h2 := hkp _ _ h.2.1 (by omega) (by omega) (by omega)
  have hone : k = 0 → pOne L k (pσ P).1 = pC L (pσ P).1 := fun e => by subst e; rfl
  refine ⟨_, _, _, rdT_push (x := (k, (pσ P).1, pOp P, pOne L k (pσ P).1, pTwo L k (pσ P).1, (pIts P).length + 1)) (cs := []) h (by rw [stp_item hk, List.append_nil]) hok h.2.2.2.2.2.2.2.2.2.2.2.2 h1 h2 ?_ h4 hdp hop he hae ?_ (fun b o hb n1 _ n2 n3 => hkp b o hb n1 n2 n3)⟩
  · rw [h3, hff]
    have e5 : (if k = 5 then 1 else 0) = 0 := if_neg (by omega)
    show some (Sum.inr (6, lyF a L ((pIts P).length + 1) (pDeep P) _ (brN (pIts P)))) = some (Sum.inr (6, lyF a L ((pIts P).length + 1) (pDeep P) (mskP P ||| ((if k = 3 then 2 ^ pOne L k (pσ P).1 else 0) ||| 0)) (brN (pIts P) + if k = 5 then 1 else 0)))
    rw [e5, Nat.or_zero]
    by_cases e3 : k = 3
    · rw [if_pos e3, if_pos e3]; rfl
    · rw [if_neg e3, if_neg e3, Nat.or_zero]; rfl
  · rw [List.append_nil]
    refine pie_of ((zf_in (by omega)).trans hpc) rfl rfl hdp rfl ?_ e5 e6 ?_ hs hq ?_
    · show v4 = .int (nI (if k = 0 then pOne L k (pσ P).1 else 32))
      rw [e4]
      by_cases e0 : k = 0
      · rw [if_pos e0, if_pos e0, hone e0]
      · rw [if_neg e0, if_neg e0]
    · show Value.int (nI 0) = .int (nI (if k = 5 then (pIts P).length + 1 else 0))
      rw [if_neg (by omega)]
    · show lstR _ _ (if k = 5 then _ else [])
      rw [if_neg (by omega)]
      rfl
theorem rdT_open (h : rdT Z M a tx dp L P op g xp) (h91 : pC L (pσ P).1 = 91) (hd4 : ¬ (pOp P).length = 4) (hok : (pOpen L (pσ P).1).2.2 = true) (h1 : M'.1 a = some (.inr (11, rdF a tx (pOpen L (pσ P).1).2 (dp + 1)))) (h2 : M'.1 (a + 3) = some (.inl (.int, 4, fun j => .int (upd op dp (nI (pIts P).length) j))))
    (h3 : M'.1 (a + 4) = some (.inr (6, lyF a L ((pIts P).length + 1) (max (pDeep P) (dp + 1)) (mskP P ||| orTo (gKo (pOpen L (pσ P).1).1) (pOpen L (pσ P).1).1.length) (brN (pIts P) + 1)))) (h4 : M'.1 (a + 5) = some (.inl (.object RX4, L.length, updV g (pIts P).length (.ref e)))) (he : M.1 e = none) (hae : a + 3 ≤ e)
    (hpc : M'.1 e = some (.inr (8, pcF 5 (pσ P).1 dp (optZ (pOp P).head?) (.int (nI 32)) (.int (nI 0)) (.int (nI 32)) (.ref s) (.ref q) v (.int (nI 0))))) (hs : strR (zf Z M'.1 a) s []) (hq : strR (zf Z M'.1 a) q []) (hv : lstR (zf Z M'.1 a) v (pOpen L (pσ P).1).1.reverse)
    (hkp : ∀ b o, M.1 b = some o → b ≠ a → b ≠ a + 3 → b ≠ a + 4 → b ≠ a + 5 → M'.1 b = some o) : ∃ op g xp, rdT Z M' a tx (dp + 1) L (pStep1 L P) op g xp := by
  have hdp := h.2.2.2.2.1
  have hop := h.2.2.2.2.2.1
  refine ⟨_, _, _, rdT_push (x := (5, (pσ P).1, pOp P, (pCos P).length, (pCos P).length + (pOpen L (pσ P).1).1.length, 0)) (cs := (pOpen L (pσ P).1).1) h (stp_open h91 hd4) hok (by have := h.2.2.2.2.2.2.2.2.2.2.2.2; have := h.2.2.2.2.2.2.2.2.1.2.2.2.2.1; omega) h1 h2 ?_ h4 (by rw [hdp]; rfl) (fun k hk => ?_) he hae ?_ hkp⟩
  · rw [h3, hdp]
    show _ = some (Sum.inr (6, lyF a L ((pIts P).length + 1) (max (pDeep P) ((pOp P).length + 1)) (mskP P ||| (0 ||| orTo (gKo (pOpen L (pσ P).1).1) (pOpen L (pσ P).1).1.length)) (brN (pIts P) + 1)))
    rw [Nat.zero_or]
  · rw [List.reverse_cons]
    by_cases e9 : k = dp
    · subst e9
      rw [show upd op k (nI (pIts P).length) k = nI (pIts P).length from if_pos rfl]
      have e8 : k = (pOp P).reverse.length := by rw [List.length_reverse]; exact hdp
      rw [e8, getD_appN]
    · rw [show upd op dp (nI (pIts P).length) k = op k from if_neg e9, getD_app (by rw [List.length_reverse]; omega)]
      exact hop k (by omega)
  · refine pie_of ((zf_in (by omega)).trans hpc) rfl rfl hdp rfl rfl rfl rfl rfl hs hq ?_
    show lstR _ _ (((pCos P ++ (pOpen L (pσ P).1).1).drop (pCos P).length).take ((pCos P).length + (pOpen L (pσ P).1).1.length - (pCos P).length)).reverse
    rw [List.drop_left, Nat.add_sub_cancel_left, List.take_length]
    exact hv
end IT
/-- a reading, well or not -/
def rdQ (Z : jH) (M0 M : jM) (a tx : Nat) (L : List Nat) (P : pP) : Prop := (∃ dp, M.1 a = some (.inr (11, rdF a tx (pσ P) dp)) ∧ ((pσ P).2 = true → ∃ op g xp, rdT Z M a tx dp L P op g xp)) ∧ (∀ b o, (b < a ∨ b = a + 1 ∨ b = a + 2) → M0.1 b = some o → M.1 b = some o) ∧ (pσ P).1 ≤ L.length
def rkc (L : List Nat) (P : pP) : Nat := if (pσ P).2 = true then 5 * (L.length - (pσ P).1) + 7 else 0
def rks (L : List Nat) (P : pP) : Nat := if (pσ P).2 = true then 91 * (L.length - (pσ P).1) + 271 else 0
section RQ
variable {Z : jH} {M0 M : jM} {a tx dp i n : Nat} {L : List Nat} {P : pP} {op : Nat → Int32} {g : Nat → Value} {xp : Nat → Nat}
theorem rq_bad {Q : pP} (hQ : Q = pBad P ((pσ P).1, false)) (hle : (pσ P).1 ≤ L.length) (h1 : M.1 a = some (.inr (11, rdF a tx ((pσ P).1, false) dp))) (hk : ∀ b o, (b < a ∨ b = a + 1 ∨ b = a + 2) → M0.1 b = some o → M.1 b = some o) : rdQ Z M0 M a tx L Q := by
  subst hQ
  exact ⟨⟨dp, h1, fun e => absurd (show false = true from e) (by decide)⟩, hk, hle⟩
theorem it_step (hw : (pσ P).2 = true) (hl : (pσ P).1 < L.length) (hi : i < 122) (h : pIter L (122 - i) P = pEnd L) : pIter L (122 - (i + 1)) (pStep1 L P) = pEnd L := by
  rw [← h, show 122 - i = 1 + (122 - (i + 1)) by omega, pIter_add, pIter_1 (pRuns_of hw (Or.inl hl))]
theorem lk_all : ∀ c, c < 127 → c = 35 ∨ c = 60 ∨ c = 64 ∨ c = 91 ∨ c = 93 ∨ c = 123 ∨ Op.lookupswitch.offset [(35, 60), (60, 85), (64, 69), (91, 92), (93, 99), (123, 78)] 106 (nI c).toInt = 106 := by decide +kernel
theorem pk_lit {c : Nat} (h : isLit c = true) : pKind c = some 0 := by
  unfold isLit at h
  rw [decide_eq_true_eq] at h
  rw [pKind, if_neg (by omega), if_neg (by omega), if_neg (by omega), if_neg (by omega), if_pos (by rw [isLit, decide_eq_true_eq]; exact h)]
theorem pk_no {c : Nat} (h : ¬ isLit c = true) (h1 : ¬ c = 35) (h2 : ¬ c = 64) (h3 : ¬ c = 123) (h4 : ¬ c = 60) : pKind c = none := by
  rw [pKind, if_neg h1, if_neg h2, if_neg h3, if_neg h4, if_neg h]
theorem wd_3 (hw : (pEndσ L 4 i).2 = true) (hi : i < L.length) : i + 3 ≤ (pEndσ L 4 i).1 := by
  have h := pTwo_4 hi hw
  have e3 : pEndσ L 4 i = pWant L 62 (litE L 120 (pWant L 124 (pLit L 120 (i + 1), true))) := by
    rw [pEndσ, if_neg (by decide), if_pos rfl]
    rfl
  have e2 : pTwo L 4 i = (litE L 120 (pWant L 124 (pLit L 120 (i + 1), true))).1 := by
    rw [pTwo, if_neg (by decide), if_pos rfl, ← litE_1]
  rw [e3] at hw ⊢
  rw [(pWant_ok hw).2.2]
  show i + 3 ≤ (litE L 120 (pWant L 124 (pLit L 120 (i + 1), true))).1 + 1
  rw [← e2]
  omega
end RQ
theorem ra_1 {L : List Nat} {P : pP} {n : Nat} (h : pIter L n P = pEnd L) (hw : (pσ P).2 = false) : P = pEnd L := by
  rw [← h]
  exact (pRuns_no (by rw [pRuns, hw]; rfl) n).symm
theorem ra_2 {L : List Nat} {P : pP} {n : Nat} (h : pIter L n P = pEnd L) (hl : L.length ≤ (pσ P).1) (h0 : (pOp P).length = 0) : P = pEnd L := by
  rw [← h]
  refine (pRuns_no ?_ n).symm
  rw [pRuns, decide_eq_true hl, decide_eq_true h0, Bool.and_true, Bool.not_true, Bool.and_false]
theorem ra_3 {L : List Nat} {P : pP} {n : Nat} (h : pIter L (n + 1) P = pEnd L) (hw : (pσ P).2 = true) (hl : L.length ≤ (pσ P).1) (h0 : ¬ (pOp P).length = 0) : pEnd L = pBad P ((pσ P).1, false) := by
  have hc : pC L (pσ P).1 = 0 := pC_out hl
  have e : pStep L P = pBad P ((pσ P).1, false) := by
    rw [pStep, if_pos (pRuns_of hw (Or.inr h0))]
    exact stp_bad (by rw [hc]; decide) (by rw [hc]; decide) (by rw [hc]; decide)
  rw [← h]
  show pIter L n (pStep L P) = _
  rw [e]
  exact pRuns_no (by rfl) n
theorem ra_b {L : List Nat} {Q : pP} (h : pEnd L = Q) (hq : (pσ Q).2 = false) : ¬ pOK L = true := by
  rw [pOK, h, hq]
  decide
set_option maxHeartbeats 4000000 in
set_option maxRecDepth 100000 in
theorem m_X7_readAll {G : jG} {M : jM} {a tx : Nat} {L : List Nat} {Z : jH} (hs : (gL G).stackTraces = false) (h : rdQ Z M M a tx L pP0) (htx : strR Z tx L) (hz : sub Z M.1) (hZ : ∀ b, a ≤ b → b ≠ a + 1 → b ≠ a + 2 → Z b = none) (hBa : gB G ≤ a) (hL : L.length ≤ 120) (hk18 : strR Z (gK G 18) []) (hk19 : strR Z (gK G 19) litT) (hk22 : strR Z (gK G 22) []) (hBt : ∀ b fs, Z tx = some (.inr (0, fs)) → fs[0]? = some (.ref b) → gB G ≤ b) : JMet G jX7_readAll [.ref a] (M) (rkc L pP0) (rks L pP0) 9 (fun w M' => w = some (.int (jb (pOK L = true))) ∧ (∃ x6 dp, M'.1 a = some (.inr (11, rdV a tx dp (pσ (pEnd L)).1 x6))) ∧ (pOK L = true → ∃ op g xp dp, rdT Z M' a tx dp L (pEnd L) op g xp) ∧ (∀ b o, (b < a ∨ b = a + 1 ∨ b = a + 2) → M.1 b = some o → M'.1 b = some o)) jNo := by
  refine jMet_of [some (.ref (a)), none, none] (by decide) rfl (Nat.le_of_ble_eq_true rfl) (rfl) hs ?_
  intro C hC9 hG
  have hC := hC9.z
  have hs9 := jOK0_tr hC
  refine j_lt (fun hlt => ?_)
  have hBg : jB C = gB G := by rw [jB, hG]
  subst hG
  have hL5 := htx.2.1
  refine j_iconst (v := nI 0) hC dX7_readAll_0 (by decide) ?_
  refine j_istore_n1 hC dX7_readAll_1 (by decide) rfl ?_
  suffices K : ∀ (n9 : Nat) (Mr : jM) (i : Nat) (P : pP), 200 - i < n9 → rdQ Z M Mr a tx L P → pIter L (122 - i) P = pEnd L → i ≤ L.length → ((pσ P).2 = true → i ≤ (pσ P).1) → J C Mr (rkc L P) (rks L P) 2 [some (.ref a), some (.int (nI i)), none] [] from K _ M 0 pP0 (Nat.lt_succ_self _) h rfl (Nat.zero_le _) (fun _ => Nat.zero_le _)
  intro n9
  induction n9 with
  | zero => intro Mr i P hm; omega
  | succ n9 ih =>
    intro Mr i P hm hq hit hi hip
    obtain ⟨⟨dp, hr1, hr2⟩, hr3, hr4⟩ := id hq
    have hzr : sub Z Mr.1 := fun b o hb => hr3 b o (zlt hZ hb) (hz b o hb)
    refine j_iload_n hC dX7_readAll_2 rfl ?_
    refine j_aload_n hC dX7_readAll_3 rfl (jrf_ref _) ?_
    refine j_get (v := .ref (tx)) hC kf_X7_26 dX7_readAll_4 (hr1) (rfl) ?_
    refine c_V hC kv_X7_32 dX7_readAll_7 (m_J0_length_8abf5 hs9 (htx.mono hzr)) ((htx.mono hzr).obj.choose_spec) rfl rfl rfl rfl (by decide) (Nat.le_of_ble_eq_true rfl) ?_
    refine n_icmp_ge (tgt := 157) hC dX7_readAll_10 (by decide) (by omega) (by omega) (fun c1 => ?_) (fun c1 => ?_)
    · refine j_less (kc' := 0) (ks' := 0) (Nat.zero_le _) (Nat.zero_le _) ?_
      have hgl : (pσ P).2 = true → L.length ≤ (pσ P).1 := fun e => by have := hip e; omega
      refine j_aload_n hC dX7_readAll_157 rfl (jrf_ref _) ?_
      refine j_get (v := .int (jb ((pσ P).2 = false))) hC kf_X7_22 dX7_readAll_158 (hr1) (rfl) ?_
      refine jb_if_ne (tgt := 175) hC dX7_readAll_161 (by decide) (fun c2 => ?_) (fun c2 => ?_)
      · refine j_iconst (v := nI 0) hC dX7_readAll_175 (by decide) ?_
        have hpe := ra_1 hit (by assumption)
        have hno := ra_b hpe.symm (by assumption)
        exact j_iret hC9 rfl (rfl) dX7_readAll_176 (⟨jv (jb_f0 hno), ⟨_, dp, by rw [← hpe]; exact hr1⟩, fun e => absurd e hno, hr3⟩)
      · have hw9 : (pσ P).2 = true := ok_t (by assumption)
        obtain ⟨op, g, xp, hT⟩ := hr2 hw9
        have hdl := hT.2.2.2.2.1
        have hd4 := hT.opR.1
        refine j_aload_n hC dX7_readAll_164 rfl (jrf_ref _) ?_
        refine j_get (v := .int (nI (dp))) hC kf_X7_19 dX7_readAll_165 (hr1) (rfl) ?_
        refine n_if_ne (tgt := 175) hC dX7_readAll_168 (by decide) (by omega) (fun c3 => ?_) (fun c3 => ?_)
        · refine j_iconst (v := nI 0) hC dX7_readAll_175 (by decide) ?_
          have hpe := ra_3 (n := 121 - i) (by rw [show 121 - i + 1 = 122 - i by omega]; exact hit) hw9 (hgl hw9) (by omega)
          have hno := ra_b hpe rfl
          exact j_iret hC9 rfl (rfl) dX7_readAll_176 (⟨jv (jb_f0 hno), ⟨_, dp, by rw [hpe]; exact hr1⟩, fun e => absurd e hno, hr3⟩)
        · refine j_iconst (v := nI 1) hC dX7_readAll_171 (by decide) ?_
          refine j_goto (tgt := 176) hC dX7_readAll_172 (by decide) ?_
          have hpe := ra_2 hit (hgl hw9) (by omega)
          exact j_iret hC9 rfl (rfl) dX7_readAll_176 (⟨jv (jb_t1 (show (pσ (pEnd L)).2 = true by rw [← hpe]; exact hw9)), ⟨_, dp, by rw [← hpe]; exact hr1⟩, fun _ => ⟨op, g, xp, dp, by rw [← hpe]; exact hT⟩, hr3⟩)
    · refine j_aload_n hC dX7_readAll_13 rfl (jrf_ref _) ?_
      refine j_get (v := .int (nI ((pσ P).1))) hC kf_X7_9 dX7_readAll_14 (hr1) (rfl) ?_
      refine j_aload_n hC dX7_readAll_17 rfl (jrf_ref _) ?_
      refine j_get (v := .ref (tx)) hC kf_X7_26 dX7_readAll_18 (hr1) (rfl) ?_
      refine c_V hC kv_X7_32 dX7_readAll_21 (m_J0_length_8abf5 hs9 (htx.mono hzr)) ((htx.mono hzr).obj.choose_spec) rfl rfl rfl rfl (by decide) (Nat.le_of_ble_eq_true rfl) ?_
      refine n_icmp_ge (tgt := 157) hC dX7_readAll_24 (by decide) (by omega) (by omega) (fun c4 => ?_) (fun c4 => ?_)
      · refine j_less (kc' := 0) (ks' := 0) (Nat.zero_le _) (Nat.zero_le _) ?_
        have hgl : (pσ P).2 = true → L.length ≤ (pσ P).1 := fun e => by have := hip e; omega
        refine j_aload_n hC dX7_readAll_157 rfl (jrf_ref _) ?_
        refine j_get (v := .int (jb ((pσ P).2 = false))) hC kf_X7_22 dX7_readAll_158 (hr1) (rfl) ?_
        refine jb_if_ne (tgt := 175) hC dX7_readAll_161 (by decide) (fun c5 => ?_) (fun c5 => ?_)
        · refine j_iconst (v := nI 0) hC dX7_readAll_175 (by decide) ?_
          have hpe := ra_1 hit (by assumption)
          have hno := ra_b hpe.symm (by assumption)
          exact j_iret hC9 rfl (rfl) dX7_readAll_176 (⟨jv (jb_f0 hno), ⟨_, dp, by rw [← hpe]; exact hr1⟩, fun e => absurd e hno, hr3⟩)
        · have hw9 : (pσ P).2 = true := ok_t (by assumption)
          obtain ⟨op, g, xp, hT⟩ := hr2 hw9
          have hdl := hT.2.2.2.2.1
          have hd4 := hT.opR.1
          refine j_aload_n hC dX7_readAll_164 rfl (jrf_ref _) ?_
          refine j_get (v := .int (nI (dp))) hC kf_X7_19 dX7_readAll_165 (hr1) (rfl) ?_
          refine n_if_ne (tgt := 175) hC dX7_readAll_168 (by decide) (by omega) (fun c6 => ?_) (fun c6 => ?_)
          · refine j_iconst (v := nI 0) hC dX7_readAll_175 (by decide) ?_
            have hpe := ra_3 (n := 121 - i) (by rw [show 121 - i + 1 = 122 - i by omega]; exact hit) hw9 (hgl hw9) (by omega)
            have hno := ra_b hpe rfl
            exact j_iret hC9 rfl (rfl) dX7_readAll_176 (⟨jv (jb_f0 hno), ⟨_, dp, by rw [hpe]; exact hr1⟩, fun e => absurd e hno, hr3⟩)
          · refine j_iconst (v := nI 1) hC dX7_readAll_171 (by decide) ?_
            refine j_goto (tgt := 176) hC dX7_readAll_172 (by decide) ?_
            have hpe := ra_2 hit (hgl hw9) (by omega)
            exact j_iret hC9 rfl (rfl) dX7_readAll_176 (⟨jv (jb_t1 (show (pσ (pEnd L)).2 = true by rw [← hpe]; exact hw9)), ⟨_, dp, by rw [← hpe]; exact hr1⟩, fun _ => ⟨op, g, xp, dp, by rw [← hpe]; exact hT⟩, hr3⟩)
      · refine j_aload_n hC dX7_readAll_27 rfl (jrf_ref _) ?_
        refine j_get (v := .int (jb ((pσ P).2 = false))) hC kf_X7_22 dX7_readAll_28 (hr1) (rfl) ?_
        refine jb_if_ne (tgt := 157) hC dX7_readAll_31 (by decide) (fun c7 => ?_) (fun c7 => ?_)
        · refine j_less (kc' := 0) (ks' := 0) (Nat.zero_le _) (Nat.zero_le _) ?_
          refine j_aload_n hC dX7_readAll_157 rfl (jrf_ref _) ?_
          refine j_get (v := .int (jb ((pσ P).2 = false))) hC kf_X7_22 dX7_readAll_158 (hr1) (rfl) ?_
          refine jb_if_ne (tgt := 175) hC dX7_readAll_161 (by decide) (fun c8 => ?_) (fun c8 => ?_)
          · refine j_iconst (v := nI 0) hC dX7_readAll_175 (by decide) ?_
            have hpe := ra_1 hit (by assumption)
            have hno := ra_b hpe.symm (by assumption)
            exact j_iret hC9 rfl (rfl) dX7_readAll_176 (⟨jv (jb_f0 hno), ⟨_, dp, by rw [← hpe]; exact hr1⟩, fun e => absurd e hno, hr3⟩)
          · contradiction
        · have hw : (pσ P).2 = true := ok_t (by assumption)
          have hat : (pσ P).1 < L.length := by omega
          obtain ⟨op, g, xp, hT⟩ := hr2 hw
          obtain ⟨t1, t2, t3, t4, t5, t6, t7, t8, t9, t10, t11, t12, t13⟩ := id hT
          have hop4 := hT.opR
          have hmo := pStep_mo (L := L) (P := P) hr4
          have hm32 := msk_32w t9
          have hc7 : pC L (pσ P).1 ≤ 126 := chr_le htx.2
          have hnl : (pIts P).length < L.length := by omega
          have hp120 : (pσ P).1 ≤ 120 := by omega
          refine j_lt (fun hltr => ?_)
          have hMn : Mr.1 Mr.2 = none := by
            cases e : Mr.1 Mr.2 with
            | none => rfl
            | some o => exact absurd (hltr _ _ e) (Nat.lt_irrefl _)
          have har := hltr _ _ t1
          have har5 := hltr _ _ t4
          have hkc : rkc L P = 5 * (L.length - (pσ P).1) + 7 := if_pos hw
          have hks : rks L P = 91 * (L.length - (pσ P).1) + 271 := if_pos hw
          have hz18 : ∀ {X : jM}, sub Z X.1 → strR (zf Z X.1 a) (gK (jCG C) 18) [] := fun h9 => hk18.mono (zf_sub h9)
          refine j_aload_n hC dX7_readAll_34 rfl (jrf_ref _) ?_
          refine c_V hC kv_X7_45 dX7_readAll_35 (m_X7_sign (σ := (pσ P)) hs9 (hr1) htx hzr (by omega)) (hr1) rfl rfl rfl rfl (by decide) (Nat.le_of_ble_eq_true rfl) ?_
          refine j_istore_n2 hC dX7_readAll_38 (by decide) rfl ?_
          refine j_iload_n hC dX7_readAll_39 rfl ?_
          rcases lk_all (pC L (pσ P).1) (by omega) with hx | hx | hx | hx | hx | hx | hx
          · refine j_lookup (off := 60) (tgt := 100) hC dX7_readAll_40 (by decide +kernel) (by rw [hx]; decide +kernel) (by decide) ?_
            refine j_aload_n hC dX7_readAll_100 rfl (jrf_ref _) ?_
            refine j_iconst (v := nI 1) hC dX7_readAll_101 (by decide) ?_
            have hrm : rkc L (pStep1 L P) + (1) ≤ rkc L P := by
              rw [hkc]; unfold rkc
              split
              · rename_i e; have := hmo.2 e; omega
              · omega
            have hrs : rks L (pStep1 L P) + (11) ≤ rks L P := by
              rw [hks]; unfold rks
              split
              · rename_i e; have := hmo.2 e; omega
              · omega
            refine j_less hrm hrs ?_
            have hkd : pKind (pC L (pσ P).1) = some 1 := by rw [hx]; decide
            refine c_Pv (kc := rkc L (pStep1 L P)) (ks := rks L (pStep1 L P)) hC kv_X7_48 dX7_readAll_102 (m_X7_addPiece (k := 1) hs9 t1 t3 t4 t2 hop4 hnl hL hBa (by omega)) hr1 rfl rfl rfl rfl (by decide) (Nat.le_of_ble_eq_true rfl) ?_
            intro v9 M1 h9
            obtain ⟨rfl, e1, e2, e3, e4, e5, e6⟩ := h9
            have hz1 : sub Z M1.1 := fun b o hb => e5 b o (hzr b o hb) (by have := zlt hZ hb; omega) (by have := zlt hZ hb; omega) (by have := zlt hZ hb; omega)
            rw [hw] at e1
            have hq9 : rdQ Z M M1 a tx L (pStep1 L P) := ⟨⟨dp, by rw [stp_item hkd]; exact e1, fun _ => rdT_item (k := 1) (e := Mr.2) hT hkd rfl e1 e2 rfl e3 hMn (by omega) e4 rfl rfl rfl (hz18 hz1) (hz18 hz1) e5⟩, fun b o hb h9 => e5 b o (hr3 b o hb h9) (by omega) (by omega) (by omega), hmo.1⟩
            refine j_pop hC dX7_readAll_105 rfl ?_
            refine j_goto (tgt := 151) hC dX7_readAll_106 (by decide) ?_
            refine j_iinc_1 (v := nI (i + 1)) hC dX7_readAll_151 (nI_add _ _) (by decide) rfl ?_
            refine j_goto (tgt := 2) hC dX7_readAll_154 (by decide) ?_
            refine j_L (jle_s (jle_s (jle_n (jle_0)))) ?_
            exact ih _ (i + 1) _ (by omega) hq9 (it_step hw hat (by omega) hit) (by omega) (fun e => by have := hmo.2 e; have := hip hw; omega)
          · refine j_lookup (off := 85) (tgt := 125) hC dX7_readAll_40 (by decide +kernel) (by rw [hx]; decide +kernel) (by decide) ?_
            refine j_aload_n hC dX7_readAll_125 rfl (jrf_ref _) ?_
            have hkd : pKind (pC L (pσ P).1) = some 4 := by rw [hx]; decide
            have hrm : rkc L (pStep1 L P) + 5 ≤ rkc L P := by
              rw [hkc]; unfold rkc
              split
              · rename_i e; have := hmo.2 e; omega
              · omega
            have hrs : rks L (pStep1 L P) + 271 ≤ rks L P := by
              rw [hks]; unfold rks
              split
              · rename_i e
                have e9 : (pEndσ L 4 (pσ P).1).2 = true := by rw [stp_item hkd] at e; exact e
                have h3 := wd_3 e9 hat
                have h4 : (pσ (pStep1 L P)).1 = (pEndσ L 4 (pσ P).1).1 := by rw [stp_item hkd]
                have h5 := hmo.1
                omega
              · omega
            refine j_less hrm hrs ?_
            refine c_Pv (kc := rkc L (pStep1 L P)) (ks := rks L (pStep1 L P)) hC kv_X7_55 dX7_readAll_126 (m_X7_readWords hs9 t1 t3 t4 t2 hop4 hnl hL hBa htx hzr hZ hp120 hw hat hk19 hk22 hBt) hr1 rfl rfl rfl rfl (by decide) (Nat.le_of_ble_eq_true rfl) ?_
            intro v9 M1 h9
            obtain ⟨rfl, e1, e2, e3, ⟨p9, q9, e4, e4s⟩, e5⟩ := h9
            have hq9 : rdQ Z M M1 a tx L (pStep1 L P) := ⟨⟨dp, by rw [stp_item hkd]; exact e1, fun e => by
              have e9 : (pEndσ L 4 (pσ P).1).2 = true := by rw [stp_item hkd] at e; exact e
              exact rdT_item (k := 4) (e := Mr.2) hT hkd e9 e1 e2 rfl e3 hMn (by omega) e4 rfl rfl rfl (e4s e9).1 (e4s e9).2 e5⟩, fun b o hb h9 => e5 b o (hr3 b o hb h9) (by omega) (by omega) (by omega), hmo.1⟩
            refine j_goto (tgt := 151) hC dX7_readAll_129 (by decide) ?_
            refine j_iinc_1 (v := nI (i + 1)) hC dX7_readAll_151 (nI_add _ _) (by decide) rfl ?_
            refine j_goto (tgt := 2) hC dX7_readAll_154 (by decide) ?_
            refine j_L (jle_s (jle_s (jle_n (jle_0)))) ?_
            exact ih _ (i + 1) _ (by omega) hq9 (it_step hw hat (by omega) hit) (by omega) (fun e => by have := hmo.2 e; have := hip hw; omega)
          · refine j_lookup (off := 69) (tgt := 109) hC dX7_readAll_40 (by decide +kernel) (by rw [hx]; decide +kernel) (by decide) ?_
            refine j_aload_n hC dX7_readAll_109 rfl (jrf_ref _) ?_
            refine j_iconst (v := nI 2) hC dX7_readAll_110 (by decide) ?_
            have hrm : rkc L (pStep1 L P) + (1) ≤ rkc L P := by
              rw [hkc]; unfold rkc
              split
              · rename_i e; have := hmo.2 e; omega
              · omega
            have hrs : rks L (pStep1 L P) + (11) ≤ rks L P := by
              rw [hks]; unfold rks
              split
              · rename_i e; have := hmo.2 e; omega
              · omega
            refine j_less hrm hrs ?_
            have hkd : pKind (pC L (pσ P).1) = some 2 := by rw [hx]; decide
            refine c_Pv (kc := rkc L (pStep1 L P)) (ks := rks L (pStep1 L P)) hC kv_X7_48 dX7_readAll_111 (m_X7_addPiece (k := 2) hs9 t1 t3 t4 t2 hop4 hnl hL hBa (by omega)) hr1 rfl rfl rfl rfl (by decide) (Nat.le_of_ble_eq_true rfl) ?_
            intro v9 M1 h9
            obtain ⟨rfl, e1, e2, e3, e4, e5, e6⟩ := h9
            have hz1 : sub Z M1.1 := fun b o hb => e5 b o (hzr b o hb) (by have := zlt hZ hb; omega) (by have := zlt hZ hb; omega) (by have := zlt hZ hb; omega)
            rw [hw] at e1
            have hq9 : rdQ Z M M1 a tx L (pStep1 L P) := ⟨⟨dp, by rw [stp_item hkd]; exact e1, fun _ => rdT_item (k := 2) (e := Mr.2) hT hkd rfl e1 e2 rfl e3 hMn (by omega) e4 rfl rfl rfl (hz18 hz1) (hz18 hz1) e5⟩, fun b o hb h9 => e5 b o (hr3 b o hb h9) (by omega) (by omega) (by omega), hmo.1⟩
            refine j_pop hC dX7_readAll_114 rfl ?_
            refine j_goto (tgt := 151) hC dX7_readAll_115 (by decide) ?_
            refine j_iinc_1 (v := nI (i + 1)) hC dX7_readAll_151 (nI_add _ _) (by decide) rfl ?_
            refine j_goto (tgt := 2) hC dX7_readAll_154 (by decide) ?_
            refine j_L (jle_s (jle_s (jle_n (jle_0)))) ?_
            exact ih _ (i + 1) _ (by omega) hq9 (it_step hw hat (by omega) hit) (by omega) (fun e => by have := hmo.2 e; have := hip hw; omega)
          · refine j_lookup (off := 92) (tgt := 132) hC dX7_readAll_40 (by decide +kernel) (by rw [hx]; decide +kernel) (by decide) ?_
            refine j_aload_n hC dX7_readAll_132 rfl (jrf_ref _) ?_
            by_cases h4 : (pOp P).length = 4
            · have hst := stp_full hx h4
              have hdp4 : dp = 4 := by omega
              subst hdp4
              have hrm : rkc L (pStep1 L P) + (0) ≤ rkc L P := by
                rw [hkc]; unfold rkc
                split
                · rename_i e; have := hmo.2 e; omega
                · omega
              have hrs : rks L (pStep1 L P) + (0) ≤ rks L P := by
                rw [hks]; unfold rks
                split
                · rename_i e; have := hmo.2 e; omega
                · omega
              refine j_less hrm hrs ?_
              refine c_Pv (kc := rkc L (pStep1 L P)) (ks := rks L (pStep1 L P)) hC kv_X7_58 dX7_readAll_133 (m_X7_openBrackets_w hs9 t1 t2 hBa) hr1 rfl rfl rfl rfl (by decide) (Nat.le_of_ble_eq_true rfl) ?_
              intro v9 M1 h9
              obtain ⟨rfl, e9⟩ := h9
              refine j_M e9 ?_
              have hq9 : rdQ Z M (jput Mr a (.inr (11, rdF a tx ((pσ P).1, false) 4))) a tx L (pStep1 L P) := rq_bad hst hr4 jput_at (fun b o hb h9 => (jput_ne (by omega)).trans (hr3 b o hb h9))
              refine j_goto (tgt := 151) hC dX7_readAll_136 (by decide) ?_
              refine j_iinc_1 (v := nI (i + 1)) hC dX7_readAll_151 (nI_add _ _) (by decide) rfl ?_
              refine j_goto (tgt := 2) hC dX7_readAll_154 (by decide) ?_
              refine j_L (jle_s (jle_s (jle_n (jle_0)))) ?_
              exact ih _ (i + 1) _ (by omega) hq9 (it_step hw hat (by omega) hit) (by omega) (fun e => by have := hmo.2 e; have := hip hw; omega)
            · have hst := stp_open hx h4
              have hE : (pσ (pStep1 L P)).1 = (pOpen L (pσ P).1).2.1 := by rw [hst]
              have hE2 : (pσ (pStep1 L P)).2 = (pOpen L (pσ P).1).2.2 := by rw [hst]
              have hEm := pOpen_mo (L := L) (i := (pσ P).1)
              have hEl := pOpen_le (L := L) hat
              have hrm : rkc L (pStep1 L P) + (2 + ((pOpen L (pσ P).1).2.1 - (pσ P).1)) ≤ rkc L P := by
                rw [hkc]; unfold rkc
                rw [hE]
                split <;> omega
              have hrs : rks L (pStep1 L P) + (15 + 4 * ((pOpen L (pσ P).1).2.1 - (pσ P).1)) ≤ rks L P := by
                rw [hks]; unfold rks
                rw [hE]
                split <;> omega
              refine j_less hrm hrs ?_
              refine c_Pv (kc := rkc L (pStep1 L P)) (ks := rks L (pStep1 L P)) hC kv_X7_58 dX7_readAll_133 (m_X7_openBrackets hs9 t1 t3 t4 t2 hop4 hnl hL hBa htx hzr hZ hp120 hw hat (by have := hop4.1; omega) hm32 t13) hr1 rfl rfl rfl rfl (by decide) (Nat.le_of_ble_eq_true rfl) ?_
              intro v9 M1 h9
              obtain ⟨rfl, e1, e1b, ⟨ff, e2, e2f⟩, e3, ⟨v8, e4, e4v⟩, e5⟩ := h9
              have hz1 : sub Z M1.1 := fun b o hb => e5 b o (hzr b o hb) (by have := zlt hZ hb; omega) (by have := zlt hZ hb; omega) (by have := zlt hZ hb; omega) (by have := zlt hZ hb; omega)
              have hq9 : rdQ Z M M1 a tx L (pStep1 L P) := ⟨⟨dp + 1, by rw [hst]; exact e1, fun e => by
                rw [hE2] at e
                rw [e2f e] at e2
                exact rdT_open (e := Mr.2) hT hx h4 e e1 e1b e2 e3 hMn (by omega) e4 (hz18 hz1) (hz18 hz1) (e4v e) e5⟩, fun b o hb h9 => e5 b o (hr3 b o hb h9) (by omega) (by omega) (by omega) (by omega), hmo.1⟩
              refine j_goto (tgt := 151) hC dX7_readAll_136 (by decide) ?_
              refine j_iinc_1 (v := nI (i + 1)) hC dX7_readAll_151 (nI_add _ _) (by decide) rfl ?_
              refine j_goto (tgt := 2) hC dX7_readAll_154 (by decide) ?_
              refine j_L (jle_s (jle_s (jle_n (jle_0)))) ?_
              exact ih _ (i + 1) _ (by omega) hq9 (it_step hw hat (by omega) hit) (by omega) (fun e => by have := hmo.2 e; have := hip hw; omega)
          · refine j_lookup (off := 99) (tgt := 139) hC dX7_readAll_40 (by decide +kernel) (by rw [hx]; decide +kernel) (by decide) ?_
            refine j_aload_n hC dX7_readAll_139 rfl (jrf_ref _) ?_
            have hrm : rkc L (pStep1 L P) + (0) ≤ rkc L P := by
              rw [hkc]; unfold rkc
              split
              · rename_i e; have := hmo.2 e; omega
              · omega
            have hrs : rks L (pStep1 L P) + (0) ≤ rks L P := by
              rw [hks]; unfold rks
              split
              · rename_i e; have := hmo.2 e; omega
              · omega
            refine j_less hrm hrs ?_
            cases hpo : pOp P with
            | nil =>
              have h0 : (pOp P).length = 0 := by rw [hpo]; rfl
              have hdp0 : dp = 0 := by omega
              subst hdp0
              refine c_Pv (kc := rkc L (pStep1 L P)) (ks := rks L (pStep1 L P)) hC kv_X7_61 dX7_readAll_140 (m_X7_closeBrackets_w hs9 t1 hBa) hr1 rfl rfl rfl rfl (by decide) (Nat.le_of_ble_eq_true rfl) ?_
              intro v9 M1 h9
              obtain ⟨rfl, e9⟩ := h9
              refine j_M e9 ?_
              have hq9 : rdQ Z M (jput Mr a (.inr (11, rdF a tx ((pσ P).1, false) 0))) a tx L (pStep1 L P) := rq_bad (stp_end hx h0) hr4 jput_at (fun b o hb h9 => (jput_ne (by omega)).trans (hr3 b o hb h9))
              refine j_goto (tgt := 151) hC dX7_readAll_143 (by decide) ?_
              refine j_iinc_1 (v := nI (i + 1)) hC dX7_readAll_151 (nI_add _ _) (by decide) rfl ?_
              refine j_goto (tgt := 2) hC dX7_readAll_154 (by decide) ?_
              refine j_L (jle_s (jle_s (jle_n (jle_0)))) ?_
              exact ih _ (i + 1) _ (by omega) hq9 (it_step hw hat (by omega) hit) (by omega) (fun e => by have := hmo.2 e; have := hip hw; omega)
            | cons i0 s =>
              have hdps : dp = s.length + 1 := by rw [t5, hpo]; rfl
              subst hdps
              have hi0 := (t9.2.1 i0 (by rw [hpo]; exact List.mem_cons_self)).1
              obtain ⟨x1, x2, x3⟩ := t7 i0 hi0
              obtain ⟨s0, q0, c0, x4, x5⟩ := id x3
              rw [zf_in (by omega)] at x4
              have ho9 : op s.length = nI i0 := by
                rw [t6 s.length (by omega), hpo, List.reverse_cons]
                have e8 : s.length = s.reverse.length := by rw [List.length_reverse]
                rw [e8, getD_appN]
              have hs4 : s.length < 4 := by have := hop4.1; omega
              refine c_Pv (kc := rkc L (pStep1 L P)) (ks := rks L (pStep1 L P)) hC kv_X7_61 dX7_readAll_140 (m_X7_closeBrackets (i0 := i0) (e := xp i0) hs9 t1 t3 t4 t2 hs4 ho9 hi0 (by omega) hL x1 x4 hBa (by omega) hp120) hr1 rfl rfl rfl rfl (by decide) (Nat.le_of_ble_eq_true rfl) ?_
              intro v9 M1 h9
              obtain ⟨rfl, e1, e2, e5⟩ := h9
              rw [hw] at e1
              have hst : pσ (pStep1 L P) = ((pσ P).1 + 1, true) := by rw [pStep1, if_neg (by omega), if_pos hx, hpo]
              have hq9 : rdQ Z M M1 a tx L (pStep1 L P) := ⟨⟨s.length, by rw [hst]; exact e1, fun _ => ⟨_, _, _, rdT_close hT hpo hx e1 (fun fs h9 => by rw [x4] at h9; cases h9; exact e2) e5⟩⟩, fun b o hb h9 => e5 b o (hr3 b o hb h9) (by omega) (by omega), hmo.1⟩
              refine j_goto (tgt := 151) hC dX7_readAll_143 (by decide) ?_
              refine j_iinc_1 (v := nI (i + 1)) hC dX7_readAll_151 (nI_add _ _) (by decide) rfl ?_
              refine j_goto (tgt := 2) hC dX7_readAll_154 (by decide) ?_
              refine j_L (jle_s (jle_s (jle_n (jle_0)))) ?_
              exact ih _ (i + 1) _ (by omega) hq9 (it_step hw hat (by omega) hit) (by omega) (fun e => by have := hmo.2 e; have := hip hw; omega)
          · refine j_lookup (off := 78) (tgt := 118) hC dX7_readAll_40 (by decide +kernel) (by rw [hx]; decide +kernel) (by decide) ?_
            refine j_aload_n hC dX7_readAll_118 rfl (jrf_ref _) ?_
            have hrm : rkc L (pStep1 L P) + (1) ≤ rkc L P := by
              rw [hkc]; unfold rkc
              split
              · rename_i e; have := hmo.2 e; omega
              · omega
            have hrs : rks L (pStep1 L P) + (11) ≤ rks L P := by
              rw [hks]; unfold rks
              split
              · rename_i e; have := hmo.2 e; omega
              · omega
            refine j_less hrm hrs ?_
            have hkd : pKind (pC L (pσ P).1) = some 3 := by rw [hx]; decide
            refine c_Pv (kc := rkc L (pStep1 L P)) (ks := rks L (pStep1 L P)) hC kv_X7_52 dX7_readAll_119 (m_X7_readBraces hs9 t1 t3 t4 t2 hop4 hnl hL hBa htx hzr hZ hp120 hw hm32) hr1 rfl rfl rfl rfl (by decide) (Nat.le_of_ble_eq_true rfl) ?_
            intro v9 M1 h9
            obtain ⟨rfl, e1, e2, e3, ⟨sg, e4, e4s⟩, e5⟩ := h9
            have hz1 : sub Z M1.1 := fun b o hb => e5 b o (hzr b o hb) (by have := zlt hZ hb; omega) (by have := zlt hZ hb; omega) (by have := zlt hZ hb; omega)
            have hq9 : rdQ Z M M1 a tx L (pStep1 L P) := ⟨⟨dp, by rw [stp_item hkd]; exact e1, fun e => by
              have e9 : (pEndσ L 3 (pσ P).1).2 = true := by rw [stp_item hkd] at e; exact e
              exact rdT_item (k := 3) (e := Mr.2) hT hkd e9 e1 e2 rfl e3 hMn (by omega) e4 rfl rfl (by rw [e4s e9]; rfl) (hz18 hz1) (hz18 hz1) e5⟩, fun b o hb h9 => e5 b o (hr3 b o hb h9) (by omega) (by omega) (by omega), hmo.1⟩
            refine j_goto (tgt := 151) hC dX7_readAll_122 (by decide) ?_
            refine j_iinc_1 (v := nI (i + 1)) hC dX7_readAll_151 (nI_add _ _) (by decide) rfl ?_
            refine j_goto (tgt := 2) hC dX7_readAll_154 (by decide) ?_
            refine j_L (jle_s (jle_s (jle_n (jle_0)))) ?_
            exact ih _ (i + 1) _ (by omega) hq9 (it_step hw hat (by omega) hit) (by omega) (fun e => by have := hmo.2 e; have := hip hw; omega)
          · refine j_lookup (off := 106) (tgt := 146) hC dX7_readAll_40 (by decide +kernel) hx (by decide) ?_
            have hn1 : ¬ pC L (pσ P).1 = 35 := fun e => by rw [e] at hx; exact absurd hx (by decide +kernel)
            have hn60 : ¬ pC L (pσ P).1 = 60 := fun e => by rw [e] at hx; exact absurd hx (by decide +kernel)
            have hn64 : ¬ pC L (pσ P).1 = 64 := fun e => by rw [e] at hx; exact absurd hx (by decide +kernel)
            have hn91 : ¬ pC L (pσ P).1 = 91 := fun e => by rw [e] at hx; exact absurd hx (by decide +kernel)
            have hn93 : ¬ pC L (pσ P).1 = 93 := fun e => by rw [e] at hx; exact absurd hx (by decide +kernel)
            have hn123 : ¬ pC L (pσ P).1 = 123 := fun e => by rw [e] at hx; exact absurd hx (by decide +kernel)
            refine j_aload_n hC dX7_readAll_146 rfl (jrf_ref _) ?_
            refine j_iload_n hC dX7_readAll_147 rfl ?_
            have hrm : rkc L (pStep1 L P) + (1) ≤ rkc L P := by
              rw [hkc]; unfold rkc
              split
              · rename_i e; have := hmo.2 e; omega
              · omega
            have hrs : rks L (pStep1 L P) + (11) ≤ rks L P := by
              rw [hks]; unfold rks
              split
              · rename_i e; have := hmo.2 e; omega
              · omega
            refine j_less hrm hrs ?_
            refine c_Pv (kc := rkc L (pStep1 L P)) (ks := rks L (pStep1 L P)) hC kv_X7_64 dX7_readAll_148 (m_X7_readLiteral (c := pC L (pσ P).1) hs9 t1 t3 t4 t2 hop4 hnl hL hBa htx hzr hZ hp120 hw hk19 hc7) hr1 rfl rfl rfl rfl (by decide) (Nat.le_of_ble_eq_true rfl) ?_
            intro v9 M1 h9
            obtain ⟨rfl, hor⟩ := h9
            have hq9 : rdQ Z M M1 a tx L (pStep1 L P) := by
              rcases hor with ⟨hnl9, e1, e5⟩ | ⟨hl9, e1, e2, e3, e4, e5⟩
              · exact rq_bad (stp_bad hn91 hn93 (pk_no hnl9 hn1 hn64 hn123 hn60)) hr4 e1 (fun b o hb h9 => e5 b o (hr3 b o hb h9) (by omega))
              · have hkd := pk_lit hl9
                have hz1 : sub Z M1.1 := fun b o hb => e5 b o (hzr b o hb) (by have := zlt hZ hb; omega) (by have := zlt hZ hb; omega) (by have := zlt hZ hb; omega)
                exact ⟨⟨dp, by rw [stp_item hkd]; exact e1, fun _ => rdT_item (k := 0) (e := Mr.2) hT hkd rfl e1 e2 rfl e3 hMn (by omega) e4 rfl rfl rfl (hz18 hz1) (hz18 hz1) e5⟩, fun b o hb h9 => e5 b o (hr3 b o hb h9) (by omega) (by omega) (by omega), hmo.1⟩
            refine j_iinc_1 (v := nI (i + 1)) hC dX7_readAll_151 (nI_add _ _) (by decide) rfl ?_
            refine j_goto (tgt := 2) hC dX7_readAll_154 (by decide) ?_
            refine j_L (jle_s (jle_s (jle_n (jle_0)))) ?_
            exact ih _ (i + 1) _ (by omega) hq9 (it_step hw hat (by omega) hit) (by omega) (fun e => by have := hmo.2 e; have := hip hw; omega)
theorem rdT_0 {Z : jH} {M : jM} {a tx : Nat} {L : List Nat} (h1 : M.1 a = some (.inr (11, rdF a tx (0, true) 0))) (h2 : M.1 (a + 3) = some (.inl (.int, 4, fun j => .int ((fun _ => (0 : Int32)) j)))) (h3 : M.1 (a + 4) = some (.inr (6, lyF a L 0 0 0 0))) (h4 : M.1 (a + 5) = some (.inl (.object RX4, L.length, fun _ => .null))) : rdQ Z M M a tx L pP0 :=
  ⟨⟨0, h1, fun _ => ⟨_, _, fun _ => 0, h1, h2, h3, h4, rfl, fun k hk => absurd hk (Nat.not_lt_zero k), fun i hi => absurd hi (Nat.not_lt_zero i), fun i j _ hj => absurd hj (Nat.not_lt_zero j), wf_0, Nat.le_refl _, Nat.zero_le _, rfl, Nat.zero_le _⟩⟩, fun _ _ _ h => h, Nat.zero_le _⟩
theorem rdT.lay {Z : jH} {M : jM} {a tx dp : Nat} {L : List Nat} {op : Nat → Int32} {g : Nat → Value} {xp : Nat → Nat} (h : rdT Z M a tx dp L (pEnd L) op g xp) (hL : L.length ≤ 120) (hc : ∀ c ∈ L, 32 ≤ c ∧ c ≤ 126) (hk : pOK L = true) : layR (zf Z M.1 a) (a + 4) L := by
  obtain ⟨h1, h2, h3, h4, -, -, h7, -⟩ := h
  have e : mskT L = mskP (pEnd L) := by
    unfold mskT tmA mskP
    rw [if_neg (by decide), if_neg (by decide), if_neg (by decide), if_pos rfl]
  rw [← e] at h3
  exact ⟨⟨a + 5, g, (zf_in (by omega)).trans h3, (zf_in (by omega)).trans h4, fun i hi => ⟨xp i, (h7 i hi).1, (h7 i hi).2.2⟩⟩, hL, hc, hk⟩
set_option maxHeartbeats 4000000 in
set_option maxRecDepth 100000 in
theorem m_X7_init {G : jG} {M : jM} {a tx : Nat} {L : List Nat} {Z : jH} {v0 v1 v2 v3 v4 v5 : Value} (hs : (gL G).stackTraces = false) (h1 : M.1 a = some (.inr (11, [v0, v1, v2, v3, v4, v5]))) (haM : M.2 = a + 3) (htx : strR Z tx L) (hz : sub Z M.1) (hZ : ∀ b, a ≤ b → b ≠ a + 1 → b ≠ a + 2 → Z b = none) (hBa : gB G ≤ a) (hL : L.length ≤ 120) : JMet G jX7_init [.ref a, .ref tx] (M) 3 (10 + L.length) 3 (fun w M' => w = none ∧ M'.1 a = some (.inr (11, rdF a tx (0, true) 0)) ∧ M'.1 (a + 3) = some (.inl (.int, 4, fun j => .int ((fun _ => (0 : Int32)) j))) ∧ M'.1 (a + 4) = some (.inr (6, lyF a L 0 0 0 0)) ∧ M'.1 (a + 5) = some (.inl (.object RX4, L.length, fun _ => .null)) ∧ kept M M' (fun b => b = a) ∧ M'.2 = M.2 + 3) jNo := by
  refine jMet_of [some (.ref (a)), some (.ref (tx))] (by decide) rfl (Nat.le_of_ble_eq_true rfl) (rfl) hs ?_
  intro C hC9 hG
  have hC := hC9.z
  have hs9 := jOK0_tr hC
  refine j_lt (fun hlt => ?_)
  have hBg : jB C = gB G := by rw [jB, hG]
  subst hG
  have hza : Z a = none := hZ _ (Nat.le_refl _) (by omega) (by omega)
  have hZM : Z M.2 = none := hZ _ (by omega) (by omega) (by omega)
  have hZM1 : Z (M.2 + 1) = none := hZ _ (by omega) (by omega) (by omega)
  have hL5 := htx.2.1
  refine j_aload_n hC dX7_init_0 rfl (jrf_ref _) ?_
  refine j_obj hC ko_X7_3 ko_i ko_c dX7_init_1 (by decide) (Nat.le_of_ble_eq_true rfl) ?_
  refine j_aload_n hC dX7_init_4 rfl (jrf_ref _) ?_
  refine j_iconst (v := nI 0) hC dX7_init_5 (by decide) ?_
  refine c_put (fs' := [v0, .int (nI (0)), v2, v3, v4, v5]) hC kp_X7_9 dX7_init_6 (h1) (by omega) (rfl) (rfl) rfl ?_
  refine j_aload_n hC dX7_init_9 rfl (jrf_ref _) ?_
  refine j_iconst (v := nI 4) hC dX7_init_10 (by decide) ?_
  refine j_less2 ((6 + L.length) + 4) (by omega) ?_
  refine c_newa_int (kc := 2) (ks := 6 + L.length) (N := 4) hC dX7_init_11 (by decide) ?_
  refine j_topV (show Value.ref _ = Value.ref (a + 3) from congrArg Value.ref (show M.2 = a + 3 from haM)) ?_
  refine c_putF (fs' := [v0, .int (nI (0)), v2, .ref (a + 3), v4, v5]) hC kp_X7_15 rfl dX7_init_13 ((jnew_ne (by show (a) ≠ M.2; omega)).trans (jput_at)) (by omega) (rfl) (rfl) rfl ?_
  refine j_aload_n hC dX7_init_16 rfl (jrf_ref _) ?_
  refine j_iconst (v := nI 0) hC dX7_init_17 (by decide) ?_
  refine c_put2 (fs' := [v0, .int (nI (0)), v2, .ref (a + 3), .int (nI (0)), v5]) hC kp_X7_19 dX7_init_18 (by omega) (rfl) (rfl) rfl ?_
  refine j_aload_n hC dX7_init_21 rfl (jrf_ref _) ?_
  refine j_iconst (v := nI 0) hC dX7_init_22 (by decide) ?_
  refine c_put2 (fs' := [v0, .int (nI (0)), v2, .ref (a + 3), .int (nI (0)), .int (nI (0))]) hC kp_X7_22 dX7_init_23 (by omega) (by decide) (by decide) rfl ?_
  refine j_aload_n hC dX7_init_26 rfl (jrf_ref _) ?_
  refine j_aload_n hC dX7_init_27 rfl (jrf_ref _) ?_
  refine c_putF2 (fs' := [v0, .int (nI (0)), .ref (tx), .ref (a + 3), .int (nI (0)), .int (nI (0))]) hC kp_X7_26 rfl dX7_init_28 (by omega) (rfl) (rfl) rfl ?_
  refine j_aload_n hC dX7_init_31 rfl (jrf_ref _) ?_
  refine j_less2 ((0 + L.length) + 6) (by omega) ?_
  refine c_new (kc := 1) (ks := 0 + L.length) hC kn_X7_30 dX7_init_32 rfl ?_
  refine j_topV (show Value.ref _ = Value.ref (a + 4) from congrArg Value.ref (show M.2 + 1 = a + 4 by omega)) ?_
  refine j_dup hC dX7_init_35 rfl ?_
  refine j_aload_n hC dX7_init_36 rfl (jrf_ref _) ?_
  refine c_V hC kv_X7_32 dX7_init_37 (m_J0_length_8abf5 hs9 (htx.mono (sub_new (by exact hZM1) (sub_put (hza) (sub_new (by exact hZM) (sub_put (hza) hz)))))) ((htx.mono (sub_new (by exact hZM1) (sub_put (hza) (sub_new (by exact hZM) (sub_put (hza) hz))))).obj.choose_spec) rfl rfl rfl rfl (by decide) (Nat.le_of_ble_eq_true rfl) ?_
  refine c_Pi (kc := 0) (ks := 0) hC ki_X7_38 dX7_init_40 (m_X2_init (n := L.length) hs9 (if_pos (show a + 4 = M.2 + 1 by omega)) (by omega) (by omega)) rfl rfl (by decide) (Nat.le_of_ble_eq_true rfl) ?_
  intro v9 M1 h9
  obtain ⟨rfl, e1, e2, e3, e4⟩ := h9
  replace e3 : M1.2 = M.2 + 2 + 1 := e3
  replace e1 : M1.1 (a + 4) = some (.inr (6, [.int (nI L.length), .ref (M.2 + 2), .int (nI 0), .int (nI 0), .int (nI 0), .int (nI 0)])) := e1
  replace e2 : M1.1 (M.2 + 2) = some (.inl (.object RX4, L.length, fun _ => .null)) := e2
  rw [show M.2 + 2 = a + 5 by omega] at e1 e2
  refine c_putF (fs' := [.ref (a + 4), .int (nI (0)), .ref (tx), .ref (a + 3), .int (nI (0)), .int (nI (0))]) hC kp_X7_41 rfl dX7_init_43 ((e4 _ (by omega) (by show _ ≠ M.2 + 2; omega)).trans ((jnew_ne (by show (a) ≠ M.2 + 1; omega)).trans (jput_at))) (by omega) (rfl) (rfl) rfl ?_
  exact j_vret hC9 rfl dX7_init_46 (⟨rfl, jput_at, (jput_ne (by show (a + 3) ≠ (a); omega)).trans ((e4 _ (by omega) (by show _ ≠ M.2 + 2; omega)).trans ((jnew_ne (by show (a + 3) ≠ M.2 + 1; omega)).trans ((jput_ne (by show (a + 3) ≠ (a); omega)).trans (if_pos (show a + 3 = M.2 by omega))))), (jput_ne (by show (a + 4) ≠ (a); omega)).trans (e1), (jput_ne (show a + 5 ≠ a by omega)).trans e2, fun a9 o9 ha9 hn9 => by
  have hl9 := hlt _ _ ha9
  have hn8 : a9 ≠ a := hn9
  exact (jput_ne (by show (a9) ≠ (a); omega)).trans ((e4 _ (by omega) (by show _ ≠ M.2 + 2; omega)).trans ((jnew_ne (by show (a9) ≠ M.2 + 1; omega)).trans ((jput_ne (by show (a9) ≠ (a); omega)).trans ((jnew_ne (by show (a9) ≠ M.2; omega)).trans ((jput_ne (by show (a9) ≠ (a); omega)).trans (ha9)))))), by show M1.2 = _; omega⟩)
