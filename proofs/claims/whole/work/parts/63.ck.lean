theorem am_bit {S : aSet} {q : aRec} {i : Nat} (hi : i < 5) : (¬ amask S q / 2 ^ i % 2 = 0) ↔ isLineA S q i = true := by
  unfold amask
  simp only [maskA, sumTo, isLineA]
  rcases (show i = 0 ∨ i = 1 ∨ i = 2 ∨ i = 3 ∨ i = 4 by omega) with rfl | rfl | rfl | rfl | rfl <;> by_cases h : isHomeA S q = true <;> by_cases h0 : 0 < (q.2.2 0).length <;> by_cases h1 : 0 < (q.2.2 1).length <;> by_cases h2 : 0 < (q.2.2 2).length <;> by_cases h3 : 0 < (q.2.2 3).length <;> by_cases h4 : 0 < (q.2.2 4).length <;> simp only [h, h0, h1, h2, h3, h4] <;> decide
theorem popc_0 : ∀ m, m < 32 → (m = 0 ↔ popc m = 0) := by decide
theorem am_0 {S : aSet} {q : aRec} : amask S q = 0 ↔ linesA S q = 0 := by rw [popc_0 _ amask_32, popc_amask]
section PA
variable {S : aSet} {q : aRec} {i lim : Nat} {X : List Nat × Bool}
theorem adr_n (h : ¬ isLineA S q i = true) : adrT S q (i + 1) = adrT S q i := if_neg h
theorem adr_1 (h : isLineA S q i = true) (h0 : cntTo (isLineA S q) i = 0) : putsS lim (putsS lim X (adrT S q i)) (q.2.2 i) = putsS lim X (adrT S q (i + 1)) := by
  rw [show adrT S q (i + 1) = (adrT S q i ++ if cntTo (isLineA S q) i = 0 then [] else [47]) ++ q.2.2 i from if_pos h, if_pos h0, List.append_nil, puts_app]
theorem adr_2 (h : isLineA S q i = true) (h0 : ¬ cntTo (isLineA S q) i = 0) : putsS lim (putS lim (putsS lim X (adrT S q i)) 47) (q.2.2 i) = putsS lim X (adrT S q (i + 1)) := by
  rw [show adrT S q (i + 1) = (adrT S q i ++ if cntTo (isLineA S q) i = 0 then [] else [47]) ++ q.2.2 i from if_pos h, if_neg h0, puts_app, puts_app]
  rfl
theorem cnt_n (h : ¬ isLineA S q i = true) : cntTo (isLineA S q) (i + 1) = cntTo (isLineA S q) i := congrArg (cntTo (isLineA S q) i + ·) (if_neg h)
theorem cnt_y (h : isLineA S q i = true) : ¬ cntTo (isLineA S q) (i + 1) = 0 := by
  rw [show cntTo (isLineA S q) (i + 1) = cntTo (isLineA S q) i + 1 from congrArg (cntTo (isLineA S q) i + ·) (if_pos h)]
  omega
theorem adr_0 : ∀ n, cntTo (isLineA S q) n = 0 → adrT S q n = []
  | 0, _ => rfl
  | n + 1, h => by
    by_cases e : isLineA S q n = true
    · exact absurd h (cnt_y e)
    · rw [adr_n e]
      rw [cnt_n e] at h
      exact adr_0 n h
end PA
set_option maxHeartbeats 4000000 in
set_option maxRecDepth 100000 in
theorem m_X6_putAddress {G : jG} {M : jM} {a k r lim : Nat} {X : List Nat × Bool} {ch : Nat → Int32} {e : Nat} {S : aSet} {q : aRec} {Z : jH} (hs : (gL G).stackTraces = false) (h : shS M.1 a X k r lim ch) (he : entR Z e q) (hz : sub Z M.1) (hz3 : zn3 Z a) (hlim : lim ≤ 200) (hBa : gB G ≤ a) : JMet G jX6_putAddress [.ref a, .ref e, .int (nI (amask S q))] (M) 0 0 5 (fun v M' => v = none ∧ shS M'.1 a (putsS lim X (adrT S q 5)) k (if linesA S q = 0 then 3 else r) lim ch ∧ on3 M M' a) jNo := by
  refine jMet_of [some (.ref (a)), some (.ref (e)), some (.int (nI (amask S q))), none, none] (by decide) rfl (Nat.le_of_ble_eq_true rfl) (rfl) hs ?_
  intro C hC9 hG
  have hC := hC9.z
  have hs9 := jOK0_tr hC
  refine j_lt (fun hlt => ?_)
  have hBg : jB C = gB G := by rw [jB, hG]
  subst hG
  obtain ⟨⟨b9, x9, y1, y2, y3⟩, y4⟩ := id he
  have hm32 := amask_32 (S := S) (q := q)
  refine j_iload_n hC dX6_putAddress_0 rfl ?_
  refine n_if_ne (tgt := 9) hC dX6_putAddress_1 (by decide) (by omega) (fun c1 => ?_) (fun c1 => ?_)
  · have h9 : shS M.1 a X k (if linesA S q = 0 then 3 else r) lim ch := by rw [if_neg (fun e => absurd (am_0.mpr e) (by omega))]; exact h
    refine j_iconst (v := nI 1) hC dX6_putAddress_9 (by decide) ?_
    refine j_istore_n3 hC dX6_putAddress_10 (by decide) rfl ?_
    rw [show nI 1 = jb (cntTo (isLineA S q) 0 = 0) from rfl]
    refine j_iconst (v := nI 0) hC dX6_putAddress_11 (by decide) ?_
    refine j_istore_4 hC dX6_putAddress_12 (by decide) rfl ?_
    suffices K : ∀ (n9 : Nat) (Mr : jM) (i : Nat), 5 - i < n9 → (i ≤ 5) → (shS Mr.1 a (putsS lim X (adrT S q i)) k (if linesA S q = 0 then 3 else r) lim ch) → (on3 M Mr a) → (sub Z Mr.1) → J C (Mr) 0 0 14 [some (.ref (a)), some (.ref (e)), some (.int (nI (amask S q))), some (.int (jb (cntTo (isLineA S q) i = 0))), some (.int (nI (i)))] [] from (K _ (M) (0) (Nat.lt_succ_self _) (Nat.zero_le _) (h9) (on3_refl) (hz))
    intro n9
    induction n9 with
    | zero => intro Mr i hm; omega
    | succ n9 ih =>
      intro Mr i hm hi hsh hfr hzr
      refine j_iload hC dX6_putAddress_14 rfl ?_
      refine j_iconst (v := nI 5) hC dX6_putAddress_16 (by decide) ?_
      refine n_icmp_ge (tgt := 63) hC dX6_putAddress_17 (by decide) (by omega) (by omega) (fun c2 => ?_) (fun c2 => ?_)
      · exact j_vret hC9 rfl dX6_putAddress_63 (⟨rfl, by rw [show (5 : Nat) = i by omega]; exact hsh, hfr⟩)
      · refine j_iload_n hC dX6_putAddress_20 rfl ?_
        refine j_iload hC dX6_putAddress_21 rfl ?_
        refine j_ishr hC dX6_putAddress_23 ?_
        refine j_iconst (v := nI 1) hC dX6_putAddress_24 (by decide) ?_
        refine j_iand hC dX6_putAddress_25 ?_
        refine j_top (sh_bit (by omega) (by omega)) ?_
        refine n_if_ne (tgt := 32) hC dX6_putAddress_26 (by decide) (by omega) (fun c3 => ?_) (fun c3 => ?_)
        · have hl1 : isLineA S q i = true := (am_bit (by omega)).mp (by assumption)
          refine j_iload_n hC dX6_putAddress_32 rfl ?_
          refine jb_if_ne (tgt := 42) hC dX6_putAddress_33 (by decide) (fun c4 => ?_) (fun c4 => ?_)
          · refine j_iconst (v := nI 0) hC dX6_putAddress_42 (by decide) ?_
            refine j_top (jb_f0 (cnt_y hl1)) ?_
            refine j_istore_n3 hC dX6_putAddress_43 (by decide) rfl ?_
            refine j_aload_n hC dX6_putAddress_44 rfl (jrf_ref _) ?_
            refine j_aload_n hC dX6_putAddress_45 rfl (jrf_ref _) ?_
            refine j_iload hC dX6_putAddress_46 rfl ?_
            obtain ⟨s9, t1, t2⟩ := y3 (i) (by omega)
            have t3 := (y4.2.2 (i) (by omega)).1
            refine c_V hC kv_X6_109 dX6_putAddress_48 (m_X1_textAt0 (f := i) hs9 (hzr _ _ y1) (hzr _ _ y2) (by omega)) (hzr _ _ y1) rfl rfl rfl rfl (by decide) (Nat.le_of_ble_eq_true rfl) ?_
            refine j_get (v := .ref (s9)) hC kf_X6_154 dX6_putAddress_51 ((hzr _ _ t1)) (rfl) ?_
            refine c_Pv (kc := 0) (ks := 0) hC kv_X6_127 dX6_putAddress_54 (m_X6_putAll (Z := Z) hs9 hsh (t2) hzr hz3 hlim hBa) (hsh.1) rfl rfl rfl rfl (by decide) (Nat.le_of_ble_eq_true rfl) ?_
            intro v9 M5 h9
            obtain ⟨rfl, eM5, fM5⟩ := h9
            refine j_iinc_4 (v := nI (i + 1)) hC dX6_putAddress_57 (nI_add _ _) (by decide) rfl ?_
            refine j_goto (tgt := 14) hC dX6_putAddress_60 (by decide) ?_
            exact ih (M5) (i + 1) (by omega) (by omega) (by first | (rw [adr_n hl0]; exact eM5) | (rw [← adr_1 hl1 (by assumption)]; exact eM5) | (rw [← adr_2 hl1 (by assumption)]; exact eM5)) ((hfr.trans fM5)) ((fM5.sub hzr hz3))
          · refine j_aload_n hC dX6_putAddress_36 rfl (jrf_ref _) ?_
            refine j_bipush (v := nI 47) hC dX6_putAddress_37 (by decide) ?_
            refine c_Pv (kc := 0) (ks := 0) hC kv_X6_86 dX6_putAddress_39 (m_X6_put (c := 47) hs9 hsh (by omega) hlim hBa) (hsh.1) rfl rfl rfl rfl (by decide) (Nat.le_of_ble_eq_true rfl) ?_
            intro v9 M6 h9
            obtain ⟨rfl, eM6, fM6⟩ := h9
            refine j_iconst (v := nI 0) hC dX6_putAddress_42 (by decide) ?_
            refine j_top (jb_f0 (cnt_y hl1)) ?_
            refine j_istore_n3 hC dX6_putAddress_43 (by decide) rfl ?_
            refine j_aload_n hC dX6_putAddress_44 rfl (jrf_ref _) ?_
            refine j_aload_n hC dX6_putAddress_45 rfl (jrf_ref _) ?_
            refine j_iload hC dX6_putAddress_46 rfl ?_
            obtain ⟨s9, t1, t2⟩ := y3 (i) (by omega)
            have t3 := (y4.2.2 (i) (by omega)).1
            refine c_V hC kv_X6_109 dX6_putAddress_48 (m_X1_textAt0 (f := i) hs9 ((fM6.sub hzr hz3) _ _ y1) ((fM6.sub hzr hz3) _ _ y2) (by omega)) ((fM6.sub hzr hz3) _ _ y1) rfl rfl rfl rfl (by decide) (Nat.le_of_ble_eq_true rfl) ?_
            refine j_get (v := .ref (s9)) hC kf_X6_154 dX6_putAddress_51 (((fM6.sub hzr hz3) _ _ t1)) (rfl) ?_
            refine c_Pv (kc := 0) (ks := 0) hC kv_X6_127 dX6_putAddress_54 (m_X6_putAll (Z := Z) hs9 eM6 (t2) (fM6.sub hzr hz3) hz3 hlim hBa) (eM6.1) rfl rfl rfl rfl (by decide) (Nat.le_of_ble_eq_true rfl) ?_
            intro v9 M7 h9
            obtain ⟨rfl, eM7, fM7⟩ := h9
            refine j_iinc_4 (v := nI (i + 1)) hC dX6_putAddress_57 (nI_add _ _) (by decide) rfl ?_
            refine j_goto (tgt := 14) hC dX6_putAddress_60 (by decide) ?_
            exact ih (M7) (i + 1) (by omega) (by omega) (by first | (rw [adr_n hl0]; exact eM7) | (rw [← adr_1 hl1 (by assumption)]; exact eM7) | (rw [← adr_2 hl1 (by assumption)]; exact eM7)) (((hfr.trans fM6).trans fM7)) ((fM7.sub (fM6.sub hzr hz3) hz3))
        · have hl0 : ¬ isLineA S q i = true := fun e => absurd (by assumption) ((am_bit (by omega)).mpr e)
          rw [show jb (cntTo (isLineA S q) i = 0) = jb (cntTo (isLineA S q) (i + 1) = 0) from jb_congr (by rw [cnt_n hl0])]
          refine j_goto (tgt := 57) hC dX6_putAddress_29 (by decide) ?_
          refine j_iinc_4 (v := nI (i + 1)) hC dX6_putAddress_57 (nI_add _ _) (by decide) rfl ?_
          refine j_goto (tgt := 14) hC dX6_putAddress_60 (by decide) ?_
          exact ih (Mr) (i + 1) (by omega) (by omega) (by first | (rw [adr_n hl0]; exact hsh) | (rw [← adr_1 hl1 (by assumption)]; exact hsh) | (rw [← adr_2 hl1 (by assumption)]; exact hsh)) (hfr) (hzr)
  · refine j_aload_n hC dX6_putAddress_4 rfl (jrf_ref _) ?_
    refine j_iconst (v := nI 3) hC dX6_putAddress_5 (by decide) ?_
    refine c_put (fs' := [.ref (a + 1), .ref (a + 2), .int (nI (X).1.length), .int (nI (k)), .int (nI (3)), .int (nI (lim)), .int (jb ((X).2 = true))]) hC kp_X6_26 dX6_putAddress_6 (h.1) (by omega) (rfl) (rfl) rfl ?_
    have h9 : shS (jput (M) (a) (.inr (10, [.ref (a + 1), .ref (a + 2), .int (nI (X).1.length), .int (nI (k)), .int (nI (3)), .int (nI (lim)), .int (jb ((X).2 = true))]))).1 a X k (if linesA S q = 0 then 3 else r) lim ch := by rw [if_pos (am_0.mp (by omega))]; exact shS_r h
    refine j_iconst (v := nI 1) hC dX6_putAddress_9 (by decide) ?_
    refine j_istore_n3 hC dX6_putAddress_10 (by decide) rfl ?_
    rw [show nI 1 = jb (cntTo (isLineA S q) 0 = 0) from rfl]
    refine j_iconst (v := nI 0) hC dX6_putAddress_11 (by decide) ?_
    refine j_istore_4 hC dX6_putAddress_12 (by decide) rfl ?_
    suffices K : ∀ (n9 : Nat) (Mr : jM) (i : Nat), 5 - i < n9 → (i ≤ 5) → (shS Mr.1 a (putsS lim X (adrT S q i)) k (if linesA S q = 0 then 3 else r) lim ch) → (on3 M Mr a) → (sub Z Mr.1) → J C (Mr) 0 0 14 [some (.ref (a)), some (.ref (e)), some (.int (nI (amask S q))), some (.int (jb (cntTo (isLineA S q) i = 0))), some (.int (nI (i)))] [] from (K _ (jput (M) (a) (.inr (10, [.ref (a + 1), .ref (a + 2), .int (nI (X).1.length), .int (nI (k)), .int (nI (3)), .int (nI (lim)), .int (jb ((X).2 = true))]))) (0) (Nat.lt_succ_self _) (Nat.zero_le _) (h9) (on3_put) ((on3_put.sub hz hz3)))
    intro n9
    induction n9 with
    | zero => intro Mr i hm; omega
    | succ n9 ih =>
      intro Mr i hm hi hsh hfr hzr
      refine j_iload hC dX6_putAddress_14 rfl ?_
      refine j_iconst (v := nI 5) hC dX6_putAddress_16 (by decide) ?_
      refine n_icmp_ge (tgt := 63) hC dX6_putAddress_17 (by decide) (by omega) (by omega) (fun c8 => ?_) (fun c8 => ?_)
      · exact j_vret hC9 rfl dX6_putAddress_63 (⟨rfl, by rw [show (5 : Nat) = i by omega]; exact hsh, hfr⟩)
      · refine j_iload_n hC dX6_putAddress_20 rfl ?_
        refine j_iload hC dX6_putAddress_21 rfl ?_
        refine j_ishr hC dX6_putAddress_23 ?_
        refine j_iconst (v := nI 1) hC dX6_putAddress_24 (by decide) ?_
        refine j_iand hC dX6_putAddress_25 ?_
        refine j_top (sh_bit (by omega) (by omega)) ?_
        refine n_if_ne (tgt := 32) hC dX6_putAddress_26 (by decide) (by omega) (fun c9 => ?_) (fun c9 => ?_)
        · have hl1 : isLineA S q i = true := (am_bit (by omega)).mp (by assumption)
          refine j_iload_n hC dX6_putAddress_32 rfl ?_
          refine jb_if_ne (tgt := 42) hC dX6_putAddress_33 (by decide) (fun c10 => ?_) (fun c10 => ?_)
          · refine j_iconst (v := nI 0) hC dX6_putAddress_42 (by decide) ?_
            refine j_top (jb_f0 (cnt_y hl1)) ?_
            refine j_istore_n3 hC dX6_putAddress_43 (by decide) rfl ?_
            refine j_aload_n hC dX6_putAddress_44 rfl (jrf_ref _) ?_
            refine j_aload_n hC dX6_putAddress_45 rfl (jrf_ref _) ?_
            refine j_iload hC dX6_putAddress_46 rfl ?_
            obtain ⟨s9, t1, t2⟩ := y3 (i) (by omega)
            have t3 := (y4.2.2 (i) (by omega)).1
            refine c_V hC kv_X6_109 dX6_putAddress_48 (m_X1_textAt0 (f := i) hs9 (hzr _ _ y1) (hzr _ _ y2) (by omega)) (hzr _ _ y1) rfl rfl rfl rfl (by decide) (Nat.le_of_ble_eq_true rfl) ?_
            refine j_get (v := .ref (s9)) hC kf_X6_154 dX6_putAddress_51 ((hzr _ _ t1)) (rfl) ?_
            refine c_Pv (kc := 0) (ks := 0) hC kv_X6_127 dX6_putAddress_54 (m_X6_putAll (Z := Z) hs9 hsh (t2) hzr hz3 hlim hBa) (hsh.1) rfl rfl rfl rfl (by decide) (Nat.le_of_ble_eq_true rfl) ?_
            intro v9 M11 h9
            obtain ⟨rfl, eM11, fM11⟩ := h9
            refine j_iinc_4 (v := nI (i + 1)) hC dX6_putAddress_57 (nI_add _ _) (by decide) rfl ?_
            refine j_goto (tgt := 14) hC dX6_putAddress_60 (by decide) ?_
            exact ih (M11) (i + 1) (by omega) (by omega) (by first | (rw [adr_n hl0]; exact eM11) | (rw [← adr_1 hl1 (by assumption)]; exact eM11) | (rw [← adr_2 hl1 (by assumption)]; exact eM11)) ((hfr.trans fM11)) ((fM11.sub hzr hz3))
          · refine j_aload_n hC dX6_putAddress_36 rfl (jrf_ref _) ?_
            refine j_bipush (v := nI 47) hC dX6_putAddress_37 (by decide) ?_
            refine c_Pv (kc := 0) (ks := 0) hC kv_X6_86 dX6_putAddress_39 (m_X6_put (c := 47) hs9 hsh (by omega) hlim hBa) (hsh.1) rfl rfl rfl rfl (by decide) (Nat.le_of_ble_eq_true rfl) ?_
            intro v9 M12 h9
            obtain ⟨rfl, eM12, fM12⟩ := h9
            refine j_iconst (v := nI 0) hC dX6_putAddress_42 (by decide) ?_
            refine j_top (jb_f0 (cnt_y hl1)) ?_
            refine j_istore_n3 hC dX6_putAddress_43 (by decide) rfl ?_
            refine j_aload_n hC dX6_putAddress_44 rfl (jrf_ref _) ?_
            refine j_aload_n hC dX6_putAddress_45 rfl (jrf_ref _) ?_
            refine j_iload hC dX6_putAddress_46 rfl ?_
            obtain ⟨s9, t1, t2⟩ := y3 (i) (by omega)
            have t3 := (y4.2.2 (i) (by omega)).1
            refine c_V hC kv_X6_109 dX6_putAddress_48 (m_X1_textAt0 (f := i) hs9 ((fM12.sub hzr hz3) _ _ y1) ((fM12.sub hzr hz3) _ _ y2) (by omega)) ((fM12.sub hzr hz3) _ _ y1) rfl rfl rfl rfl (by decide) (Nat.le_of_ble_eq_true rfl) ?_
            refine j_get (v := .ref (s9)) hC kf_X6_154 dX6_putAddress_51 (((fM12.sub hzr hz3) _ _ t1)) (rfl) ?_
            refine c_Pv (kc := 0) (ks := 0) hC kv_X6_127 dX6_putAddress_54 (m_X6_putAll (Z := Z) hs9 eM12 (t2) (fM12.sub hzr hz3) hz3 hlim hBa) (eM12.1) rfl rfl rfl rfl (by decide) (Nat.le_of_ble_eq_true rfl) ?_
            intro v9 M13 h9
            obtain ⟨rfl, eM13, fM13⟩ := h9
            refine j_iinc_4 (v := nI (i + 1)) hC dX6_putAddress_57 (nI_add _ _) (by decide) rfl ?_
            refine j_goto (tgt := 14) hC dX6_putAddress_60 (by decide) ?_
            exact ih (M13) (i + 1) (by omega) (by omega) (by first | (rw [adr_n hl0]; exact eM13) | (rw [← adr_1 hl1 (by assumption)]; exact eM13) | (rw [← adr_2 hl1 (by assumption)]; exact eM13)) (((hfr.trans fM12).trans fM13)) ((fM13.sub (fM12.sub hzr hz3) hz3))
        · have hl0 : ¬ isLineA S q i = true := fun e => absurd (by assumption) ((am_bit (by omega)).mpr e)
          rw [show jb (cntTo (isLineA S q) i = 0) = jb (cntTo (isLineA S q) (i + 1) = 0) from jb_congr (by rw [cnt_n hl0])]
          refine j_goto (tgt := 57) hC dX6_putAddress_29 (by decide) ?_
          refine j_iinc_4 (v := nI (i + 1)) hC dX6_putAddress_57 (nI_add _ _) (by decide) rfl ?_
          refine j_goto (tgt := 14) hC dX6_putAddress_60 (by decide) ?_
          exact ih (Mr) (i + 1) (by omega) (by omega) (by first | (rw [adr_n hl0]; exact hsh) | (rw [← adr_1 hl1 (by assumption)]; exact hsh) | (rw [← adr_2 hl1 (by assumption)]; exact hsh)) (hfr) (hzr)
def gvX (lim : Nat) (X : List Nat × Bool) : Option (List Nat) → List Nat × Bool
  | none => X
  | some t => putsS lim X t
def gvr (r : Nat) : Option (List Nat) → Nat
  | none => 3
  | some _ => r
/-- what an item gives to a sheet: nothing, where it is a bracket -/
def itO (S : aSet) (q : aRec) (L : List Nat) (x : pIt) : Option (List Nat) := if iKind x = 5 then some [] else gvT S q L x
def stS (w : Nat) : Nat := if w = 1 then 94 else if w = 2 then 42 else 32
theorem stS_w {w : Nat} (h : w ≤ 2) : w = 0 ∧ stS w = 32 ∨ w = 1 ∧ stS w = 94 ∨ w = 2 ∧ stS w = 42 := by
  rcases (show w = 0 ∨ w = 1 ∨ w = 2 by omega) with rfl | rfl | rfl
  · exact Or.inl ⟨rfl, rfl⟩
  · exact Or.inr (Or.inl ⟨rfl, rfl⟩)
  · exact Or.inr (Or.inr ⟨rfl, rfl⟩)
section IT
variable {S : aSet} {q : aRec} {L : List Nat} {x : pIt} {H : jH} {a k r lim : Nat} {X : List Nat × Bool} {ch : Nat → Int32}
theorem it_5 (h : iKind x = 5) : itO S q L x = some [] := if_pos h
theorem it_0 (h : iKind x = 0) : itO S q L x = some [iOne x] := by rw [itO, if_neg (by omega), gvT, if_pos h]
theorem it_1 (h : iKind x = 1) : itO S q L x = some (numT q.2.1) := by rw [itO, if_neg (by omega), gvT, if_neg (by omega), if_pos h]
theorem it_2 (h : iKind x = 2) : itO S q L x = if linesA S q = 0 then none else some (adrT S q 5) := by rw [itO, if_neg (by omega), gvT, if_neg (by omega), if_neg (by omega), if_pos h]
theorem it_3 (h : iKind x = 3) : itO S q L x = if (q.2.2 (iOne x)).length = 0 then none else some (styT (iTwo x) (q.2.2 (iOne x)) (q.2.2 (iOne x)).length) := by rw [itO, if_neg (by omega), gvT, if_neg (by omega), if_neg (by omega), if_neg (by omega), if_pos h]
theorem it_4 (h : iKind x = 4) : itO S q L x = some (subT L (wFrom q.2.1 x) (wTill q.2.1 x - wFrom q.2.1 x)) := by rw [itO, if_neg (by omega), gvT, if_neg (by omega), if_neg (by omega), if_neg (by omega), if_neg (by omega)]
theorem it_4a (h : iKind x = 4) (h1 : q.2.1 = 1) : itO S q L x = some (subT L (iPlace x + 1) (iOne x - (iPlace x + 1))) := by rw [it_4 h, wFrom, wTill, if_pos h1, if_pos h1]
theorem it_4b (h : iKind x = 4) (h1 : ¬ q.2.1 = 1) : itO S q L x = some (subT L (iOne x + 1) (iTwo x - (iOne x + 1))) := by rw [it_4 h, wFrom, wTill, if_neg h1, if_neg h1]
theorem it_a2 (h : iKind x = 2) (hs : shS H a (putsS lim X (adrT S q 5)) k (if linesA S q = 0 then 3 else r) lim ch) : shS H a (gvX lim X (itO S q L x)) k (gvr r (itO S q L x)) lim ch := by
  rw [it_2 h]
  by_cases e : linesA S q = 0
  · rw [if_pos e]; rw [if_pos e, adr_0 5 e] at hs; exact hs
  · rw [if_neg e]; rw [if_neg e] at hs; exact hs
theorem it_a3 (h : iKind x = 3) (hs : shS H a (putsS lim X (styT (iTwo x) (q.2.2 (iOne x)) (q.2.2 (iOne x)).length)) k (if (q.2.2 (iOne x)).length = 0 then 3 else r) lim ch) : shS H a (gvX lim X (itO S q L x)) k (gvr r (itO S q L x)) lim ch := by
  rw [it_3 h]
  by_cases e : (q.2.2 (iOne x)).length = 0
  · rw [if_pos e]; rw [if_pos e, e] at hs; exact hs
  · rw [if_neg e]; rw [if_neg e] at hs; exact hs
theorem it_ao {o : List Nat} (h : itO S q L x = some o) (hs : shS H a (putsS lim X o) k r lim ch) : shS H a (gvX lim X (itO S q L x)) k (gvr r (itO S q L x)) lim ch := by rw [h]; exact hs
end IT
set_option maxHeartbeats 4000000 in
set_option maxRecDepth 100000 in
theorem m_X6_writePiece {G : jG} {M : jM} {a k r lim : Nat} {X : List Nat × Bool} {ch : Nat → Int32} {s e p : Nat} {S : aSet} {q : aRec} {L : List Nat} {cos : List pCo} {x : pIt} {Z : jH} (hs : (gL G).stackTraces = false) (h : shS M.1 a X k r lim ch) (hS : suR M.1 Z s S) (he : entR Z e q) (hpc : pieR Z L cos p x) (hz : sub Z M.1) (hz3 : zn3 Z a) (hk5 : iKind x ≤ 5) (hx0 : iKind x = 0 → iOne x ≤ 126) (hx3 : iKind x = 3 → iOne x ≤ 4 ∧ iTwo x ≤ 2) (hlim : lim ≤ 200) (hBa : gB G ≤ a) : JMet G jX6_writePiece [.ref a, .ref s, .ref e, .ref p] (M) 0 0 7 (fun v M' => v = none ∧ shS M'.1 a (gvX lim X (itO S q L x)) k (gvr r (itO S q L x)) lim ch ∧ on3 M M' a) jNo := by
  refine jMet_of [some (.ref (a)), some (.ref (s)), some (.ref (e)), some (.ref (p))] (by decide) rfl (Nat.le_of_ble_eq_true rfl) (rfl) hs ?_
  intro C hC9 hG
  have hC := hC9.z
  have hs9 := jOK0_tr hC
  refine j_lt (fun hlt => ?_)
  have hBg : jB C = gB G := by rw [jB, hG]
  subst hG
  obtain ⟨⟨b9, x9, y1, y2, y3⟩, y4⟩ := id he
  obtain ⟨ps, pp, pc9, u1, u2, u3, u4⟩ := id hpc
  have hcb : q.2.1 < 100 := y4.2.1
  refine j_aload_n hC dX6_writePiece_0 rfl (jrf_ref _) ?_
  refine j_get (v := .int (nI (iKind x))) hC kf_X6_79 dX6_writePiece_1 (hz _ _ u1) (rfl) ?_
  by_cases s1 : (iKind x) = 0
  · refine j_tableIn (x := nI (iKind x)) (tgt := 40) hC dX6_writePiece_4 (by rw [nI_toInt (by omega)]; omega) (by rw [nI_toInt (by omega)]; omega) (by rw [nI_toInt (by omega), s1]; rfl) (by decide) ?_
    have hx0b := hx0 (by assumption)
    refine j_aload_n hC dX6_writePiece_40 rfl (jrf_ref _) ?_
    refine j_aload_n hC dX6_writePiece_41 rfl (jrf_ref _) ?_
    refine j_get (v := .int (nI (if iKind x = 0 then iOne x else 32))) hC kf_X6_82 dX6_writePiece_42 (hz _ _ u1) (rfl) ?_
    refine j_top (by rw [if_pos (by assumption)]) ?_
    refine c_Pv (kc := 0) (ks := 0) hC kv_X6_86 dX6_writePiece_45 (m_X6_put (c := iOne x) hs9 h (by omega) hlim hBa) (h.1) rfl rfl rfl rfl (by decide) (Nat.le_of_ble_eq_true rfl) ?_
    intro v9 M2 h9
    obtain ⟨rfl, eM2, fM2⟩ := h9
    refine j_goto (tgt := 120) hC dX6_writePiece_48 (by decide) ?_
    exact j_vret hC9 rfl dX6_writePiece_120 (⟨rfl, it_ao (it_0 (by assumption)) eM2, (on3_refl.trans fM2)⟩)
  by_cases s3 : (iKind x) = 1
  · refine j_tableIn (x := nI (iKind x)) (tgt := 51) hC dX6_writePiece_4 (by rw [nI_toInt (by omega)]; omega) (by rw [nI_toInt (by omega)]; omega) (by rw [nI_toInt (by omega), s3]; rfl) (by decide) ?_
    refine j_aload_n hC dX6_writePiece_51 rfl (jrf_ref _) ?_
    refine j_aload_n hC dX6_writePiece_52 rfl (jrf_ref _) ?_
    refine j_get (v := .int (nI (q.2.1))) hC kf_X6_90 dX6_writePiece_53 (hz _ _ y1) (rfl) ?_
    refine c_Pv (kc := 0) (ks := 0) hC kv_X6_95 dX6_writePiece_56 (m_X6_putNumber (n := q.2.1) hs9 h (by omega) hlim hBa) (h.1) rfl rfl rfl rfl (by decide) (Nat.le_of_ble_eq_true rfl) ?_
    intro v9 M4 h9
    obtain ⟨rfl, eM4, fM4⟩ := h9
    refine j_goto (tgt := 120) hC dX6_writePiece_59 (by decide) ?_
    exact j_vret hC9 rfl dX6_writePiece_120 (⟨rfl, it_ao (it_1 (by assumption)) eM4, (on3_refl.trans fM4)⟩)
  by_cases s5 : (iKind x) = 2
  · refine j_tableIn (x := nI (iKind x)) (tgt := 62) hC dX6_writePiece_4 (by rw [nI_toInt (by omega)]; omega) (by rw [nI_toInt (by omega)]; omega) (by rw [nI_toInt (by omega), s5]; rfl) (by decide) ?_
    refine j_aload_n hC dX6_writePiece_62 rfl (jrf_ref _) ?_
    refine j_aload_n hC dX6_writePiece_63 rfl (jrf_ref _) ?_
    refine j_aload_n hC dX6_writePiece_64 rfl (jrf_ref _) ?_
    refine j_aload_n hC dX6_writePiece_65 rfl (jrf_ref _) ?_
    refine c_V hC kv_X6_98 dX6_writePiece_66 (m_X5_addressFields hs9 (hS.mono hz) (he.mono hz)) (hS.X.choose_spec.choose_spec.choose_spec.choose_spec.choose_spec.choose_spec.choose_spec.choose_spec.1) rfl rfl rfl rfl (by decide) (Nat.le_of_ble_eq_true rfl) ?_
    refine c_Pv (kc := 0) (ks := 0) hC kv_X6_102 dX6_writePiece_69 (m_X6_putAddress hs9 h he hz hz3 hlim hBa) (h.1) rfl rfl rfl rfl (by decide) (Nat.le_of_ble_eq_true rfl) ?_
    intro v9 M6 h9
    obtain ⟨rfl, eM6, fM6⟩ := h9
    refine j_goto (tgt := 120) hC dX6_writePiece_72 (by decide) ?_
    exact j_vret hC9 rfl dX6_writePiece_120 (⟨rfl, it_a2 (by assumption) eM6, (on3_refl.trans fM6)⟩)
  by_cases s7 : (iKind x) = 3
  · refine j_tableIn (x := nI (iKind x)) (tgt := 75) hC dX6_writePiece_4 (by rw [nI_toInt (by omega)]; omega) (by rw [nI_toInt (by omega)]; omega) (by rw [nI_toInt (by omega), s7]; rfl) (by decide) ?_
    have hx3b := hx3 (by assumption)
    refine j_aload_n hC dX6_writePiece_75 rfl (jrf_ref _) ?_
    refine j_aload_n hC dX6_writePiece_76 rfl (jrf_ref _) ?_
    refine j_aload_n hC dX6_writePiece_77 rfl (jrf_ref _) ?_
    refine j_get (v := .int (nI (if iKind x = 3 then iOne x else 0))) hC kf_X6_106 dX6_writePiece_78 (hz _ _ u1) (rfl) ?_
    refine j_top (by rw [if_pos (by assumption)]) ?_
    obtain ⟨s9, t1, t2⟩ := y3 (iOne x) (by omega)
    have t3 := (y4.2.2 (iOne x) (by omega)).1
    refine c_V hC kv_X6_109 dX6_writePiece_81 (m_X1_textAt0 (f := iOne x) hs9 (hz _ _ y1) (hz _ _ y2) (by omega)) (hz _ _ y1) rfl rfl rfl rfl (by decide) (Nat.le_of_ble_eq_true rfl) ?_
    refine j_aload_n hC dX6_writePiece_84 rfl (jrf_ref _) ?_
    refine j_get (v := .int (nI (if iKind x = 3 then (if iTwo x = 1 then 94 else if iTwo x = 2 then 42 else 32) else 32))) hC kf_X6_113 dX6_writePiece_85 (hz _ _ u1) (rfl) ?_
    refine j_top (show nI (if iKind x = 3 then (if iTwo x = 1 then 94 else if iTwo x = 2 then 42 else 32) else 32) = nI (stS (iTwo x)) from by rw [if_pos (by assumption)] <;> rfl) ?_
    refine c_Pv (kc := 0) (ks := 0) hC kv_X6_116 dX6_writePiece_88 (m_X6_putField (way := (iTwo x)) (sg := stS (iTwo x)) hs9 h (y3 (iOne x) (by omega)) (stS_w (hx3 (by assumption)).2) hz hz3 hlim hBa) (h.1) rfl rfl rfl rfl (by decide) (Nat.le_of_ble_eq_true rfl) ?_
    intro v9 M8 h9
    obtain ⟨rfl, eM8, fM8⟩ := h9
    refine j_goto (tgt := 120) hC dX6_writePiece_91 (by decide) ?_
    exact j_vret hC9 rfl dX6_writePiece_120 (⟨rfl, it_a3 (by assumption) eM8, (on3_refl.trans fM8)⟩)
  by_cases s9 : (iKind x) = 4
  · refine j_tableIn (x := nI (iKind x)) (tgt := 94) hC dX6_writePiece_4 (by rw [nI_toInt (by omega)]; omega) (by rw [nI_toInt (by omega)]; omega) (by rw [nI_toInt (by omega), s9]; rfl) (by decide) ?_
    refine j_aload_n hC dX6_writePiece_94 rfl (jrf_ref _) ?_
    refine j_aload_n hC dX6_writePiece_95 rfl (jrf_ref _) ?_
    refine j_get (v := .int (nI (q.2.1))) hC kf_X6_90 dX6_writePiece_96 (hz _ _ y1) (rfl) ?_
    refine j_iconst (v := nI 1) hC dX6_writePiece_99 (by decide) ?_
    refine n_icmp_ne (tgt := 110) hC dX6_writePiece_100 (by decide) (by omega) (by omega) (fun c10 => ?_) (fun c10 => ?_)
    · refine j_aload_n hC dX6_writePiece_110 rfl (jrf_ref _) ?_
      refine j_get (v := .ref (pp)) hC kf_X6_124 dX6_writePiece_111 (hz _ _ u1) (rfl) ?_
      refine c_Pv (kc := 0) (ks := 0) hC kv_X6_127 dX6_writePiece_114 (m_X6_putAll (Z := Z) hs9 h (u3) hz hz3 hlim hBa) (h.1) rfl rfl rfl rfl (by decide) (Nat.le_of_ble_eq_true rfl) ?_
      intro v9 M11 h9
      obtain ⟨rfl, eM11, fM11⟩ := h9
      refine j_goto (tgt := 120) hC dX6_writePiece_117 (by decide) ?_
      exact j_vret hC9 rfl dX6_writePiece_120 (⟨rfl, by first | (rw [if_pos (by assumption)] at eM11; exact it_ao (it_4a (by assumption) (by assumption)) eM11) | (rw [if_pos (by assumption)] at eM11; exact it_ao (it_4b (by assumption) (by assumption)) eM11), (on3_refl.trans fM11)⟩)
    · refine j_aload_n hC dX6_writePiece_103 rfl (jrf_ref _) ?_
      refine j_get (v := .ref (ps)) hC kf_X6_120 dX6_writePiece_104 (hz _ _ u1) (rfl) ?_
      refine j_goto (tgt := 114) hC dX6_writePiece_107 (by decide) ?_
      refine c_Pv (kc := 0) (ks := 0) hC kv_X6_127 dX6_writePiece_114 (m_X6_putAll (Z := Z) hs9 h (u2) hz hz3 hlim hBa) (h.1) rfl rfl rfl rfl (by decide) (Nat.le_of_ble_eq_true rfl) ?_
      intro v9 M12 h9
      obtain ⟨rfl, eM12, fM12⟩ := h9
      refine j_goto (tgt := 120) hC dX6_writePiece_117 (by decide) ?_
      exact j_vret hC9 rfl dX6_writePiece_120 (⟨rfl, by first | (rw [if_pos (by assumption)] at eM12; exact it_ao (it_4a (by assumption) (by assumption)) eM12) | (rw [if_pos (by assumption)] at eM12; exact it_ao (it_4b (by assumption) (by assumption)) eM12), (on3_refl.trans fM12)⟩)
  refine j_tableOut (x := nI (iKind x)) (tgt := 120) hC dX6_writePiece_4 (by rw [nI_toInt (by omega)]; omega) (by decide) ?_
  exact j_vret hC9 rfl dX6_writePiece_120 (⟨rfl, it_ao (it_5 (by omega)) h, on3_refl⟩)
