/-! ===== a nest mate's constructor ===== -/
def jMin (own : String) (idx : Nat) (y : jY) (n : Nat) : Prop := jMh y n ∧ y.2.2.2.2 = [] ∧ y.2.2.2.1 = none ∧ y.1.name = "<init>" ∧ (own, idx, y.1, "MailMerge") ∈ jNests ∧ Cond.instanceMethod y.1 ∈ jWs
theorem ki_X9_39 : jMin RX9 39 jX6_init 0 := ⟨jh_X6_init, rfl, rfl, rfl, List.mem_cons_of_mem _ List.mem_cons_self, jWs_of 261 (by decide +kernel) rfl⟩
theorem ki_X3_21 : jMin RX3 21 jX6_init 0 := ⟨jh_X6_init, rfl, rfl, rfl, List.mem_cons_self, jWs_of 261 (by decide +kernel) rfl⟩
section CIN
variable {C : jC} {y : jY} {d : Nat} {M : jM} {kc ks pc : Nat} {l : List (Option Value)} {st : List Value}
theorem j_callIN (hC : jOK0 y d C) {y' : jY} {idx b n kc' ks' d' : Nat} {As rest : List Value} {Q' : Option Value → jM → Prop} (hm : jMin y.1.cls idx y' n) (hd : decode y.2.1 pc = .ok (.invokespecial idx, 3))
    (hM : JMet (jCG C) y' (.ref b :: As) M kc' ks' d' Q' jNo) (hn : As.length = n) (hst : st = As.reverse ++ .ref b :: rest) (hd1 : d' + 1 ≤ d) (hkc : kc' ≤ kc) (hks : ks' ≤ ks) (hrest : (rest.map fun v => v.category).sum ≤ 8)
    (kk : ∀ v M', Q' v M' → J C M' (kc - kc') (ks - ks') (pc + 3) l (v.toList ++ rest)) : J C M kc ks pc l st := by
  obtain ⟨p, e, R, s, m, args, below, meth, c, Qs, G⟩ := C
  obtain ⟨hx, hb, hr, hml, hown, hts, hlk, hnm, htb, hdf, hdl, hfl, hA⟩ := hC
  intro H locs cells slots ls h1 h2 h3 h4 h5 T hT X
  obtain ⟨⟨m1, m2, m3, m4, m5, m6⟩, m7, m8, m9, m10, m11⟩ := hm
  subst hst
  obtain ⟨ya, yb, yc, yd, yh⟩ := y'
  dsimp only at m7 m8
  subst m7
  subst m8
  have hcw : va_CN R s args y.1.cls idx ya "MailMerge" yb yc none (jW (ya, yb, yc, none, [])) (jRm d' kc' ks') kc' ks' n := by
    refine ⟨⟨rfl, rfl, by show d' + 1 ≤ R.frames; omega, by show 8 + (yc + 11) + 46 * d' ≤ R.locals; dsimp only at m6; omega, pay_in hts (jW_good m1), List.mem_cons_self⟩, hts _ m1, hts _ m2, ⟨m3, m4⟩, fun sig h => ?_, (hA.2.2.2.2.2.2.2.2.1 _ m10).use rfl⟩
    rw [h] at m5
    exact (Option.some.inj m5).symm
  obtain ⟨v, st₀, t, T', L, e0, X', hL, e1, e2, ⟨v', M', hv, hQ, hR, hF⟩, stp⟩ := va_runIN (cc := y.2.1) (nL := y.2.2.1) (Ts := jWs) (g := F0 m pc ls (As.reverse ++ .ref b :: rest)) ⟨hx, hb, hml, hown, hts⟩ (jMet_met hM) ⟨hcw, m9, hts _ m11⟩ ⟨jRel_amb_blind, fun U hU hW => ⟨rfl, by rw [hU]; exact hA.kept hW h2.1 h2.2.1, by rw [hU]; exact h1.moved hW.alike⟩⟩ rfl hn (h3.1.trans hml) rfl (lv_room hrest) hd ⟨by omega, by omega⟩ T hT X
  cases hv
  obtain ⟨b1, b2⟩ := jBack e0 e1 (by rw [← e2]; exact X'.warmed.alike) hL hR hF h2
  obtain ⟨t2, a1, a2⟩ := kk v M' hQ T'.heap (locs ++ L) (cells + kc') (slots + ks') ls b1 b2 h3 (by omega) (by omega) T' rfl X'
  exact ⟨t2, stp t2 a1, a2⟩
theorem c_PiN {P : Option Value → jM → Prop} (hC : jOK0 y d C) {y' : jY} {idx b n d' kc' ks' : Nat} {As rest : List Value} (hm : jMin y.1.cls idx y' n) (hd : decode y.2.1 pc = .ok (.invokespecial idx, 3)) (hM : CP (jCG C) M y' kc' ks' d' (.ref b :: As) P) (hn : As.length = n) (hst : st = As.reverse ++ .ref b :: rest) (hd1 : d' + 1 ≤ d) (hrest : (rest.map fun v => v.category).sum ≤ 8)
    (kk : ∀ v M', P v M' → J C M' kc ks (pc + 3) l (v.toList ++ rest)) : J C M (kc + kc') (ks + ks') pc l st :=
  j_callIN hC hm hd hM hn hst hd1 (Nat.le_add_left _ _) (Nat.le_add_left _ _) hrest (fun v M' h => by rw [Nat.add_sub_cancel, Nat.add_sub_cancel]; exact kk v M' h)
end CIN
theorem j_topV {C : jC} {M : jM} {kc ks pc : Nat} {l : List (Option Value)} {st : List Value} {v v' : Value} (h : v = v') (kk : J C M kc ks pc l (v' :: st)) : J C M kc ks pc l (v :: st) := h ▸ kk
set_option maxHeartbeats 4000000 in
set_option maxRecDepth 100000 in
theorem m_X6_init {G : jG} {M : jM} {a : Nat} {v0 v1 v2 v3 v4 v5 v6 : Value} (hs : (gL G).stackTraces = false) (h1 : M.1 a = some (.inr (10, [v0, v1, v2, v3, v4, v5, v6]))) (haM : M.2 = a + 1) (hB : gB G ≤ a) : JMet G jX6_init [.ref a] (M) 2 205 1 (fun v M' => v = none ∧ shS M'.1 a ([], false) 0 0 0 (fun _ => 0) ∧ kept M M' (fun b => b = a) ∧ M'.2 = M.2 + 2) jNo := by
  refine jMet_of [some (.ref (a))] (by decide) rfl (Nat.le_of_ble_eq_true rfl) (rfl) hs ?_
  intro C hC9 hG
  have hC := hC9.z
  have hs9 := jOK0_tr hC
  refine j_lt (fun hlt => ?_)
  have hBg : jB C = gB G := by rw [jB, hG]
  subst hG
  refine j_aload_n hC dX6_init_0 rfl (jrf_ref _) ?_
  refine j_obj hC ko_X6_3 ko_i ko_c dX6_init_1 (by decide) (Nat.le_of_ble_eq_true rfl) ?_
  refine j_aload_n hC dX6_init_4 rfl (jrf_ref _) ?_
  refine j_sipush (v := nI 200) hC dX6_init_5 (by decide) ?_
  refine c_newa_char (kc := 1) (ks := 5) (N := 200) hC dX6_init_8 (by decide) ?_
  rw [haM]
  refine c_putF (fs' := [.ref (a + 1), v1, v2, v3, v4, v5, v6]) hC kp_X6_9 rfl dX6_init_10 ((jnew_ne (by show (a) ≠ M.2; omega)).trans (h1)) (by omega) (rfl) (rfl) rfl ?_
  refine j_aload_n hC dX6_init_13 rfl (jrf_ref _) ?_
  refine j_iconst (v := nI 5) hC dX6_init_14 (by decide) ?_
  refine c_newa_int (kc := 0) (ks := 0) (N := 5) hC dX6_init_15 (by decide) ?_
  refine j_topV (show Value.ref _ = Value.ref (a + 2) from congrArg Value.ref (congrArg (· + 1) haM)) ?_
  refine c_putF (fs' := [.ref (a + 1), .ref (a + 2), v2, v3, v4, v5, v6]) hC kp_X6_15 rfl dX6_init_17 ((jnew_ne (by show (a) ≠ M.2 + 1; omega)).trans (jput_at)) (by omega) (rfl) (rfl) rfl ?_
  refine j_aload_n hC dX6_init_20 rfl (jrf_ref _) ?_
  refine j_iconst (v := nI 0) hC dX6_init_21 (by decide) ?_
  refine c_put2 (fs' := [.ref (a + 1), .ref (a + 2), .int (nI (0)), v3, v4, v5, v6]) hC kp_X6_19 dX6_init_22 (by omega) (rfl) (rfl) rfl ?_
  refine j_aload_n hC dX6_init_25 rfl (jrf_ref _) ?_
  refine j_iconst (v := nI 0) hC dX6_init_26 (by decide) ?_
  refine c_put2 (fs' := [.ref (a + 1), .ref (a + 2), .int (nI (0)), .int (nI (0)), v4, v5, v6]) hC kp_X6_23 dX6_init_27 (by omega) (rfl) (rfl) rfl ?_
  refine j_aload_n hC dX6_init_30 rfl (jrf_ref _) ?_
  refine j_iconst (v := nI 0) hC dX6_init_31 (by decide) ?_
  refine c_put2 (fs' := [.ref (a + 1), .ref (a + 2), .int (nI (0)), .int (nI (0)), .int (nI (0)), v5, v6]) hC kp_X6_26 dX6_init_32 (by omega) (rfl) (rfl) rfl ?_
  refine j_aload_n hC dX6_init_35 rfl (jrf_ref _) ?_
  refine j_iconst (v := nI 0) hC dX6_init_36 (by decide) ?_
  refine c_put2 (fs' := [.ref (a + 1), .ref (a + 2), .int (nI (0)), .int (nI (0)), .int (nI (0)), .int (nI (0)), v6]) hC kp_X6_29 dX6_init_37 (by omega) (rfl) (rfl) rfl ?_
  refine j_aload_n hC dX6_init_40 rfl (jrf_ref _) ?_
  refine j_iconst (v := nI 0) hC dX6_init_41 (by decide) ?_
  refine c_put2 (fs' := [.ref (a + 1), .ref (a + 2), .int (nI (0)), .int (nI (0)), .int (nI (0)), .int (nI (0)), .int (nI (0))]) hC kp_X6_32 dX6_init_42 (by omega) (by decide) (by decide) rfl ?_
  exact j_vret hC9 rfl dX6_init_45 (⟨rfl, ⟨jput_at, ⟨_, (jput_ne (by show (a + 1) ≠ (a); omega)).trans ((jnew_ne (by show (a + 1) ≠ M.2 + 1; omega)).trans ((jput_ne (by show (a + 1) ≠ (a); omega)).trans (by rw [← haM]; exact jnew_at))), fun i hi => absurd hi (Nat.not_lt_zero i)⟩, (jput_ne (by show (a + 2) ≠ (a); omega)).trans (by rw [show a + 2 = M.2 + 1 by omega]; exact jnew_at), Nat.zero_le _⟩, fun a9 o9 ha9 hn9 => by
  have hl9 := hlt _ _ ha9
  have hn8 : a9 ≠ a := hn9
  exact (jput_ne (by show (a9) ≠ (a); omega)).trans ((jnew_ne (by show (a9) ≠ M.2 + 1; omega)).trans ((jput_ne (by show (a9) ≠ (a); omega)).trans ((jnew_ne (by show (a9) ≠ M.2; omega)).trans (ha9)))), rfl⟩)
theorem shS.keep {H H' : jH} {a k r lim : Nat} {X : List Nat × Bool} {ch : Nat → Int32} (h : shS H a X k r lim ch) (h0 : ∀ b o, b = a ∨ b = a + 1 ∨ b = a + 2 → H b = some o → H' b = some o) : shS H' a X k r lim ch :=
  ⟨h0 _ _ (Or.inl rfl) h.1, h.2.1.elim (fun g e => ⟨g, h0 _ _ (Or.inr (Or.inl rfl)) e.1, e.2⟩), h0 _ _ (Or.inr (Or.inr rfl)) h.2.2.1, h.2.2.2⟩
theorem outF_s {o i : Nat} : updV (fun j => if j < i then Value.ref (o + 2 + 3 * j) else .null) i (.ref (o + 2 + 3 * i)) = fun j => if j < i + 1 then Value.ref (o + 2 + 3 * j) else .null := by
  funext j
  simp only [updV]
  by_cases h : j = i
  · rw [if_pos h, if_pos (show j < i + 1 by omega), h]
  · rw [if_neg h]
    by_cases h2 : j < i
    · rw [if_pos h2, if_pos (show j < i + 1 by omega)]
    · rw [if_neg h2, if_neg (show ¬ j < i + 1 by omega)]
set_option maxHeartbeats 4000000 in
set_option maxRecDepth 100000 in
theorem m_X3_init {G : jG} {M : jM} {o : Nat} {v0 v1 : Value} (hs : (gL G).stackTraces = false) (h1 : M.1 o = some (.inr (7, [v0, v1]))) (hoM : M.2 = o + 1) (hB : gB G ≤ o) : JMet G jX3_init [.ref o] (M) 61 4260 2 (fun v M' => v = none ∧ M'.1 o = some (.inr (7, [.ref (o + 1), .int (nI 0)])) ∧ M'.1 (o + 1) = some (.inl (.object RX6, 20, fun j => if j < 20 then .ref (o + 2 + 3 * j) else .null)) ∧ (∀ j, j < 20 → shS M'.1 (o + 2 + 3 * j) ([], false) 0 0 0 (fun _ => 0)) ∧ kept M M' (fun b => b = o) ∧ M'.2 = M.2 + 61) jNo := by
  refine jMet_of [some (.ref (o)), none] (by decide) rfl (Nat.le_of_ble_eq_true rfl) (rfl) hs ?_
  intro C hC9 hG
  have hC := hC9.z
  have hs9 := jOK0_tr hC
  refine j_lt (fun hlt => ?_)
  have hBg : jB C = gB G := by rw [jB, hG]
  subst hG
  refine j_aload_n hC dX3_init_0 rfl (jrf_ref _) ?_
  refine j_obj hC ko_X3_3 ko_i ko_c dX3_init_1 (by decide) (Nat.le_of_ble_eq_true rfl) ?_
  refine j_aload_n hC dX3_init_4 rfl (jrf_ref _) ?_
  refine j_bipush (v := nI 20) hC dX3_init_5 (by decide) ?_
  refine c_anew (kc := 60) (ks := 4240) (N := 20) hC ka_X3_9 (by decide) dX3_init_7 (by decide)  ?_
  rw [hoM]
  refine c_putF (fs' := [.ref (o + 1), v1]) hC kp_X3_11 rfl dX3_init_10 ((jnew_ne (by show (o) ≠ M.2; omega)).trans (h1)) (by omega) (rfl) (rfl) rfl ?_
  refine j_aload_n hC dX3_init_13 rfl (jrf_ref _) ?_
  refine j_iconst (v := nI 0) hC dX3_init_14 (by decide) ?_
  refine c_put2 (fs' := [.ref (o + 1), .int (nI (0))]) hC kp_X3_17 dX3_init_15 (by omega) (rfl) (rfl) rfl ?_
  refine j_iconst (v := nI 0) hC dX3_init_18 (by decide) ?_
  refine j_istore_n1 hC dX3_init_19 (by decide) rfl ?_
  suffices K : ∀ (n9 : Nat) (Mr : jM) (i : Nat), 20 - i < n9 → i ≤ 20 → Mr.1 (o + 1) = some (.inl (.object RX6, 20, fun j => if j < i then Value.ref (o + 2 + 3 * j) else .null)) → Mr.1 o = some (.inr (7, [.ref (o + 1), .int (nI 0)])) → (∀ j, j < i → shS Mr.1 (o + 2 + 3 * j) ([], false) 0 0 0 (fun _ => 0)) → kept M Mr (fun b => b = o) → Mr.2 = o + 2 + 3 * i → J C Mr (3 * (20 - i)) (212 * (20 - i)) 20 [some (.ref o), some (.int (nI i))] [] from (K _ _ 0 (Nat.lt_succ_self _) (by omega) (row_f ((jput_ne (by show (o + 1) ≠ (o); omega)).trans (by rw [← hoM]; exact jnew_at)) (funext fun j => (if_neg (Nat.not_lt_zero j)).symm)) (jput_at) (fun j hj => absurd hj (Nat.not_lt_zero j)) (fun a9 o9 ha9 hn9 => by
    have hl9 := hlt _ _ ha9
    have hn8 : a9 ≠ o := hn9
    exact (jput_ne (by show (a9) ≠ (o); omega)).trans ((jnew_ne (by show (a9) ≠ M.2; omega)).trans (ha9))) (show M.2 + 1 = _ by omega))
  intro n9
  induction n9 with
  | zero => intro Mr i hm; omega
  | succ n9 ih =>
    intro Mr i hm hi hrow ho hsh hk he2
    refine j_iload_n hC dX3_init_20 rfl ?_
    refine j_aload_n hC dX3_init_21 rfl (jrf_ref _) ?_
    refine j_get (v := .ref (o + 1)) hC kf_X3_11 dX3_init_22 (ho) (rfl) ?_
    refine c_alen hC dX3_init_25 (hrow) ?_
    refine n_icmp_ge (tgt := 48) hC dX3_init_26 (by decide) (by omega) (by omega) (fun c1 => ?_) (fun c1 => ?_)
    · obtain rfl : i = 20 := by omega
      exact j_vret hC9 rfl dX3_init_48 (⟨rfl, ho, hrow, fun j hj => hsh j hj, hk, by omega⟩)
    · refine j_aload_n hC dX3_init_29 rfl (jrf_ref _) ?_
      refine j_get (v := .ref (o + 1)) hC kf_X3_11 dX3_init_30 (ho) (rfl) ?_
      refine j_iload_n hC dX3_init_33 rfl ?_
      refine j_less (kc' := (3 * (19 - i) + 2) + 1) (ks' := (212 * (19 - i) + 205) + 7) (by omega) (by omega) ?_
      refine c_new (kc := 3 * (19 - i) + 2) (ks := 212 * (19 - i) + 205) hC kn_X3_9 dX3_init_34 rfl ?_
      refine j_topV (show Value.ref Mr.2 = Value.ref (o + 2 + 3 * i) by rw [he2]) ?_
      refine j_dup hC dX3_init_37 rfl ?_
      refine c_PiN (kc := 3 * (19 - i)) (ks := 212 * (19 - i)) hC ki_X3_21 dX3_init_38 (m_X6_init hs9 (by rw [← he2]; exact jnew_at) (show Mr.2 + 1 = _ by omega) (by omega)) rfl rfl (by decide) (Nat.le_of_ble_eq_true rfl) ?_
      intro v9 M1 h9
      obtain ⟨rfl, e1, e2, e3⟩ := h9
      replace e3 : M1.2 = Mr.2 + 1 + 2 := e3
      refine c_aast (i := i) hC dX3_init_41 (e2 _ _ ((jnew_ne (show o + 1 ≠ Mr.2 by omega)).trans hrow) (show o + 1 ≠ o + 2 + 3 * i by omega)) (e1.1) rfl (by omega) (by omega) (by omega) ?_
      refine j_iinc_1 (v := nI (i + 1)) hC dX3_init_42 (nI_add _ _) (by decide) rfl ?_
      refine j_goto (tgt := 20) hC dX3_init_45 (by decide) ?_
      refine j_less (kc' := 3 * (20 - (i + 1))) (ks' := 212 * (20 - (i + 1))) (by omega) (by omega) ?_
      refine ih _ (i + 1) (by omega) (by omega) (row_f jput_at outF_s) ?_ (fun j hj => ?_) (fun a9 o9 ha9 hn9 => ?_) (show M1.2 = _ by omega)
      · exact (jput_ne (show o ≠ o + 1 by omega)).trans (e2 _ _ ((jnew_ne (show o ≠ Mr.2 by omega)).trans ho) (show o ≠ o + 2 + 3 * i by omega))
      · by_cases hji : j = i
        · subst hji; exact e1.keep (fun b o9 hb h9 => (jput_ne (show b ≠ o + 1 by omega)).trans h9)
        · exact (hsh j (by omega)).keep (fun b o9 hb h9 => (jput_ne (show b ≠ o + 1 by omega)).trans (e2 _ _ ((jnew_ne (show b ≠ Mr.2 by omega)).trans h9) (show b ≠ o + 2 + 3 * i by omega)))
      · have hl9 := hlt _ _ ha9
        have hn8 : a9 ≠ o := hn9
        exact (jput_ne (show a9 ≠ o + 1 by omega)).trans (e2 _ _ ((jnew_ne (show a9 ≠ Mr.2 by omega)).trans (hk a9 o9 ha9 hn9)) (show a9 ≠ o + 2 + 3 * i by omega))
