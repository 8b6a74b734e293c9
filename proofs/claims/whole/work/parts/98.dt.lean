/-! ===== the law ===== -/
theorem and63 (x : Int32) : ∃ k, k < 64 ∧ x &&& nI 63 = nI k := ⟨x.toBitVec.toNat % 2 ^ 6, Nat.mod_lt _ (by decide), pk_and x 6 (by decide)⟩
set_option maxHeartbeats 4000000 in
set_option maxRecDepth 100000 in
theorem j_L_law {C : jC} {Q : Option Value → jM → Prop} {X : String → jM → Prop} (hC9 : jOK jL_law 20 C Q X) (hQ : ∀ M', Q (some (.int (nI 1))) M') {M : jM} {a n : Nat} {g : Nat → Int32} {Z : jH} (hA : M.1 a = some (.inl (.int, n, fun j => .int (g j)))) (hn : n ≤ 2048) (hz : sub Z M.1) (hkr : kR (jCG C) Z) (hB : gB (jCG C) ≤ M.2) : J C M 314511 5892681 0 [some (.ref a), none, none, none, none, none, none, none, none] [] := by
  have hC := hC9.z
  have hs9 := jOK0_tr hC
  refine j_lt (fun hlt => ?_)
  have hac : a < M.2 := hlt _ _ hA
  obtain ⟨c, hc⟩ : ∃ c, c = M.2 := ⟨_, rfl⟩
  refine c_new (kc := 314510) (ks := 5892671) hC kn_L_8 dL_law_0 rfl ?_
  refine j_topV (v' := .ref c) (congrArg Value.ref hc.symm) ?_
  have hk1 : kept M (jnew M (.inr (13, [.null, .null, .null, .null, .null, .null, .null, .int 0, .int 0, .int 0]))) (fun _ => False) := fun y w hy _ => (jnew_ne (by have := hlt _ _ hy; omega)).trans hy
  have hc1 : (jnew M (.inr (13, [.null, .null, .null, .null, .null, .null, .null, .int 0, .int 0, .int 0]))).1 c = some (.inr (13, [.null, .null, .null, .null, .null, .null, .null, .int 0, .int 0, .int 0])) := if_pos hc
  have hm1 : (jnew M (.inr (13, [.null, .null, .null, .null, .null, .null, .null, .int 0, .int 0, .int 0]))).2 = c + 1 := by show M.2 + 1 = _; omega
  refine j_dup hC dL_law_3 rfl ?_
  refine c_Pi (kc := 314391) (ks := 5887799) hC ki_L_124 dL_law_4 (m_X9_init (c := c) (Z := Z) hs9 hc1 hm1 (fun y w hy => hk1 _ _ (hz y w hy) id) (fun y hy => zg_at hz (by
    cases e9 : M.1 y with
    | none => rfl
    | some w => have := hlt _ _ e9; omega)) hkr (by omega)) rfl rfl (by decide) (Nat.le_of_ble_eq_true rfl) ?_
  intro v9 M2 h9
  obtain ⟨rfl, Z2, hcI, -, -, hk2, hm2⟩ := h9
  have hA2 := hk2 _ _ (hk1 _ _ hA id) (by omega)
  clear hk1 hc1 hm1 hk2
  refine j_lt (fun hlt2 => ?_)
  have hzs : sub Z2 M2.1 := hcI.2.2.2.2.2.2.2.2.1.1
  refine j_astore_n1 hC dL_law_7 (jrf_ref _) (by decide) rfl ?_
  refine c_new (kc := 314390) (ks := 5887763) hC kn_L_125 dL_law_8 rfl ?_
  refine j_topV (v' := .ref (c + 120)) (congrArg Value.ref hm2) ?_
  have hk3 : kept M2 (jnew M2 (.inr (14, [.int 0, .null, .int 0, .int 0, .null, .int 0, .int 0, .null, .null, .null, .null, .int 0, .int 0, .int 0, .int 0, .int 0, .int 0, .null, .null, .null, .null, .null, .int 0, .null, .null, .null, .int 0, .null, .int 0, .int 0, .int 0, .null, .null, .null, .null, .null]))) (fun _ => False) := fun y w hy _ => (jnew_ne (by have := hlt2 _ _ hy; omega)).trans hy
  have ho3 : (jnew M2 (.inr (14, [.int 0, .null, .int 0, .int 0, .null, .int 0, .int 0, .null, .null, .null, .null, .int 0, .int 0, .int 0, .int 0, .int 0, .int 0, .null, .null, .null, .null, .null, .int 0, .null, .null, .null, .int 0, .null, .int 0, .int 0, .int 0, .null, .null, .null, .null, .null]))).1 (c + 120) = some (.inr (14, [.int 0, .null, .int 0, .int 0, .null, .int 0, .int 0, .null, .null, .null, .null, .int 0, .int 0, .int 0, .int 0, .int 0, .int 0, .null, .null, .null, .null, .null, .int 0, .null, .null, .null, .int 0, .null, .int 0, .int 0, .int 0, .null, .null, .null, .null, .null])) := if_pos hm2.symm
  have hm3 : (jnew M2 (.inr (14, [.int 0, .null, .int 0, .int 0, .null, .int 0, .int 0, .null, .null, .null, .null, .int 0, .int 0, .int 0, .int 0, .int 0, .int 0, .null, .null, .null, .null, .null, .int 0, .null, .null, .null, .int 0, .null, .int 0, .int 0, .int 0, .null, .null, .null, .null, .null]))).2 = c + 120 + 1 := by show M2.2 + 1 = _; omega
  refine j_dup hC dL_law_11 rfl ?_
  refine c_Pi (kc := 314370) (ks := 5865986) hC ki_L_127 dL_law_12 (m_X10_init (o := c + 120) hs9 (by omega) ho3 hm3) rfl rfl (by decide) (Nat.le_of_ble_eq_true rfl) ?_
  intro v9 M4 h9
  obtain ⟨rfl, hM4⟩ := h9
  have hm4 : M4.2 = c + 141 := by rw [hM4]; show c + 120 + 21 = _; omega
  have hk4 : kept M2 M4 (fun _ => False) := fun y w hy _ => by
    rw [hM4]
    have := hlt2 _ _ hy
    exact (rM_out (by omega)).trans (hk3 _ _ hy id)
  have hr4 : ∀ k, k ≤ 20 → M4.1 (c + 120 + k) = some (rO (c + 120) r01 k) := fun k hk => by rw [hM4]; exact rM_at k hk
  clear hM4 hk3 ho3 hm3
  refine j_astore_n2 hC dL_law_15 (jrf_ref _) (by decide) rfl ?_
  refine j_iconst (v := nI 1) hC dL_law_16 (by decide) ?_
  refine j_newa_long hC kr_long dL_law_17 (N := 1) (by decide) (by decide) (by decide) (by decide) (by decide) ?_
  refine j_topV (v' := .ref (c + 141)) (congrArg Value.ref hm4) ?_
  refine j_astore_n3 hC dL_law_19 (jrf_ref _) (by decide) rfl ?_
  refine j_iconst (v := nI 1) hC dL_law_20 (by decide) ?_
  refine j_newa_double hC kr_double dL_law_21 (N := 1) (by decide) (by decide) (by decide) (by decide) (by decide) ?_
  refine j_topV (v' := .ref (c + 142)) (congrArg Value.ref (by show M4.2 + 1 = _; omega)) ?_
  refine j_astore_4 hC dL_law_23 (jrf_ref _) (by decide) rfl ?_
  refine j_name (fun M6 hM6 => ?_)
  have hl6 : ∃ g : Nat → Int64, M6.1 (c + 141) = some (.inl (.long, 1, fun j => .long (g j))) := by
    rw [hM6]
    exact ⟨_, (jnew_ne (by show c + 141 ≠ M4.2 + 1; omega)).trans (if_pos hm4.symm)⟩
  have hd6 : ∃ g : Nat → UInt64, M6.1 (c + 142) = some (.inl (.double, 1, fun j => .double (g j))) := by
    rw [hM6]
    exact ⟨_, if_pos (show c + 142 = M4.2 + 1 by omega)⟩
  have hk6 : ∀ y, y < c + 141 → M6.1 y = M4.1 y := fun y hy => by
    rw [hM6]
    exact (jnew_ne (by show y ≠ M4.2 + 1; omega)).trans (jnew_ne (by omega))
  clear hM6
  have hk26 : kept M2 M6 (fun _ => False) := fun y w hy _ => (hk6 y (by have := hlt2 _ _ hy; omega)).trans (hk4 _ _ hy id)
  have hzn : ∀ y, c + 120 ≤ y → Z2 y = none := fun y hy => zg_at hzs (by
    cases e9 : M2.1 y with
    | none => rfl
    | some w => have := hlt2 _ _ e9; omega)
  have hF : LF (jCG C) a c (c + 120) (c + 141) (c + 142) n := ⟨by omega, by omega, by omega, by omega, by omega, by omega⟩
  have hcI6 : cI (jCG C) M6 Z2 c (c + 2) st0 := cJ.more hcI zg_refl (fun y w hy => hk26 _ _ (hzs y w hy) id) hk26
  have hLI : LI (jCG C) M6 a n g c (c + 120) (c + 141) (c + 142) st0 := ⟨r01, ⟨Z2, c + 2, hcI6, ⟨hzn _ (by omega), by omega, by omega, by omega, hl6⟩, ⟨hzn _ (by omega), by omega, by omega, by omega, hd6⟩, fun k hk => (hk6 _ (by omega)).trans (hr4 k hk), fun k hk => ⟨hzn _ (by omega), by omega⟩, hk26 _ _ hA2 id⟩, ri_st0⟩
  refine j_iconst (v := nI 0) hC dL_law_25 (by decide) ?_
  refine j_istore_5 hC dL_law_26 (by decide) rfl ?_
  refine j_less (kc' := 614 * 512) (ks' := 11457 * 512) (by decide) (by decide) ?_
  clear hlt hlt2 hk26 hzn hk6 hr4 hk4 hl6 hd6 hcI6 hzs hcI hA2
  generalize c + 120 = o at hF hLI ⊢
  generalize c + 141 = ol at hF hLI ⊢
  generalize c + 142 = od at hF hLI ⊢
  suffices K : ∀ (n9 m p : Nat) (M : jM) (T : aSt), m < n9 → n < p + 4 * m + 4 → p ≤ n → LI (jCG C) M a n g c o ol od T → J C M (614 * m) (11457 * m) 28 [some (.ref a), some (.ref c), some (.ref o), some (.ref ol), some (.ref od), some (.int (nI p)), none, none, none] [] from K _ 512 0 M6 st0 (Nat.lt_succ_self _) (by omega) (Nat.zero_le _) hLI
  clear hLI hA hz hm2 hm4
  intro n9
  induction n9 with
  | zero => intro m p M T hm; omega
  | succ n9 ih =>
    intro m p M T hm hmn hpn hI
    obtain ⟨R, ⟨Z, v, -, -, -, -, -, hA⟩, -⟩ := id hI
    refine j_iload hC dL_law_28 rfl ?_
    refine j_aload_n hC dL_law_30 rfl (jrf_ref _) ?_
    refine c_alen hC dL_law_31 (hA) ?_
    refine j_iconst (v := nI 4) hC dL_law_32 (by decide) ?_
    refine z_isub (a := ((n : Nat) : Int)) (b := ((4 : Nat) : Int)) hC dL_law_33 ?_
    refine z_icmp_gt (a := ((p : Nat) : Int)) (b := ((((n : Nat) : Int) - ((4 : Nat) : Int)))) (tgt := 2154) hC dL_law_34 (by decide) (by unfold zB; omega) (by unfold zB; omega) (fun c1 => ?_) (fun c1 => ?_)
    · refine j_iconst (v := nI 1) hC dL_law_2154 (by decide) ?_
      exact j_iret hC9 rfl (by decide) dL_law_2155 (hQ _)
    · obtain ⟨m, rfl⟩ : ∃ m', m = m' + 1 := ⟨m - 1, by omega⟩
      have KK : ∀ M2 T2, LI (jCG C) M2 a n g c o ol od T2 → J C M2 (614 * m) (11457 * m) 2148 [some (.ref a), some (.ref c), some (.ref o), some (.ref ol), some (.ref od), some (.int (nI p)), none, none, none] [] := by
        intro M2 T2 h2
        refine j_iinc_5 (v := nI (p + 4)) hC dL_law_2148 (nI_add _ _) (by decide) rfl ?_
        refine j_goto (tgt := 28) hC dL_law_2151 (by decide) ?_
        exact ih m (p + 4) M2 T2 (by omega) (by omega) (by omega) h2
      refine j_aload_n hC dL_law_37 rfl (jrf_ref _) ?_
      refine j_iload hC dL_law_38 rfl ?_
      refine c_iald (i := p) (x := (g (p))) hC dL_law_40 (hA) (by omega) (by omega) (rfl) ?_
      refine j_bipush (v := nI 63) hC dL_law_41 (by decide) ?_
      refine j_iand hC dL_law_43 ?_
      obtain ⟨k, hk, hk9⟩ := and63 (g p)
      refine j_topV (congrArg Value.int hk9) ?_
      by_cases s2 : (k) = 0
      · refine j_tableIn (x := nI (k)) (tgt := 196) hC dL_law_44 (by rw [nI_toInt (by omega)]; omega) (by rw [nI_toInt (by omega)]; omega) (by rw [nI_toInt (by omega), s2]; rfl) (by decide) ?_
        exact lc_clear hC9 hF hI (by omega) KK
      by_cases s3 : (k) = 1
      · refine j_tableIn (x := nI (k)) (tgt := 209) hC dL_law_44 (by rw [nI_toInt (by omega)]; omega) (by rw [nI_toInt (by omega)]; omega) (by rw [nI_toInt (by omega), s3]; rfl) (by decide) ?_
        exact lc_append hC9 hF hI (by omega) KK
      by_cases s4 : (k) = 2
      · refine j_tableIn (x := nI (k)) (tgt := 265) hC dL_law_44 (by rw [nI_toInt (by omega)]; omega) (by rw [nI_toInt (by omega)]; omega) (by rw [nI_toInt (by omega), s4]; rfl) (by decide) ?_
        exact lc_addRecord hC9 hF hI (by omega) KK
      by_cases s5 : (k) = 3
      · refine j_tableIn (x := nI (k)) (tgt := 333) hC dL_law_44 (by rw [nI_toInt (by omega)]; omega) (by rw [nI_toInt (by omega)]; omega) (by rw [nI_toInt (by omega), s5]; rfl) (by decide) ?_
        exact lc_removeRecord hC9 hF hI (by omega) KK
      by_cases s6 : (k) = 4
      · refine j_tableIn (x := nI (k)) (tgt := 389) hC dL_law_44 (by rw [nI_toInt (by omega)]; omega) (by rw [nI_toInt (by omega)]; omega) (by rw [nI_toInt (by omega), s6]; rfl) (by decide) ?_
        exact lc_moveRecord hC9 hF hI (by omega) KK
      by_cases s7 : (k) = 5
      · refine j_tableIn (x := nI (k)) (tgt := 457) hC dL_law_44 (by rw [nI_toInt (by omega)]; omega) (by rw [nI_toInt (by omega)]; omega) (by rw [nI_toInt (by omega), s7]; rfl) (by decide) ?_
        exact lc_sort hC9 hF hI (by omega) KK
      by_cases s8 : (k) = 6
      · refine j_tableIn (x := nI (k)) (tgt := 541) hC dL_law_44 (by rw [nI_toInt (by omega)]; omega) (by rw [nI_toInt (by omega)]; omega) (by rw [nI_toInt (by omega), s8]; rfl) (by decide) ?_
        exact lc_setField hC9 hF hI (by omega) KK
      by_cases s9 : (k) = 7
      · refine j_tableIn (x := nI (k)) (tgt := 609) hC dL_law_44 (by rw [nI_toInt (by omega)]; omega) (by rw [nI_toInt (by omega)]; omega) (by rw [nI_toInt (by omega), s9]; rfl) (by decide) ?_
        exact lc_setNumber hC9 hF hI (by omega) KK
      by_cases s10 : (k) = 8
      · refine j_tableIn (x := nI (k)) (tgt := 705) hC dL_law_44 (by rw [nI_toInt (by omega)]; omega) (by rw [nI_toInt (by omega)]; omega) (by rw [nI_toInt (by omega), s10]; rfl) (by decide) ?_
        exact lc_field hC9 hF hI (by omega) KK
      by_cases s11 : (k) = 9
      · refine j_tableIn (x := nI (k)) (tgt := 785) hC dL_law_44 (by rw [nI_toInt (by omega)]; omega) (by rw [nI_toInt (by omega)]; omega) (by rw [nI_toInt (by omega), s11]; rfl) (by decide) ?_
        exact lc_record hC9 hF hI (by omega) KK
      by_cases s12 : (k) = 10
      · refine j_tableIn (x := nI (k)) (tgt := 853) hC dL_law_44 (by rw [nI_toInt (by omega)]; omega) (by rw [nI_toInt (by omega)]; omega) (by rw [nI_toInt (by omega), s12]; rfl) (by decide) ?_
        exact lc_setTemplate hC9 hF hI (by omega) KK
      by_cases s13 : (k) = 11
      · refine j_tableIn (x := nI (k)) (tgt := 897) hC dL_law_44 (by rw [nI_toInt (by omega)]; omega) (by rw [nI_toInt (by omega)]; omega) (by rw [nI_toInt (by omega), s13]; rfl) (by decide) ?_
        exact lc_errorPosition hC9 hF hI (by omega) KK
      by_cases s14 : (k) = 12
      · refine j_tableIn (x := nI (k)) (tgt := 941) hC dL_law_44 (by rw [nI_toInt (by omega)]; omega) (by rw [nI_toInt (by omega)]; omega) (by rw [nI_toInt (by omega), s14]; rfl) (by decide) ?_
        exact lc_template hC9 hF hI (by omega) KK
      by_cases s15 : (k) = 13
      · refine j_tableIn (x := nI (k)) (tgt := 997) hC dL_law_44 (by rw [nI_toInt (by omega)]; omega) (by rw [nI_toInt (by omega)]; omega) (by rw [nI_toInt (by omega), s15]; rfl) (by decide) ?_
        exact lc_item hC9 hF hI (by omega) KK
      by_cases s16 : (k) = 14
      · refine j_tableIn (x := nI (k)) (tgt := 1065) hC dL_law_44 (by rw [nI_toInt (by omega)]; omega) (by rw [nI_toInt (by omega)]; omega) (by rw [nI_toInt (by omega), s16]; rfl) (by decide) ?_
        exact lc_counts hC9 hF hI (by omega) KK
      by_cases s17 : (k) = 15
      · refine j_tableIn (x := nI (k)) (tgt := 1140) hC dL_law_44 (by rw [nI_toInt (by omega)]; omega) (by rw [nI_toInt (by omega)]; omega) (by rw [nI_toInt (by omega), s17]; rfl) (by decide) ?_
        exact lc_setHome hC9 hF hI (by omega) KK
      by_cases s18 : (k) = 16
      · refine j_tableIn (x := nI (k)) (tgt := 1184) hC dL_law_44 (by rw [nI_toInt (by omega)]; omega) (by rw [nI_toInt (by omega)]; omega) (by rw [nI_toInt (by omega), s18]; rfl) (by decide) ?_
        exact lc_setKeys hC9 hF hI (by omega) KK
      by_cases s19 : (k) = 17
      · refine j_tableIn (x := nI (k)) (tgt := 1240) hC dL_law_44 (by rw [nI_toInt (by omega)]; omega) (by rw [nI_toInt (by omega)]; omega) (by rw [nI_toInt (by omega), s19]; rfl) (by decide) ?_
        exact lc_setPolicy hC9 hF hI (by omega) KK
      by_cases s20 : (k) = 18
      · refine j_tableIn (x := nI (k)) (tgt := 1296) hC dL_law_44 (by rw [nI_toInt (by omega)]; omega) (by rw [nI_toInt (by omega)]; omega) (by rw [nI_toInt (by omega), s20]; rfl) (by decide) ?_
        exact lc_exclude hC9 hF hI (by omega) KK
      by_cases s21 : (k) = 19
      · refine j_tableIn (x := nI (k)) (tgt := 1387) hC dL_law_44 (by rw [nI_toInt (by omega)]; omega) (by rw [nI_toInt (by omega)]; omega) (by rw [nI_toInt (by omega), s21]; rfl) (by decide) ?_
        exact lc_setLimit hC9 hF hI (by omega) KK
      by_cases s22 : (k) = 20
      · refine j_tableIn (x := nI (k)) (tgt := 1443) hC dL_law_44 (by rw [nI_toInt (by omega)]; omega) (by rw [nI_toInt (by omega)]; omega) (by rw [nI_toInt (by omega), s22]; rfl) (by decide) ?_
        exact lc_setting hC9 hF hI (by omega) KK
      by_cases s23 : (k) = 21
      · refine j_tableIn (x := nI (k)) (tgt := 1499) hC dL_law_44 (by rw [nI_toInt (by omega)]; omega) (by rw [nI_toInt (by omega)]; omega) (by rw [nI_toInt (by omega), s23]; rfl) (by decide) ?_
        exact lc_run hC9 hF hI (by omega) KK
      by_cases s24 : (k) = 22
      · refine j_tableIn (x := nI (k)) (tgt := 1543) hC dL_law_44 (by rw [nI_toInt (by omega)]; omega) (by rw [nI_toInt (by omega)]; omega) (by rw [nI_toInt (by omega), s24]; rfl) (by decide) ?_
        exact lc_reason hC9 hF hI (by omega) KK
      by_cases s25 : (k) = 23
      · refine j_tableIn (x := nI (k)) (tgt := 1599) hC dL_law_44 (by rw [nI_toInt (by omega)]; omega) (by rw [nI_toInt (by omega)]; omega) (by rw [nI_toInt (by omega), s25]; rfl) (by decide) ?_
        exact lc_reasons hC9 hF hI (by omega) KK
      by_cases s26 : (k) = 24
      · refine j_tableIn (x := nI (k)) (tgt := 1655) hC dL_law_44 (by rw [nI_toInt (by omega)]; omega) (by rw [nI_toInt (by omega)]; omega) (by rw [nI_toInt (by omega), s26]; rfl) (by decide) ?_
        exact lc_letter hC9 hF hI (by omega) KK
      by_cases s27 : (k) = 25
      · refine j_tableIn (x := nI (k)) (tgt := 1723) hC dL_law_44 (by rw [nI_toInt (by omega)]; omega) (by rw [nI_toInt (by omega)]; omega) (by rw [nI_toInt (by omega), s27]; rfl) (by decide) ?_
        exact lc_chain hC9 hF hI (by omega) KK
      by_cases s28 : (k) = 26
      · refine j_tableIn (x := nI (k)) (tgt := 1791) hC dL_law_44 (by rw [nI_toInt (by omega)]; omega) (by rw [nI_toInt (by omega)]; omega) (by rw [nI_toInt (by omega), s28]; rfl) (by decide) ?_
        exact lc_kept hC9 hF hI (by omega) KK
      by_cases s29 : (k) = 27
      · refine j_tableIn (x := nI (k)) (tgt := 1847) hC dL_law_44 (by rw [nI_toInt (by omega)]; omega) (by rw [nI_toInt (by omega)]; omega) (by rw [nI_toInt (by omega), s29]; rfl) (by decide) ?_
        exact lc_preview hC9 hF hI (by omega) KK
      by_cases s30 : (k) = 28
      · refine j_tableIn (x := nI (k)) (tgt := 1903) hC dL_law_44 (by rw [nI_toInt (by omega)]; omega) (by rw [nI_toInt (by omega)]; omega) (by rw [nI_toInt (by omega), s30]; rfl) (by decide) ?_
        exact lc_meanLength hC9 hF hI (by omega) KK
      by_cases s31 : (k) = 29
      · refine j_tableIn (x := nI (k)) (tgt := 1968) hC dL_law_44 (by rw [nI_toInt (by omega)]; omega) (by rw [nI_toInt (by omega)]; omega) (by rw [nI_toInt (by omega), s31]; rfl) (by decide) ?_
        exact lc_share hC9 hF hI (by omega) KK
      by_cases s32 : (k) = 30
      · refine j_tableIn (x := nI (k)) (tgt := 2034) hC dL_law_44 (by rw [nI_toInt (by omega)]; omega) (by rw [nI_toInt (by omega)]; omega) (by rw [nI_toInt (by omega), s32]; rfl) (by decide) ?_
        exact lc_isOrderFree hC9 hF hI (by omega) KK
      by_cases s33 : (k) = 31
      · refine j_tableIn (x := nI (k)) (tgt := 2047) hC dL_law_44 (by rw [nI_toInt (by omega)]; omega) (by rw [nI_toInt (by omega)]; omega) (by rw [nI_toInt (by omega), s33]; rfl) (by decide) ?_
        exact lc_undo hC9 hF hI (by omega) KK
      by_cases s34 : (k) = 32
      · refine j_tableIn (x := nI (k)) (tgt := 2091) hC dL_law_44 (by rw [nI_toInt (by omega)]; omega) (by rw [nI_toInt (by omega)]; omega) (by rw [nI_toInt (by omega), s34]; rfl) (by decide) ?_
        exact lc_snapshot hC9 hF hI (by omega) KK
      by_cases s35 : (k) = 33
      · refine j_tableIn (x := nI (k)) (tgt := 2104) hC dL_law_44 (by rw [nI_toInt (by omega)]; omega) (by rw [nI_toInt (by omega)]; omega) (by rw [nI_toInt (by omega), s35]; rfl) (by decide) ?_
        exact lc_restore hC9 hF hI (by omega) KK
      refine j_tableOut (x := nI (k)) (tgt := 2148) hC dL_law_44 (by rw [nI_toInt (by omega)]; omega) (by decide) ?_
      exact j_less (by omega) (by omega) (KK _ _ hI)
