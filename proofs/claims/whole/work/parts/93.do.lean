/-! ===== the merger: append ===== -/
set_option maxHeartbeats 4000000 in
set_option maxRecDepth 100000 in
theorem m_X9_append {G : jG} {M : jM} {c v : Nat} {S : aSet} {P : List aSet} {V : Option aSet} {b : List Nat} {e : Option Nat} {u : Option aRun} {Z : jH} {q : Int32} (hs : (gL G).stackTraces = false) (h : cJ G M Z c v S P V b e u)  : JMet G jX9_append [.ref c, .int q] (M) 4 568 6 (COq G M Z c v (opAppend q) (S, P, V, b, e, u)) (COx G M Z c v (opAppend q) ["java/lang/IllegalArgumentException", "java/lang/IllegalStateException"] (S, P, V, b, e, u)) := by
  refine jMet_of [some (.ref (c)), some (.int (q)), none, none, none] (by decide) rfl (Nat.le_of_ble_eq_true rfl) (rfl) hs ?_
  intro C hC9 hG
  have hC := hC9.z
  have hs9 := jOK0_tr hC
  refine j_lt (fun hlt => ?_)
  have hBg : jB C = gB G := by rw [jB, hG]
  subst hG
  obtain ⟨⟨a1, za⟩, ⟨⟨cap, hbu⟩, zb1, zbv, hv, hb120, hbc⟩, ⟨hS, zs3, zs4⟩, ⟨hVX, zv8, zv9, hVs⟩, ⟨pa, hPa⟩, ⟨ho, zo, hon⟩, ⟨⟨dX, dk, dr, dl, dch, hd⟩, zd⟩, ⟨⟨od, hod⟩, zn79⟩, ⟨hz, hkr, hBc, ⟨mk, hmk⟩⟩, hP8, hE⟩ := id h
  obtain ⟨p1, zp13, p3, p4, p5, p6⟩ := id hPa
  obtain ⟨⟨mb, bu, hb1, hb2, hb3, hb4, hb5⟩, hb6, hb7⟩ := id hbu
  obtain ⟨⟨lay, home, ff, xe, u1, u2, u5, u3, u6, u7⟩, u4⟩ := id hS
  obtain ⟨ho1, ho2, ho3, ho4, ho5⟩ := id ho
  have hn20 : (sRecs S).length ≤ 20 := u4.1.1
  have hk32 : sKeys S < 32 := u4.1.2.1
  have hp3 : sPol S < 3 := u4.1.2.2.1
  have ho10 : sOut S < 1024 := u4.1.2.2.2.1
  have hl2 : sLim S ≤ 200 := u4.1.2.2.2.2.1.2
  have hl1 : 1 ≤ sLim S := u4.1.2.2.2.2.1.1
  have hmk9 := hlt _ _ hmk
  refine j_iconst (v := nI 0) hC dX9_append_0 (by decide) ?_
  refine j_istore_n2 hC dX9_append_1 (by decide) rfl ?_
  refine j_bipush (v := nI 24) hC dX9_append_2 (by decide) ?_
  refine j_top (show _ = zI (24 - 8 * ((0 : Nat) : Int)) from by decide) ?_
  refine j_istore_n3 hC dX9_append_4 (by decide) rfl ?_
  suffices K : ∀ (n9 : Nat) (i : Nat), 4 - i < n9 → (i ≤ 4) → (nzOK q i) → J C (M) 4 568 5 [some (.ref (c)), some (.int (q)), some (.int (nI ((nz q i).length))), some (.int (zI ((24 - 8 * ((i : Nat) : Int))))), none] [] from j_M (rfl) (K _ (0) (Nat.lt_succ_self _) (by decide) (nzOK_0))
  intro n9
  induction n9 with
  | zero => intro i hm; omega
  | succ n9 ih =>
    intro i hm hi hok
    have hby := byteN_lt (p := q) (k := 3 - i)
    refine j_iload_n hC dX9_append_5 rfl ?_
    refine z_if_lt (a := ((24 - 8 * ((i : Nat) : Int)))) (tgt := 64) hC dX9_append_6 (by decide) (by unfold zB; omega) (fun c1 => ?_) (fun c1 => ?_)
    · obtain rfl : i = 4 := by omega
      have hok4 : nzOK q 4 := hok
      have hn44 := nz_lt4 (p := q) (i := 4)
      refine j_L (jle_s (jle_s (jle_s (jle_n (jle_s (jle_0)))))) ?_
      refine j_aload_n hC dX9_append_64 rfl (jrf_ref _) ?_
      refine j_get (v := .ref (c + 1)) hC kf_X9_10 dX9_append_65 (a1) (rfl) ?_
      refine c_V hC kv_X9_76 dX9_append_68 (m_J4_length_8abf5 hs9 (hb1)) (hb1) rfl rfl rfl rfl (by decide) (Nat.le_of_ble_eq_true rfl) ?_
      refine j_iload_n hC dX9_append_71 rfl ?_
      refine n_iadd hC dX9_append_72 ?_
      refine j_bipush (v := nI 120) hC dX9_append_73 (by decide) ?_
      refine n_icmp_le (tgt := 88) hC dX9_append_75 (by decide) (by omega) (by omega) (fun c2 => ?_) (fun c2 => ?_)
      · refine j_bipush (v := nI 24) hC dX9_append_88 (by decide) ?_
        refine j_top (show _ = zI (24 - 8 * ((0 : Nat) : Int)) from by decide) ?_
        refine j_istore_n3 hC dX9_append_90 (by decide) rfl ?_
        suffices K : ∀ (n9 : Nat) (Mr : jM) (i vr capr : Nat), 9 - i < n9 → i ≤ 4 → bufR Mr.1 (c + 1) vr capr (b ++ nz q i) → kept M Mr (fun a => a = c + 1 ∨ a = v) → (vr = v ∨ (M.1 vr = none ∧ c + 120 ≤ vr ∧ v < vr)) → J C Mr (4 - i) (142 * (4 - i)) 91 [some (.ref c), some (.int q), none, some (.int (zI (24 - 8 * ((i : Nat) : Int)))), none] [] by
          refine j_L (jle_s (jle_s (jle_n (jle_s (jle_s (jle_0)))))) (K _ M 0 v cap (Nat.lt_succ_self _) (Nat.zero_le _) (by rw [show nz q 0 = [] from rfl, List.append_nil]; exact hbu) kept_refl (Or.inl rfl))
        intro n9
        induction n9 with
        | zero => intro Mr i vr capr hm; omega
        | succ n9 ih =>
          intro Mr i vr capr hm hi hbr hkr2 hvr
          have hby := byteN_lt (p := q) (k := 3 - i)
          obtain ⟨⟨mbr, bur, hbr1, hbr2, hbr3, hbr4, hbr5⟩, hbr6, hbr7⟩ := id hbr
          have hnl : (b ++ nz q i).length ≤ 120 := by rw [List.length_append]; have := nz_le (p := q) (i := i); omega
          refine j_iload_n hC dX9_append_91 rfl ?_
          refine z_if_lt (a := ((24 - 8 * ((i : Nat) : Int)))) (tgt := 124) hC dX9_append_92 (by decide) (by unfold zB; omega) (fun c3 => ?_) (fun c3 => ?_)
          · obtain rfl : i = 4 := by omega
            have hzvr : Z vr = none := by
              rcases hvr with e9 | e9
              · rw [e9]; exact zbv
              · exact zg_at hz e9.1
            have hzM : sub Z Mr.1 := fun a o e9 => hkr2 a o (hz a o e9) (fun e8 => by rcases e8 with e8 | e8 <;> rw [e8] at e9; exact absurd (e9.symm.trans zb1) (by simp); exact absurd (e9.symm.trans zbv) (by simp))
            have hle4 : (b ++ nz q 4).length ≤ 120 := by rw [List.length_append]; omega
            refine j_aload_n hC dX9_append_124 rfl (jrf_ref _) ?_
            refine j_get (v := .ref (c + 1)) hC kf_X9_10 dX9_append_125 (hkr2 _ _ a1 (by omega)) (rfl) ?_
            refine c_V hC kv_X9_76 dX9_append_128 (m_J4_length_8abf5 hs9 (hbr1)) (hbr1) rfl rfl rfl rfl (by decide) (Nat.le_of_ble_eq_true rfl) ?_
            rw [List.length_append]
            exact j_iret hC9 rfl (rfl) dX9_append_131 (cr_of (T' := setBuf (S, P, V, b, e, u) (b ++ nz q 4)) (app_0 (T := (S, P, V, b, e, u)) hok4 (by assumption)) ⟨Z, vr, cJ.bufv h hbr ⟨hle4, fun x hx => (List.mem_append.mp hx).elim (fun e9 => hbc x e9) (fun e9 => hok4 x e9)⟩ zg_refl hzM hzvr (hvr.elim (fun e9 => by rw [e9]; exact hv) (fun e9 => Or.inr e9.2.1)) hkr2, fun a o ha hn => hkr2 a o ha (fun e9 => hn (e9.elim (fun e8 => Or.inr ⟨by omega, by omega⟩) Or.inl)), hvr.elim Or.inl (fun e9 => Or.inr e9.1), fun _ _ e9 => Or.inl e9⟩)
          · refine j_iload_n hC dX9_append_95 rfl ?_
            refine j_iload_n hC dX9_append_96 rfl ?_
            refine c_S hC ks_X9_65 rfl dX9_append_97 (m_X9_byteAt (i := i) hs9 rfl (by omega)) rfl rfl (by decide) (Nat.le_of_ble_eq_true rfl) ?_
            refine j_istore_4 hC dX9_append_100 (by decide) rfl ?_
            refine j_iload hC dX9_append_102 rfl ?_
            refine n_if_eq (tgt := 118) hC dX9_append_104 (by decide) (by omega) (fun c4 => ?_) (fun c4 => ?_)
            · refine j_iinc_3 (v := zI (((24 - 8 * ((i : Nat) : Int)) + (-8)))) hC dX9_append_118 (zI_add _ (-8)) (by decide) rfl ?_
              refine j_goto (tgt := 91) hC dX9_append_121 (by decide) ?_
              refine j_L (jle_s (jle_s (jle_s (jle_s (jle_n (jle_0)))))) ?_
              rw [show ((24 - 8 * ((i : Nat) : Int)) + (-8)) = 24 - 8 * ((i + 1 : Nat) : Int) by omega]
              refine j_less (kc' := 4 - (i + 1)) (ks' := 142 * (4 - (i + 1))) (by omega) (by omega) ?_
              exact ih Mr (i + 1) vr capr (by omega) (by omega) (by rw [nz_z (by omega) (by assumption)]; exact hbr) hkr2 hvr
            · refine j_aload_n hC dX9_append_107 rfl (jrf_ref _) ?_
              refine j_get (v := .ref (c + 1)) hC kf_X9_10 dX9_append_108 (hkr2 _ _ a1 (by omega)) (rfl) ?_
              refine j_iload hC dX9_append_111 rfl ?_
              have hmem := hok4 _ (nz_mem (p := q) (i := i) (by omega) (by assumption))
              refine j_i2c hC dX9_append_113 ?_
              refine j_top (i2c_chr _ (by omega)) ?_
              have hlt9 : (b ++ nz q i).length < 120 := by
                rw [List.length_append]
                have h1 := nz_len (p := q) (i := i) (by omega)
                rw [if_neg (by assumption)] at h1
                have := nz_le (p := q) (i := i + 1)
                omega
              refine j_less (kc' := (4 - (i + 1)) + 1) (ks' := 142 * (4 - (i + 1)) + 142) (by omega) (by omega) ?_
              refine j_lt (fun hltr => ?_)
              refine c_Pv (kc := 4 - (i + 1)) (ks := 142 * (4 - (i + 1))) hC kv_X9_85 dX9_append_114 (m_J4_append_cf468 (b := c + 1) (v := vr) (cap := capr) hs9 hbr (by omega) hlt9 (by omega) (by omega) (by omega)) hbr1 rfl rfl rfl rfl (by decide) (Nat.le_of_ble_eq_true rfl) ?_
              intro v9 M1 h9
              obtain ⟨rfl, v1, cap1, f1, f2, f3⟩ := h9
              have hmk2 := hltr _ _ (hkr2 _ _ hmk (by omega))
              have hv9 : v1 = v ∨ (M.1 v1 = none ∧ c + 120 ≤ v1 ∧ v < v1) := by
                rcases f2 with e9 | e9
                · rw [e9]; exact hvr
                · right
                  have hm2 := hltr _ _ hbr2
                  refine ⟨?_, by omega, by rcases hvr with e6 | e6 <;> omega⟩
                  cases e8 : M.1 v1 with
                  | none => rfl
                  | some o =>
                    have hne : ¬ (v1 = c + 1 ∨ v1 = v) := by rcases hvr with e6 | e6 <;> omega
                    have := hltr _ _ (hkr2 _ _ e8 hne)
                    omega
              refine j_pop hC dX9_append_117 rfl ?_
              refine j_iinc_3 (v := zI (((24 - 8 * ((i : Nat) : Int)) + (-8)))) hC dX9_append_118 (zI_add _ (-8)) (by decide) rfl ?_
              refine j_goto (tgt := 91) hC dX9_append_121 (by decide) ?_
              refine j_L (jle_s (jle_s (jle_s (jle_s (jle_n (jle_0)))))) ?_
              rw [show ((24 - 8 * ((i : Nat) : Int)) + (-8)) = 24 - 8 * ((i + 1 : Nat) : Int) by omega]
              exact ih M1 (i + 1) v1 cap1 (by omega) (by omega) (by rw [nz_s (by omega) (by assumption), ← List.append_assoc]; exact f1) (fun a o ha hn => f3 a o (hkr2 a o ha hn) (fun e9 => by rcases e9 with e9 | e9; exact hn (Or.inl e9); rcases hvr with e8 | e8; exact hn (Or.inr (e9.trans e8)); rw [e9, e8.1] at ha; cases ha)) hv9
      · exact j_throwS hC9 (i := 2) rfl kt_X9_80 rfl dX9_append_78 dX9_append_81 dX9_append_82 dX9_append_84 dX9_append_87 (by decide) (by decide) (by decide) (Nat.le_of_ble_eq_true rfl) (fun n9 => cx_of (k := 1) (x := nI 0) (T' := (S, P, V, b, e, u)) (app_2 (p := q) (T := (S, P, V, b, e, u)) hok4 (by omega)) rfl (cQ_same h rfl))
    · refine j_iload_n hC dX9_append_9 rfl ?_
      refine j_iload_n hC dX9_append_10 rfl ?_
      refine c_S hC ks_X9_65 rfl dX9_append_11 (m_X9_byteAt (i := i) hs9 rfl (by omega)) rfl rfl (by decide) (Nat.le_of_ble_eq_true rfl) ?_
      refine j_istore_4 hC dX9_append_14 (by decide) rfl ?_
      refine j_iload hC dX9_append_16 rfl ?_
      refine n_if_eq (tgt := 45) hC dX9_append_18 (by decide) (by omega) (fun c5 => ?_) (fun c5 => ?_)
      · refine j_iload_n hC dX9_append_45 rfl ?_
        suffices K : J C (M) 4 568 56 [some (.ref (c)), some (.int (q)), some (.int (nI ((nz q i).length))), some (.int (zI ((24 - 8 * ((i : Nat) : Int))))), some (.int (nI (byteN q (3 - i))))] [.int (nI ((if byteN q (3 - i) = 0 then 0 else 1))), .int (nI ((nz q i).length))] by
          refine j_iload hC dX9_append_46 rfl ?_
          refine n_if_ne (tgt := 55) hC dX9_append_48 (by decide) (by omega) (fun c6 => ?_) (fun c6 => ?_)
          · refine j_iconst (v := nI 1) hC dX9_append_55 (by decide) ?_
            exact j_top (by rw [if_neg (by assumption)]) K
          · refine j_iconst (v := nI 0) hC dX9_append_51 (by decide) ?_
            refine j_goto (tgt := 56) hC dX9_append_52 (by decide) ?_
            exact j_top (by rw [if_pos (by assumption)]) K
        refine n_iadd hC dX9_append_56 ?_
        refine j_istore_n2 hC dX9_append_57 (by decide) rfl ?_
        refine j_iinc_3 (v := zI (((24 - 8 * ((i : Nat) : Int)) + (-8)))) hC dX9_append_58 (zI_add _ (-8)) (by decide) rfl ?_
        rw [show ((24 - 8 * ((i : Nat) : Int)) + (-8)) = 24 - 8 * ((i + 1 : Nat) : Int) by omega, nz_len (by omega)]
        refine j_goto (tgt := 5) hC dX9_append_61 (by decide) ?_
        exact j_M (rfl) (j_L (jle_s (jle_s (jle_s (jle_s (jle_n (jle_0)))))) (ih (i + 1) (by omega) (by omega) (nz_bb hok (by omega) (by first | exact Or.inl (by assumption) | exact Or.inr ⟨by omega, by omega⟩))))
      · refine j_iload hC dX9_append_21 rfl ?_
        refine j_bipush (v := nI 32) hC dX9_append_23 (by decide) ?_
        refine n_icmp_lt (tgt := 35) hC dX9_append_25 (by decide) (by omega) (by omega) (fun c7 => ?_) (fun c7 => ?_)
        · exact j_throwS hC9 (i := 1) rfl kt_X9_69 rfl dX9_append_35 dX9_append_38 dX9_append_39 dX9_append_41 dX9_append_44 (by decide) (by decide) (by decide) (Nat.le_of_ble_eq_true rfl) (fun n9 => cx_of (k := 0) (x := nI 0) (T' := (S, P, V, b, e, u)) (app_1 (p := q) (T := (S, P, V, b, e, u)) (i := i) (by omega) (by assumption) (by omega)) rfl (cQ_same h rfl))
        · refine j_iload hC dX9_append_28 rfl ?_
          refine j_bipush (v := nI 126) hC dX9_append_30 (by decide) ?_
          refine n_icmp_le (tgt := 45) hC dX9_append_32 (by decide) (by omega) (by omega) (fun c8 => ?_) (fun c8 => ?_)
          · refine j_iload_n hC dX9_append_45 rfl ?_
            suffices K : J C (M) 4 568 56 [some (.ref (c)), some (.int (q)), some (.int (nI ((nz q i).length))), some (.int (zI ((24 - 8 * ((i : Nat) : Int))))), some (.int (nI (byteN q (3 - i))))] [.int (nI ((if byteN q (3 - i) = 0 then 0 else 1))), .int (nI ((nz q i).length))] by
              refine j_iload hC dX9_append_46 rfl ?_
              refine n_if_ne (tgt := 55) hC dX9_append_48 (by decide) (by omega) (fun c9 => ?_) (fun c9 => ?_)
              · refine j_iconst (v := nI 1) hC dX9_append_55 (by decide) ?_
                exact j_top (by rw [if_neg (by assumption)]) K
              · refine j_iconst (v := nI 0) hC dX9_append_51 (by decide) ?_
                refine j_goto (tgt := 56) hC dX9_append_52 (by decide) ?_
                exact j_top (by rw [if_pos (by assumption)]) K
            refine n_iadd hC dX9_append_56 ?_
            refine j_istore_n2 hC dX9_append_57 (by decide) rfl ?_
            refine j_iinc_3 (v := zI (((24 - 8 * ((i : Nat) : Int)) + (-8)))) hC dX9_append_58 (zI_add _ (-8)) (by decide) rfl ?_
            rw [show ((24 - 8 * ((i : Nat) : Int)) + (-8)) = 24 - 8 * ((i + 1 : Nat) : Int) by omega, nz_len (by omega)]
            refine j_goto (tgt := 5) hC dX9_append_61 (by decide) ?_
            exact j_M (rfl) (j_L (jle_s (jle_s (jle_s (jle_s (jle_n (jle_0)))))) (ih (i + 1) (by omega) (by omega) (nz_bb hok (by omega) (by first | exact Or.inl (by assumption) | exact Or.inr ⟨by omega, by omega⟩))))
          · exact j_throwS hC9 (i := 1) rfl kt_X9_69 rfl dX9_append_35 dX9_append_38 dX9_append_39 dX9_append_41 dX9_append_44 (by decide) (by decide) (by decide) (Nat.le_of_ble_eq_true rfl) (fun n9 => cx_of (k := 0) (x := nI 0) (T' := (S, P, V, b, e, u)) (app_1 (p := q) (T := (S, P, V, b, e, u)) (i := i) (by omega) (by assumption) (by omega)) rfl (cQ_same h rfl))
