/-! ===== a reader of templates: literals ===== -/
/-- what never changes: all from b on, and what was frozen before -/
def zf (Z H : jH) (b : Nat) : jH := fun c => if b ≤ c then H c else Z c
theorem zf_in {Z H : jH} {b c : Nat} (h : b ≤ c) : zf Z H b c = H c := if_pos h
theorem zf_sub {Z H : jH} {b : Nat} (h : sub Z H) : sub Z (zf Z H b) := fun c o hc => by
  unfold zf
  split
  · exact h c o hc
  · exact hc
section LI
variable {L : List Nat} {i f : Nat}
theorem lit_go (h : isLit (pC L i) = true) : pLit L (f + 1) i = pLit L f (i + 1) := if_pos h
theorem lit_stop (h : ¬ isLit (pC L i) = true) : pLit L f i = i := by
  cases f with
  | zero => rfl
  | succ f => exact if_neg h
theorem lit_0 : ¬ isLit 0 = true := by decide
end LI
theorem subT_all {L : List Nat} : subT L 0 L.length = L := by
  refine List.ext_getElem? (fun j => ?_)
  by_cases h : j < L.length
  · have e := subT_at (L := L) (a := 0) h
    rw [Nat.zero_add, List.getD_eq_getElem?_getD, List.getD_eq_getElem?_getD, List.getElem?_eq_getElem h, List.getElem?_eq_getElem (by rw [subT_len]; exact h)] at e
    rw [List.getElem?_eq_getElem h, List.getElem?_eq_getElem (by rw [subT_len]; exact h)]
    exact congrArg some e
  · rw [List.getElem?_eq_none (by rw [subT_len]; omega), List.getElem?_eq_none (by omega)]
theorem subT_ok {L : List Nat} {a k : Nat} (h : tOK L) (hk : k ≤ 500) : tOK (subT L a k) := by
  refine ⟨by rw [subT_len]; exact hk, fun c hc => ?_⟩
  obtain ⟨j, hj, rfl⟩ := List.getElem_of_mem hc
  have hj2 : j < k := by rwa [subT_len] at hj
  have e := subT_at (L := L) (a := a) hj2
  rw [List.getD_eq_getElem?_getD, List.getElem?_eq_getElem hj] at e
  rw [show (subT L a k)[j] = L.getD (a + j) 0 from e]
  exact chr_le h
set_option maxHeartbeats 4000000 in
set_option maxRecDepth 100000 in
theorem m_X7_takeLiterals {G : jG} {M : jM} {a tx dp : Nat} {L : List Nat} {σ : pS} {Z : jH} (hs : (gL G).stackTraces = false) (h1 : M.1 a = some (.inr (11, rdF a tx σ dp))) (htx : strR Z tx L) (hz : sub Z M.1) (hza : Z a = none) (hBa : gB G ≤ a) (hL : L.length ≤ 120) (hp : σ.1 ≤ L.length) (hk1 : strR Z (gK G 19) litT) (hk2 : strR Z (gK G 22) []) (hBt : ∀ b fs, Z tx = some (.inr (0, fs)) → fs[0]? = some (.ref b) → gB G ≤ b) (hok : σ.2 = true) : JMet G jX7_takeLiterals [.ref a] (M) 2 130 6 (fun w M' => ∃ p, w = some (.ref p) ∧ M'.1 a = some (.inr (11, rdF a tx (pLit L 120 σ.1, true) dp)) ∧ strR (zf Z M'.1 a) p (subT L σ.1 (pLit L 120 σ.1 - σ.1)) ∧ ∀ b o, M.1 b = some o → b ≠ a → M'.1 b = some o) jNo := by
  refine jMet_of [some (.ref (a)), none, none] (by decide) rfl (Nat.le_of_ble_eq_true rfl) (rfl) hs ?_
  intro C hC9 hG
  have hC := hC9.z
  have hs9 := jOK0_tr hC
  refine j_lt (fun hlt => ?_)
  have hBg : jB C = gB G := by rw [jB, hG]
  subst hG
  have hL5 := htx.2.1
  have hal := hlt _ _ h1
  obtain ⟨fx, hox⟩ := htx.obj
  refine j_aload_n hC dX7_takeLiterals_0 rfl (jrf_ref _) ?_
  refine j_get (v := .int (nI (σ.1))) hC kf_X7_9 dX7_takeLiterals_1 (h1) (rfl) ?_
  refine j_istore_n1 hC dX7_takeLiterals_4 (by decide) rfl ?_
  refine j_aload_n hC dX7_takeLiterals_5 rfl (jrf_ref _) ?_
  refine j_get (v := .int (nI (σ.1))) hC kf_X7_9 dX7_takeLiterals_6 (h1) (rfl) ?_
  refine j_istore_n2 hC dX7_takeLiterals_9 (by decide) rfl ?_
  suffices K : ∀ (n9 : Nat) (i : Nat), L.length - i < n9 → (σ.1 ≤ i ∧ i ≤ L.length) → (pLit L (120 - (i - σ.1)) i = pLit L 120 σ.1) → J C (jput M a (.inr (11, rdV a tx dp i (jb (σ.2 = false))))) 2 130 10 [some (.ref (a)), some (.int (nI (σ.1))), some (.int (nI (i)))] [] from j_M ((jput_self h1).symm) (K _ (σ.1) (Nat.lt_succ_self _) (by omega) (by rw [Nat.sub_self]))
  intro n9
  induction n9 with
  | zero => intro i hm; omega
  | succ n9 ih =>
    intro i hm hi hl
    refine j_iload_n hC dX7_takeLiterals_10 rfl ?_
    refine j_aload_n hC dX7_takeLiterals_11 rfl (jrf_ref _) ?_
    refine j_get (v := .ref (tx)) hC kf_X7_26 dX7_takeLiterals_12 (jput_at) (rfl) ?_
    refine c_V hC kv_X7_32 dX7_takeLiterals_15 (m_J0_length_8abf5 hs9 (htx.mono (sub_put hza hz))) ((htx.mono (sub_put hza hz)).obj.choose_spec) rfl rfl rfl rfl (by decide) (Nat.le_of_ble_eq_true rfl) ?_
    refine n_icmp_ge (tgt := 55) hC dX7_takeLiterals_18 (by decide) (by omega) (by omega) (fun c1 => ?_) (fun c1 => ?_)
    · have hend : pLit L 120 σ.1 = i := by
        rw [← hl]
        refine lit_stop ?_
        rw [pC_beyond (by omega)]; exact lit_0
      refine j_iload_n hC dX7_takeLiterals_55 rfl ?_
      refine j_aload_n hC dX7_takeLiterals_56 rfl (jrf_ref _) ?_
      refine j_get (v := .int (nI (i))) hC kf_X7_9 dX7_takeLiterals_57 (jput_at) (rfl) ?_
      refine n_icmp_ge (tgt := 78) hC dX7_takeLiterals_60 (by decide) (by omega) (by omega) (fun c2 => ?_) (fun c2 => ?_)
      · refine j_ldcS (i := 22) (is := 154) (text := "") hC rfl dX7_takeLiterals_78 ?_
        exact j_aret hC9 rfl (by first | exact Or.inl ⟨_, rfl⟩ | exact Or.inr ⟨_, rfl⟩) dX7_takeLiterals_80 (⟨gK (jCG C) 22, rfl, by rw [hend]; exact jput_at.trans (by rw [show jb (σ.2 = false) = jb (true = false) from jf_o hok]; rfl), by rw [hend, show i - σ.1 = 0 by omega]; exact hk2.mono (zf_sub (sub_put hza hz)), fun b o hb hn => (jput_ne hn).trans hb⟩) (jrf_ref _)
      · refine j_aload_n hC dX7_takeLiterals_63 rfl (jrf_ref _) ?_
        refine j_get (v := .ref (tx)) hC kf_X7_26 dX7_takeLiterals_64 (jput_at) (rfl) ?_
        refine j_iload_n hC dX7_takeLiterals_67 rfl ?_
        refine j_aload_n hC dX7_takeLiterals_68 rfl (jrf_ref _) ?_
        refine j_get (v := .int (nI (i))) hC kf_X7_9 dX7_takeLiterals_69 (jput_at) (rfl) ?_
        refine j_less (kc' := 0 + 2) (ks' := 0 + (i - σ.1 + 4)) (by omega) (by omega) ?_
        refine c_Pv (kc := 0) (ks := 0) hC kv_X7_150 dX7_takeLiterals_72 (m_J0_substring_37a41 hs9 (htx.mono (sub_put hza hz)) (show σ.1 < i by omega) (by omega) (fun b fs e1 e2 => hBt b fs (by rw [(sub_put hza hz) _ _ hox] at e1; cases e1; exact hox) e2)) ((sub_put hza hz) _ _ hox) rfl rfl rfl rfl (by decide) (Nat.le_of_ble_eq_true rfl) ?_
        intro v9 M1 h9
        rcases h9 with ⟨rfl, e9, h0, hle⟩ | ⟨rfl, e1, e2, e3, e4⟩
        · refine j_M e9 ?_
          refine j_goto (tgt := 80) hC dX7_takeLiterals_75 (by decide) ?_
          exact j_aret hC9 rfl (by first | exact Or.inl ⟨_, rfl⟩ | exact Or.inr ⟨_, rfl⟩) dX7_takeLiterals_80 ⟨tx, rfl, by rw [hend]; exact jput_at.trans (by rw [show jb (σ.2 = false) = jb (true = false) from jf_o hok]; rfl), by rw [hend, h0, hle]; exact (by rw [Nat.sub_zero, subT_all]; exact htx.mono (zf_sub (sub_put hza hz))), fun b o hb hn => (jput_ne hn).trans hb⟩ (jrf_ref _)
        · refine j_goto (tgt := 80) hC dX7_takeLiterals_75 (by decide) ?_
          exact j_aret hC9 rfl (by first | exact Or.inl ⟨_, rfl⟩ | exact Or.inr ⟨_, rfl⟩) dX7_takeLiterals_80 ⟨M.2, rfl, by rw [hend]; exact (e3 _ _ jput_at).trans (by rw [show jb (σ.2 = false) = jb (true = false) from jf_o hok]; rfl), by rw [hend]; exact ⟨⟨M.2 + 1, _, (zf_in (by omega)).trans e1, rfl, rfl, (zf_in (by omega)).trans (by rw [subT_len]; exact e2)⟩, subT_ok htx.2 (by omega)⟩, fun b o hb hn => e3 _ _ ((jput_ne hn).trans hb)⟩ (jrf_ref _)
    · refine j_aload_n hC dX7_takeLiterals_21 rfl (jrf_ref _) ?_
      refine j_get (v := .int (jb (σ.2 = false))) hC kf_X7_22 dX7_takeLiterals_22 (jput_at) (rfl) ?_
      refine jb_if_ne (tgt := 55) hC dX7_takeLiterals_25 (by decide) (fun c3 => ?_) (fun c3 => ?_)
      · exact absurd (show σ.2 = false by assumption) (by rw [hok]; decide)
      · refine j_aload_n hC dX7_takeLiterals_28 rfl (jrf_ref _) ?_
        refine j_get (v := .ref (tx)) hC kf_X7_26 dX7_takeLiterals_29 (jput_at) (rfl) ?_
        refine j_iload_n hC dX7_takeLiterals_32 rfl ?_
        refine c_V hC kv_X7_146 dX7_takeLiterals_33 (m_J0_charAt_5068e hs9 (htx.mono (sub_put hza hz)) (by omega)) ((htx.mono (sub_put hza hz)).obj.choose_spec) rfl rfl rfl rfl (by decide) (Nat.le_of_ble_eq_true rfl) ?_
        have hc7 := chr_le htx.2 (i := i)
        refine c_S hC ks_X7_67 rfl dX7_takeLiterals_36 (m_X7_isLiteral hs9 (hk1.mono (sub_put hza hz)) (by omega)) rfl rfl (by decide) (Nat.le_of_ble_eq_true rfl) ?_
        refine jb_if_eq (tgt := 55) hC dX7_takeLiterals_39 (by decide) (fun c4 => ?_) (fun c4 => ?_)
        · have hend : pLit L 120 σ.1 = i := by
            rw [← hl]
            refine lit_stop ?_
            assumption
          refine j_iload_n hC dX7_takeLiterals_55 rfl ?_
          refine j_aload_n hC dX7_takeLiterals_56 rfl (jrf_ref _) ?_
          refine j_get (v := .int (nI (i))) hC kf_X7_9 dX7_takeLiterals_57 (jput_at) (rfl) ?_
          refine n_icmp_ge (tgt := 78) hC dX7_takeLiterals_60 (by decide) (by omega) (by omega) (fun c5 => ?_) (fun c5 => ?_)
          · refine j_ldcS (i := 22) (is := 154) (text := "") hC rfl dX7_takeLiterals_78 ?_
            exact j_aret hC9 rfl (by first | exact Or.inl ⟨_, rfl⟩ | exact Or.inr ⟨_, rfl⟩) dX7_takeLiterals_80 (⟨gK (jCG C) 22, rfl, by rw [hend]; exact jput_at.trans (by rw [show jb (σ.2 = false) = jb (true = false) from jf_o hok]; rfl), by rw [hend, show i - σ.1 = 0 by omega]; exact hk2.mono (zf_sub (sub_put hza hz)), fun b o hb hn => (jput_ne hn).trans hb⟩) (jrf_ref _)
          · refine j_aload_n hC dX7_takeLiterals_63 rfl (jrf_ref _) ?_
            refine j_get (v := .ref (tx)) hC kf_X7_26 dX7_takeLiterals_64 (jput_at) (rfl) ?_
            refine j_iload_n hC dX7_takeLiterals_67 rfl ?_
            refine j_aload_n hC dX7_takeLiterals_68 rfl (jrf_ref _) ?_
            refine j_get (v := .int (nI (i))) hC kf_X7_9 dX7_takeLiterals_69 (jput_at) (rfl) ?_
            refine j_less (kc' := 0 + 2) (ks' := 0 + (i - σ.1 + 4)) (by omega) (by omega) ?_
            refine c_Pv (kc := 0) (ks := 0) hC kv_X7_150 dX7_takeLiterals_72 (m_J0_substring_37a41 hs9 (htx.mono (sub_put hza hz)) (show σ.1 < i by omega) (by omega) (fun b fs e1 e2 => hBt b fs (by rw [(sub_put hza hz) _ _ hox] at e1; cases e1; exact hox) e2)) ((sub_put hza hz) _ _ hox) rfl rfl rfl rfl (by decide) (Nat.le_of_ble_eq_true rfl) ?_
            intro v9 M1 h9
            rcases h9 with ⟨rfl, e9, h0, hle⟩ | ⟨rfl, e1, e2, e3, e4⟩
            · refine j_M e9 ?_
              refine j_goto (tgt := 80) hC dX7_takeLiterals_75 (by decide) ?_
              exact j_aret hC9 rfl (by first | exact Or.inl ⟨_, rfl⟩ | exact Or.inr ⟨_, rfl⟩) dX7_takeLiterals_80 ⟨tx, rfl, by rw [hend]; exact jput_at.trans (by rw [show jb (σ.2 = false) = jb (true = false) from jf_o hok]; rfl), by rw [hend, h0, hle]; exact (by rw [Nat.sub_zero, subT_all]; exact htx.mono (zf_sub (sub_put hza hz))), fun b o hb hn => (jput_ne hn).trans hb⟩ (jrf_ref _)
            · refine j_goto (tgt := 80) hC dX7_takeLiterals_75 (by decide) ?_
              exact j_aret hC9 rfl (by first | exact Or.inl ⟨_, rfl⟩ | exact Or.inr ⟨_, rfl⟩) dX7_takeLiterals_80 ⟨M.2, rfl, by rw [hend]; exact (e3 _ _ jput_at).trans (by rw [show jb (σ.2 = false) = jb (true = false) from jf_o hok]; rfl), by rw [hend]; exact ⟨⟨M.2 + 1, _, (zf_in (by omega)).trans e1, rfl, rfl, (zf_in (by omega)).trans (by rw [subT_len]; exact e2)⟩, subT_ok htx.2 (by omega)⟩, fun b o hb hn => e3 _ _ ((jput_ne hn).trans hb)⟩ (jrf_ref _)
        · refine j_aload_n hC dX7_takeLiterals_42 rfl (jrf_ref _) ?_
          refine j_iload_n hC dX7_takeLiterals_43 rfl ?_
          refine j_iconst (v := nI 1) hC dX7_takeLiterals_44 (by decide) ?_
          refine n_iadd hC dX7_takeLiterals_45 ?_
          refine c_put2 (fs' := [.ref (a + 4), .int (nI (i + 1)), .ref tx, .ref (a + 3), .int (nI dp), .int (jb (σ.2 = false))]) hC kp_X7_9 dX7_takeLiterals_46 (by omega) (rfl) (rfl) rfl ?_
          refine j_iinc_2 (v := nI (i + 1)) hC dX7_takeLiterals_49 (nI_add _ _) (by decide) rfl ?_
          refine j_goto (tgt := 10) hC dX7_takeLiterals_52 (by decide) ?_
          exact j_M (rfl) (ih (i + 1) (by omega) (by omega) (by rw [← hl, show 120 - (i - σ.1) = (120 - (i + 1 - σ.1)) + 1 by omega, lit_go (by assumption)]))
