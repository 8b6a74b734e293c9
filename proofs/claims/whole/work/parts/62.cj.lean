/-! ===== sheets: a letter under way ===== -/
def shF (a : Nat) (X : List Nat × Bool) (k r lim : Nat) : List Value := [.ref (a + 1), .ref (a + 2), .int (nI X.1.length), .int (nI k), .int (nI r), .int (nI lim), .int (jb (X.2 = true))]
/-- a sheet: its letter so far and whether it was too long, its links, its reason, its limit, its chain -/
def shS (H : jH) (a : Nat) (X : List Nat × Bool) (k r lim : Nat) (ch : Nat → Int32) : Prop := H a = some (.inr (10, shF a X k r lim)) ∧ (∃ g : Nat → Int32, H (a + 1) = some (.inl (.char, 200, fun j => .int (g j))) ∧ ∀ i, i < X.1.length → g i = nI (X.1.getD i 0)) ∧ H (a + 2) = some (.inl (.int, 5, fun j => .int (ch j))) ∧ X.1.length ≤ lim
/-- nothing but the sheet at a has changed -/
def on3 (M M' : jM) (a : Nat) : Prop := ∀ b, b ≠ a → b ≠ a + 1 → b ≠ a + 2 → M'.1 b = M.1 b
def zn3 (Z : jH) (a : Nat) : Prop := Z a = none ∧ Z (a + 1) = none ∧ Z (a + 2) = none
theorem on3_refl {M : jM} {a : Nat} : on3 M M a := fun _ _ _ _ => rfl
theorem on3.trans {M M' M'' : jM} {a : Nat} (h : on3 M M' a) (h2 : on3 M' M'' a) : on3 M M'' a := fun b h1 h3 h4 => (h2 b h1 h3 h4).trans (h b h1 h3 h4)
theorem on3.sub {M M' : jM} {a : Nat} {Z : jH} (h : on3 M M' a) (hz : sub Z M.1) (hn : zn3 Z a) : sub Z M'.1 := fun b o hb => (h b (fun e => by rw [e, hn.1] at hb; cases hb) (fun e => by rw [e, hn.2.1] at hb; cases hb) (fun e => by rw [e, hn.2.2] at hb; cases hb)).trans (hz b o hb)
def putS (lim : Nat) (X : List Nat × Bool) (c : Nat) : List Nat × Bool := if X.1.length < lim then (X.1 ++ [c], X.2) else (X.1, true)
def putsS (lim : Nat) (X : List Nat × Bool) (t : List Nat) : List Nat × Bool := t.foldl (putS lim) X
section PS
variable {lim c i k r r' a : Nat} {X : List Nat × Bool} {t u : List Nat} {M : jM} {ch : Nat → Int32}
theorem putS_t (h : X.1.length < lim) : putS lim X c = (X.1 ++ [c], X.2) := if_pos h
theorem putS_f (h : ¬ X.1.length < lim) : putS lim X c = (X.1, true) := if_neg h
theorem puts_0 : putsS lim X [] = X := rfl
theorem puts_app : putsS lim X (t ++ u) = putsS lim (putsS lim X t) u := List.foldl_append
theorem puts_1 : putsS lim X [c] = putS lim X c := rfl
theorem take_S (h : i < t.length) : t.take (i + 1) = t.take i ++ [t.getD i 0] := by
  rw [List.take_succ, List.getD_eq_getElem?_getD, List.getElem?_eq_getElem h]
  rfl
theorem puts_s (h : i < t.length) : putS lim (putsS lim X (t.take i)) (t.getD i 0) = putsS lim X (t.take (i + 1)) := by
  rw [take_S h, puts_app]
  rfl
theorem puts_e (h : t.length ≤ i) : putsS lim X (t.take i) = putsS lim X t := by rw [List.take_of_length_le h]
theorem shS_r (h : shS M.1 a X k r lim ch) : shS (jput M a (.inr (10, shF a X k r' lim))).1 a X k r' lim ch := ⟨jput_at, h.2.1.elim (fun g e => ⟨g, (jput_ne (show a + 1 ≠ a by omega)).trans e.1, e.2⟩), (jput_ne (show a + 2 ≠ a by omega)).trans h.2.2.1, h.2.2.2⟩
theorem on3_put {x : jO} : on3 M (jput M a x) a := fun b h _ _ => jput_ne h
end PS
theorem ap_g {g : Nat → Int32} {l : List Nat} {c : Nat} (hg : ∀ i, i < l.length → g i = nI (l.getD i 0)) : ∀ i, i < (l ++ [c]).length → upd g l.length (nI c) i = nI ((l ++ [c]).getD i 0) := by
  intro i hi
  rw [List.length_append] at hi
  have hi2 : i < l.length + 1 := hi
  by_cases e : i = l.length
  · subst e
    rw [List.getD_eq_getElem?_getD, List.getElem?_append_right (Nat.le_refl _), Nat.sub_self]
    exact if_pos rfl
  · rw [List.getD_eq_getElem?_getD, List.getElem?_append_left (by omega), ← List.getD_eq_getElem?_getD]
    exact (if_neg e).trans (hg i (by omega))
set_option maxHeartbeats 4000000 in
set_option maxRecDepth 100000 in
theorem m_X6_put {G : jG} {M : jM} {a k r lim : Nat} {X : List Nat × Bool} {ch : Nat → Int32} {c : Nat} (hs : (gL G).stackTraces = false) (h : shS M.1 a X k r lim ch) (hc : c ≤ 126) (hlim : lim ≤ 200) (hBa : gB G ≤ a) : JMet G jX6_put [.ref a, .int (nI c)] (M) 0 0 0 (fun v M' => v = none ∧ shS M'.1 a (putS lim X c) k r lim ch ∧ on3 M M' a) jNo := by
  refine jMet_of [some (.ref (a)), some (.int (nI (c)))] (by decide) rfl (Nat.le_of_ble_eq_true rfl) (rfl) hs ?_
  intro C hC9 hG
  have hC := hC9.z
  have hs9 := jOK0_tr hC
  refine j_lt (fun hlt => ?_)
  have hBg : jB C = gB G := by rw [jB, hG]
  subst hG
  obtain ⟨h1, ⟨g, h2, hg⟩, h3, h4⟩ := h
  refine j_aload_n hC dX6_put_0 rfl (jrf_ref _) ?_
  refine j_get (v := .int (nI ((X).1.length))) hC kf_X6_19 dX6_put_1 (h1) (rfl) ?_
  refine j_aload_n hC dX6_put_4 rfl (jrf_ref _) ?_
  refine j_get (v := .int (nI (lim))) hC kf_X6_29 dX6_put_5 (h1) (rfl) ?_
  refine n_icmp_ge (tgt := 34) hC dX6_put_8 (by decide) (by omega) (by omega) (fun c1 => ?_) (fun c1 => ?_)
  · refine j_aload_n hC dX6_put_34 rfl (jrf_ref _) ?_
    refine j_iconst (v := nI 1) hC dX6_put_35 (by decide) ?_
    refine c_put (fs' := [.ref (a + 1), .ref (a + 2), .int (nI (X).1.length), .int (nI (k)), .int (nI (r)), .int (nI (lim)), .int (nI (1))]) hC kp_X6_32 dX6_put_36 (h1) (by omega) (by decide) (by decide) rfl ?_
    exact j_vret hC9 rfl dX6_put_39 (⟨rfl, by rw [putS_f (by omega)]; exact ⟨jput_at, ⟨g, (jput_ne (show a + 1 ≠ a by omega)).trans h2, hg⟩, (jput_ne (show a + 2 ≠ a by omega)).trans h3, h4⟩, fun b h1 h2 h3 => jput_ne h1⟩)
  · refine j_aload_n hC dX6_put_11 rfl (jrf_ref _) ?_
    refine j_get (v := .ref (a + 1)) hC kf_X6_9 dX6_put_12 (h1) (rfl) ?_
    refine j_aload_n hC dX6_put_15 rfl (jrf_ref _) ?_
    refine j_get (v := .int (nI ((X).1.length))) hC kf_X6_19 dX6_put_16 (h1) (rfl) ?_
    refine j_iload_n hC dX6_put_19 rfl ?_
    refine c_cast (i := (X).1.length) (x := nI (c)) hC dX6_put_20 (h2) (by omega) (by omega) (by omega) (vpn_chr _ (by omega)) ?_
    refine j_aload_n hC dX6_put_21 rfl (jrf_ref _) ?_
    refine j_dup hC dX6_put_22 rfl ?_
    refine j_get (v := .int (nI ((X).1.length))) hC kf_X6_19 dX6_put_23 ((jput_ne (by show (a) ≠ (a + 1); omega)).trans (h1)) (rfl) ?_
    refine j_iconst (v := nI 1) hC dX6_put_26 (by decide) ?_
    refine n_iadd hC dX6_put_27 ?_
    refine c_put (fs' := [.ref (a + 1), .ref (a + 2), .int (nI (((X).1.length) + (1))), .int (nI (k)), .int (nI (r)), .int (nI (lim)), .int (jb ((X).2 = true))]) hC kp_X6_19 dX6_put_28 ((jput_ne (by show (a) ≠ (a + 1); omega)).trans (h1)) (by omega) (rfl) (rfl) rfl ?_
    refine j_goto (tgt := 39) hC dX6_put_31 (by decide) ?_
    exact j_vret hC9 rfl dX6_put_39 (⟨rfl, by rw [putS_t (by omega)]; exact ⟨(jput_at.trans (by unfold shF; rw [List.length_append]; rfl)), ⟨upd g X.1.length (nI c), (jput_ne (show a + 1 ≠ a by omega)).trans jput_at, ap_g hg⟩, (jput_ne (show a + 2 ≠ a by omega)).trans ((jput_ne (show a + 2 ≠ a + 1 by omega)).trans h3), (by rw [List.length_append]; exact Nat.succ_le_of_lt (by assumption))⟩, fun b h1 h2 h3 => (jput_ne h1).trans (jput_ne h2)⟩)
set_option maxHeartbeats 4000000 in
set_option maxRecDepth 100000 in
theorem m_X6_putAll {G : jG} {M : jM} {a k r lim : Nat} {X : List Nat × Bool} {ch : Nat → Int32} {p : Nat} {t : List Nat} {Z : jH} (hs : (gL G).stackTraces = false) (h : shS M.1 a X k r lim ch) (hp : strR Z p t) (hz : sub Z M.1) (hz3 : zn3 Z a) (hlim : lim ≤ 200) (hBa : gB G ≤ a) : JMet G jX6_putAll [.ref a, .ref p] (M) 0 0 4 (fun v M' => v = none ∧ shS M'.1 a (putsS lim X t) k r lim ch ∧ on3 M M' a) jNo := by
  refine jMet_of [some (.ref (a)), some (.ref (p)), none] (by decide) rfl (Nat.le_of_ble_eq_true rfl) (rfl) hs ?_
  intro C hC9 hG
  have hC := hC9.z
  have hs9 := jOK0_tr hC
  refine j_lt (fun hlt => ?_)
  have hBg : jB C = gB G := by rw [jB, hG]
  subst hG
  have hp5 := hp.2.1
  refine j_iconst (v := nI 0) hC dX6_putAll_0 (by decide) ?_
  refine j_istore_n2 hC dX6_putAll_1 (by decide) rfl ?_
  suffices K : ∀ (n9 : Nat) (Mr : jM) (i : Nat), t.length - i < n9 → (i ≤ t.length) → (shS Mr.1 a (putsS lim X (t.take i)) k r lim ch) → (on3 M Mr a) → (sub Z Mr.1) → J C (Mr) 0 0 2 [some (.ref (a)), some (.ref (p)), some (.int (nI (i)))] [] from (K _ (M) (0) (Nat.lt_succ_self _) (Nat.zero_le _) (h) (on3_refl) (hz))
  intro n9
  induction n9 with
  | zero => intro Mr i hm; omega
  | succ n9 ih =>
    intro Mr i hm hi hsh hfr hzr
    refine j_iload_n hC dX6_putAll_2 rfl ?_
    refine j_aload_n hC dX6_putAll_3 rfl (jrf_ref _) ?_
    refine c_V hC kv_X6_131 dX6_putAll_4 (m_J0_length_8abf5 hs9 (hp.mono hzr)) ((hp.mono hzr).obj.choose_spec) rfl rfl rfl rfl (by decide) (Nat.le_of_ble_eq_true rfl) ?_
    refine n_icmp_ge (tgt := 25) hC dX6_putAll_7 (by decide) (by omega) (by omega) (fun c1 => ?_) (fun c1 => ?_)
    · exact j_vret hC9 rfl dX6_putAll_25 (⟨rfl, by rw [← puts_e (show t.length ≤ i by omega)]; exact hsh, hfr⟩)
    · refine j_aload_n hC dX6_putAll_10 rfl (jrf_ref _) ?_
      refine j_aload_n hC dX6_putAll_11 rfl (jrf_ref _) ?_
      refine j_iload_n hC dX6_putAll_12 rfl ?_
      refine c_V hC kv_X6_136 dX6_putAll_13 (m_J0_charAt_5068e hs9 (hp.mono hzr) (by omega)) ((hp.mono hzr).obj.choose_spec) rfl rfl rfl rfl (by decide) (Nat.le_of_ble_eq_true rfl) ?_
      have hc7 := chr_le hp.2 (i := i)
      refine c_Pv (kc := 0) (ks := 0) hC kv_X6_86 dX6_putAll_16 (m_X6_put (c := (t).getD (i) 0) hs9 hsh (by omega) hlim hBa) (hsh.1) rfl rfl rfl rfl (by decide) (Nat.le_of_ble_eq_true rfl) ?_
      intro v9 M2 h9
      obtain ⟨rfl, eM2, fM2⟩ := h9
      refine j_iinc_2 (v := nI (i + 1)) hC dX6_putAll_19 (nI_add _ _) (by decide) rfl ?_
      refine j_goto (tgt := 2) hC dX6_putAll_22 (by decide) ?_
      exact ih (M2) (i + 1) (by omega) (by omega) (by rw [← puts_s (by assumption)]; exact eM2) ((hfr.trans fM2)) ((fM2.sub hzr hz3))
theorem div_10 : ∀ n, n < 100 → nI n / nI 10 = nI (n / 10) := by decide +kernel
theorem rem_10 : ∀ n, n < 100 → nI n - nI n / nI 10 * nI 10 = nI (n % 10) := by decide +kernel
theorem jb_iff {p q : Prop} [Decidable p] [Decidable q] (h : p ↔ q) : jb p = jb q := by
  unfold jb
  by_cases hp : p
  · rw [if_pos hp, if_pos (h.mp hp)]
  · rw [if_neg hp, if_neg (fun e => hp (h.mpr e))]
theorem numT_1 {n : Nat} (h : 10 ≤ n) : numT n = [48 + n / 10, 48 + n % 10] := if_pos (by omega)
theorem numT_2 {n : Nat} (h : ¬ 10 ≤ n) : numT n = [48 + n % 10] := if_neg (by omega)
section PN
variable {lim n : Nat} {X : List Nat × Bool}
theorem puts_n1 (h : 10 ≤ n) : putS lim (putS lim X (48 + n / 10)) (48 + n % 10) = putsS lim X (numT n) := by rw [numT_1 h]; rfl
theorem puts_n2 (h : ¬ 10 ≤ n) : putS lim X (48 + n % 10) = putsS lim X (numT n) := by rw [numT_2 h]; rfl
end PN
set_option maxHeartbeats 4000000 in
set_option maxRecDepth 100000 in
theorem m_X6_putNumber {G : jG} {M : jM} {a k r lim : Nat} {X : List Nat × Bool} {ch : Nat → Int32} {n : Nat} (hs : (gL G).stackTraces = false) (h : shS M.1 a X k r lim ch) (hn : n < 100) (hlim : lim ≤ 200) (hBa : gB G ≤ a) : JMet G jX6_putNumber [.ref a, .int (nI n)] (M) 0 0 1 (fun v M' => v = none ∧ shS M'.1 a (putsS lim X (numT n)) k r lim ch ∧ on3 M M' a) jNo := by
  refine jMet_of [some (.ref (a)), some (.int (nI (n)))] (by decide) rfl (Nat.le_of_ble_eq_true rfl) (rfl) hs ?_
  intro C hC9 hG
  have hC := hC9.z
  have hs9 := jOK0_tr hC
  refine j_lt (fun hlt => ?_)
  have hBg : jB C = gB G := by rw [jB, hG]
  subst hG
  refine j_iload_n hC dX6_putNumber_0 rfl ?_
  refine j_bipush (v := nI 10) hC dX6_putNumber_1 (by decide) ?_
  refine n_icmp_lt (tgt := 18) hC dX6_putNumber_3 (by decide) (by omega) (by omega) (fun c1 => ?_) (fun c1 => ?_)
  · refine j_aload_n hC dX6_putNumber_18 rfl (jrf_ref _) ?_
    refine j_bipush (v := nI 48) hC dX6_putNumber_19 (by decide) ?_
    refine j_iload_n hC dX6_putNumber_21 rfl ?_
    refine j_bipush (v := nI 10) hC dX6_putNumber_22 (by decide) ?_
    refine j_irem hC dX6_putNumber_24 (by decide) ?_
    refine j_top (rem_10 n hn) ?_
    refine n_iadd hC dX6_putNumber_25 ?_
    refine j_i2c hC dX6_putNumber_26 ?_
    refine j_top (i2c_chr _ (by omega)) ?_
    refine c_Pv (kc := 0) (ks := 0) hC kv_X6_86 dX6_putNumber_27 (m_X6_put (c := 48 + n % 10) hs9 h (by omega) hlim hBa) (h.1) rfl rfl rfl rfl (by decide) (Nat.le_of_ble_eq_true rfl) ?_
    intro v9 M2 h9
    obtain ⟨rfl, eM2, fM2⟩ := h9
    exact j_vret hC9 rfl dX6_putNumber_30 (⟨rfl, by rw [← puts_n2 (by omega)]; exact eM2, (on3_refl.trans fM2)⟩)
  · refine j_aload_n hC dX6_putNumber_6 rfl (jrf_ref _) ?_
    refine j_bipush (v := nI 48) hC dX6_putNumber_7 (by decide) ?_
    refine j_iload_n hC dX6_putNumber_9 rfl ?_
    refine j_bipush (v := nI 10) hC dX6_putNumber_10 (by decide) ?_
    refine j_idiv hC dX6_putNumber_12 (by decide) ?_
    refine j_top (div_10 n hn) ?_
    refine n_iadd hC dX6_putNumber_13 ?_
    refine j_i2c hC dX6_putNumber_14 ?_
    refine j_top (i2c_chr _ (by omega)) ?_
    refine c_Pv (kc := 0) (ks := 0) hC kv_X6_86 dX6_putNumber_15 (m_X6_put (c := 48 + n / 10) hs9 h (by omega) hlim hBa) (h.1) rfl rfl rfl rfl (by decide) (Nat.le_of_ble_eq_true rfl) ?_
    intro v9 M3 h9
    obtain ⟨rfl, eM3, fM3⟩ := h9
    refine j_aload_n hC dX6_putNumber_18 rfl (jrf_ref _) ?_
    refine j_bipush (v := nI 48) hC dX6_putNumber_19 (by decide) ?_
    refine j_iload_n hC dX6_putNumber_21 rfl ?_
    refine j_bipush (v := nI 10) hC dX6_putNumber_22 (by decide) ?_
    refine j_irem hC dX6_putNumber_24 (by decide) ?_
    refine j_top (rem_10 n hn) ?_
    refine n_iadd hC dX6_putNumber_25 ?_
    refine j_i2c hC dX6_putNumber_26 ?_
    refine j_top (i2c_chr _ (by omega)) ?_
    refine c_Pv (kc := 0) (ks := 0) hC kv_X6_86 dX6_putNumber_27 (m_X6_put (c := 48 + n % 10) hs9 eM3 (by omega) hlim hBa) (eM3.1) rfl rfl rfl rfl (by decide) (Nat.le_of_ble_eq_true rfl) ?_
    intro v9 M4 h9
    obtain ⟨rfl, eM4, fM4⟩ := h9
    exact j_vret hC9 rfl dX6_putNumber_30 (⟨rfl, by rw [← puts_n1 (by omega)]; exact eM4, ((on3_refl.trans fM3).trans fM4)⟩)
section PF
variable {lim way i : Nat} {X : List Nat × Bool} {t : List Nat}
theorem puts_f {c : Nat} (h : c = sty way i (t.getD i 0)) : putS lim (putsS lim X (styT way t i)) c = putsS lim X (styT way t (i + 1)) := by
  subst h
  exact (puts_app (t := styT way t i) (u := [sty way i (t.getD i 0)])).symm
end PF
theorem sty_y {way k c : Nat} (h : way = 2 ∨ way = 1 ∧ k = 0) : cap c = sty way k c := by
  unfold cap sty
  by_cases e : 97 ≤ c ∧ c ≤ 122
  · rw [if_pos e, if_pos ⟨e, h⟩]
  · rw [if_neg e, if_neg (fun x => e x.1)]
theorem sty_n {way k c : Nat} (h : ¬ (way = 2 ∨ way = 1 ∧ k = 0)) : c = sty way k c := (if_neg (fun x => h x.2)).symm
theorem sty_126 {way k c : Nat} (h : c ≤ 126) : sty way k c ≤ 126 := by
  unfold sty
  split <;> omega
set_option maxHeartbeats 4000000 in
set_option maxRecDepth 100000 in
theorem m_X6_putField {G : jG} {M : jM} {a k r lim : Nat} {X : List Nat × Bool} {ch : Nat → Int32} {p way sg : Nat} {t : List Nat} {Z : jH} (hs : (gL G).stackTraces = false) (h : shS M.1 a X k r lim ch) (hp : txtR Z p t) (hw : way = 0 ∧ sg = 32 ∨ way = 1 ∧ sg = 94 ∨ way = 2 ∧ sg = 42) (hz : sub Z M.1) (hz3 : zn3 Z a) (hlim : lim ≤ 200) (hBa : gB G ≤ a) : JMet G jX6_putField [.ref a, .ref p, .int (nI sg)] (M) 0 0 5 (fun v M' => v = none ∧ shS M'.1 a (putsS lim X (styT way t t.length)) k (if t.length = 0 then 3 else r) lim ch ∧ on3 M M' a) jNo := by
  refine jMet_of [some (.ref (a)), some (.ref (p)), some (.int (nI (sg))), none, none, none] (by decide) rfl (Nat.le_of_ble_eq_true rfl) (rfl) hs ?_
  intro C hC9 hG
  have hC := hC9.z
  have hs9 := jOK0_tr hC
  refine j_lt (fun hlt => ?_)
  have hBg : jB C = gB G := by rw [jB, hG]
  subst hG
  obtain ⟨sp, op, hps⟩ := id hp
  have hp5 := hps.2.1
  refine j_aload_n hC dX6_putField_0 rfl (jrf_ref _) ?_
  refine c_V hC kv_X6_140 dX6_putField_1 (m_X8_isEmpty hs9 (hp.mono hz)) ((hp.mono hz).obj.choose_spec) rfl rfl rfl rfl (by decide) (Nat.le_of_ble_eq_true rfl) ?_
  refine jb_if_eq (tgt := 12) hC dX6_putField_4 (by decide) (fun c1 => ?_) (fun c1 => ?_)
  · have h9 : shS M.1 a X k (if t.length = 0 then 3 else r) lim ch := by rw [if_neg (by assumption)]; exact h
    refine j_iconst (v := nI 0) hC dX6_putField_12 (by decide) ?_
    refine j_istore_n3 hC dX6_putField_13 (by decide) rfl ?_
    suffices K : ∀ (n9 : Nat) (Mr : jM) (i : Nat), t.length - i < n9 → (i ≤ t.length) → (shS Mr.1 a (putsS lim X (styT way t i)) k (if t.length = 0 then 3 else r) lim ch) → (on3 M Mr a) → (sub Z Mr.1) → J C (Mr) 0 0 14 [some (.ref (a)), some (.ref (p)), some (.int (nI (sg))), some (.int (nI (i))), none, none] [] from (K _ (M) (0) (Nat.lt_succ_self _) (Nat.zero_le _) (h9) (on3_refl) (hz))
    intro n9
    induction n9 with
    | zero => intro Mr i hm; omega
    | succ n9 ih =>
      intro Mr i hm hi hsh hfr hzr
      refine j_iload_n hC dX6_putField_14 rfl ?_
      refine j_aload_n hC dX6_putField_15 rfl (jrf_ref _) ?_
      refine c_V hC kv_X6_146 dX6_putField_16 (m_X8_length hs9 (hp.mono hzr)) ((hp.mono hzr).obj.choose_spec) rfl rfl rfl rfl (by decide) (Nat.le_of_ble_eq_true rfl) ?_
      refine n_icmp_ge (tgt := 77) hC dX6_putField_19 (by decide) (by omega) (by omega) (fun c2 => ?_) (fun c2 => ?_)
      · exact j_vret hC9 rfl dX6_putField_77 (⟨rfl, by rw [show t.length = i by omega] at hsh ⊢; exact hsh, hfr⟩)
      · suffices K : J C (Mr) 0 0 43 [some (.ref (a)), some (.ref (p)), some (.int (nI (sg))), some (.int (nI (i))), none, none] [.int (jb (way = 2 ∨ way = 1 ∧ i = 0))] by
          refine j_iload_n hC dX6_putField_22 rfl ?_
          refine j_bipush (v := nI 42) hC dX6_putField_23 (by decide) ?_
          refine n_icmp_eq (tgt := 38) hC dX6_putField_25 (by decide) (by omega) (by omega) (fun c3 => ?_) (fun c3 => ?_)
          · refine j_iconst (v := nI 1) hC dX6_putField_38 (by decide) ?_
            refine j_goto (tgt := 43) hC dX6_putField_39 (by decide) ?_
            exact j_top (jb_t1 (by omega)) K
          · refine j_iload_n hC dX6_putField_28 rfl ?_
            refine j_bipush (v := nI 94) hC dX6_putField_29 (by decide) ?_
            refine n_icmp_ne (tgt := 42) hC dX6_putField_31 (by decide) (by omega) (by omega) (fun c4 => ?_) (fun c4 => ?_)
            · refine j_iconst (v := nI 0) hC dX6_putField_42 (by decide) ?_
              exact j_top (jb_f0 (by omega)) K
            · refine j_iload_n hC dX6_putField_34 rfl ?_
              refine n_if_ne (tgt := 42) hC dX6_putField_35 (by decide) (by omega) (fun c5 => ?_) (fun c5 => ?_)
              · refine j_iconst (v := nI 0) hC dX6_putField_42 (by decide) ?_
                exact j_top (jb_f0 (by omega)) K
              · refine j_iconst (v := nI 1) hC dX6_putField_38 (by decide) ?_
                refine j_goto (tgt := 43) hC dX6_putField_39 (by decide) ?_
                exact j_top (jb_t1 (by omega)) K
        refine j_istore_4 hC dX6_putField_43 (by decide) rfl ?_
        refine j_aload_n hC dX6_putField_45 rfl (jrf_ref _) ?_
        refine j_iload_n hC dX6_putField_46 rfl ?_
        refine c_V hC kv_X6_147 dX6_putField_47 (m_X8_signAt hs9 (hp.mono hzr) (by omega)) ((hp.mono hzr).obj.choose_spec) rfl rfl rfl rfl (by decide) (Nat.le_of_ble_eq_true rfl) ?_
        have hc7 := chr_le hps.2 (i := i)
        have hc8 := cap_le hc7
        refine j_istore_5 hC dX6_putField_50 (by decide) rfl ?_
        refine j_aload_n hC dX6_putField_52 rfl (jrf_ref _) ?_
        refine j_iload hC dX6_putField_53 rfl ?_
        refine jb_if_eq (tgt := 66) hC dX6_putField_55 (by decide) (fun c6 => ?_) (fun c6 => ?_)
        · refine j_iload hC dX6_putField_66 rfl ?_
          have hc9 : (t).getD (i) 0 = sty way i (t.getD (i) 0) := by first | exact sty_y (by assumption) | exact sty_n (by assumption)
          refine c_Pv (kc := 0) (ks := 0) hC kv_X6_86 dX6_putField_68 (m_X6_put (c := (t).getD (i) 0) hs9 hsh (by omega) hlim hBa) (hsh.1) rfl rfl rfl rfl (by decide) (Nat.le_of_ble_eq_true rfl) ?_
          intro v9 M7 h9
          obtain ⟨rfl, eM7, fM7⟩ := h9
          refine j_iinc_3 (v := nI (i + 1)) hC dX6_putField_71 (nI_add _ _) (by decide) rfl ?_
          refine j_goto (tgt := 14) hC dX6_putField_74 (by decide) ?_
          exact j_L (jle_s (jle_s (jle_s (jle_s (jle_n (jle_n (jle_0))))))) (ih (M7) (i + 1) (by omega) (by omega) (by rw [← puts_f (by assumption)]; exact eM7) ((hfr.trans fM7)) ((fM7.sub hzr hz3)))
        · refine j_iload hC dX6_putField_58 rfl ?_
          refine c_S hC ks_X6_150 rfl dX6_putField_60 (m_X8_capital hs9 (by omega)) rfl rfl (by decide) (Nat.le_of_ble_eq_true rfl) ?_
          refine j_goto (tgt := 68) hC dX6_putField_63 (by decide) ?_
          have hc9 : cap ((t).getD (i) 0) = sty way i (t.getD (i) 0) := by first | exact sty_y (by assumption) | exact sty_n (by assumption)
          refine c_Pv (kc := 0) (ks := 0) hC kv_X6_86 dX6_putField_68 (m_X6_put (c := cap ((t).getD (i) 0)) hs9 hsh (by omega) hlim hBa) (hsh.1) rfl rfl rfl rfl (by decide) (Nat.le_of_ble_eq_true rfl) ?_
          intro v9 M8 h9
          obtain ⟨rfl, eM8, fM8⟩ := h9
          refine j_iinc_3 (v := nI (i + 1)) hC dX6_putField_71 (nI_add _ _) (by decide) rfl ?_
          refine j_goto (tgt := 14) hC dX6_putField_74 (by decide) ?_
          exact j_L (jle_s (jle_s (jle_s (jle_s (jle_n (jle_n (jle_0))))))) (ih (M8) (i + 1) (by omega) (by omega) (by rw [← puts_f (by assumption)]; exact eM8) ((hfr.trans fM8)) ((fM8.sub hzr hz3)))
  · refine j_aload_n hC dX6_putField_7 rfl (jrf_ref _) ?_
    refine j_iconst (v := nI 3) hC dX6_putField_8 (by decide) ?_
    refine c_put (fs' := [.ref (a + 1), .ref (a + 2), .int (nI (X).1.length), .int (nI (k)), .int (nI (3)), .int (nI (lim)), .int (jb ((X).2 = true))]) hC kp_X6_26 dX6_putField_9 (h.1) (by omega) (rfl) (rfl) rfl ?_
    have h9 : shS (jput (M) (a) (.inr (10, [.ref (a + 1), .ref (a + 2), .int (nI (X).1.length), .int (nI (k)), .int (nI (3)), .int (nI (lim)), .int (jb ((X).2 = true))]))).1 a X k (if t.length = 0 then 3 else r) lim ch := by rw [if_pos (by assumption)]; exact shS_r h
    refine j_iconst (v := nI 0) hC dX6_putField_12 (by decide) ?_
    refine j_istore_n3 hC dX6_putField_13 (by decide) rfl ?_
    suffices K : ∀ (n9 : Nat) (Mr : jM) (i : Nat), t.length - i < n9 → (i ≤ t.length) → (shS Mr.1 a (putsS lim X (styT way t i)) k (if t.length = 0 then 3 else r) lim ch) → (on3 M Mr a) → (sub Z Mr.1) → J C (Mr) 0 0 14 [some (.ref (a)), some (.ref (p)), some (.int (nI (sg))), some (.int (nI (i))), none, none] [] from (K _ (jput (M) (a) (.inr (10, [.ref (a + 1), .ref (a + 2), .int (nI (X).1.length), .int (nI (k)), .int (nI (3)), .int (nI (lim)), .int (jb ((X).2 = true))]))) (0) (Nat.lt_succ_self _) (Nat.zero_le _) (h9) (on3_put) ((on3_put.sub hz hz3)))
    intro n9
    induction n9 with
    | zero => intro Mr i hm; omega
    | succ n9 ih =>
      intro Mr i hm hi hsh hfr hzr
      refine j_iload_n hC dX6_putField_14 rfl ?_
      refine j_aload_n hC dX6_putField_15 rfl (jrf_ref _) ?_
      refine c_V hC kv_X6_146 dX6_putField_16 (m_X8_length hs9 (hp.mono hzr)) ((hp.mono hzr).obj.choose_spec) rfl rfl rfl rfl (by decide) (Nat.le_of_ble_eq_true rfl) ?_
      refine n_icmp_ge (tgt := 77) hC dX6_putField_19 (by decide) (by omega) (by omega) (fun c9 => ?_) (fun c9 => ?_)
      · exact j_vret hC9 rfl dX6_putField_77 (⟨rfl, by rw [show t.length = i by omega] at hsh ⊢; exact hsh, hfr⟩)
      · suffices K : J C (Mr) 0 0 43 [some (.ref (a)), some (.ref (p)), some (.int (nI (sg))), some (.int (nI (i))), none, none] [.int (jb (way = 2 ∨ way = 1 ∧ i = 0))] by
          refine j_iload_n hC dX6_putField_22 rfl ?_
          refine j_bipush (v := nI 42) hC dX6_putField_23 (by decide) ?_
          refine n_icmp_eq (tgt := 38) hC dX6_putField_25 (by decide) (by omega) (by omega) (fun c10 => ?_) (fun c10 => ?_)
          · refine j_iconst (v := nI 1) hC dX6_putField_38 (by decide) ?_
            refine j_goto (tgt := 43) hC dX6_putField_39 (by decide) ?_
            exact j_top (jb_t1 (by omega)) K
          · refine j_iload_n hC dX6_putField_28 rfl ?_
            refine j_bipush (v := nI 94) hC dX6_putField_29 (by decide) ?_
            refine n_icmp_ne (tgt := 42) hC dX6_putField_31 (by decide) (by omega) (by omega) (fun c11 => ?_) (fun c11 => ?_)
            · refine j_iconst (v := nI 0) hC dX6_putField_42 (by decide) ?_
              exact j_top (jb_f0 (by omega)) K
            · refine j_iload_n hC dX6_putField_34 rfl ?_
              refine n_if_ne (tgt := 42) hC dX6_putField_35 (by decide) (by omega) (fun c12 => ?_) (fun c12 => ?_)
              · refine j_iconst (v := nI 0) hC dX6_putField_42 (by decide) ?_
                exact j_top (jb_f0 (by omega)) K
              · refine j_iconst (v := nI 1) hC dX6_putField_38 (by decide) ?_
                refine j_goto (tgt := 43) hC dX6_putField_39 (by decide) ?_
                exact j_top (jb_t1 (by omega)) K
        refine j_istore_4 hC dX6_putField_43 (by decide) rfl ?_
        refine j_aload_n hC dX6_putField_45 rfl (jrf_ref _) ?_
        refine j_iload_n hC dX6_putField_46 rfl ?_
        refine c_V hC kv_X6_147 dX6_putField_47 (m_X8_signAt hs9 (hp.mono hzr) (by omega)) ((hp.mono hzr).obj.choose_spec) rfl rfl rfl rfl (by decide) (Nat.le_of_ble_eq_true rfl) ?_
        have hc7 := chr_le hps.2 (i := i)
        have hc8 := cap_le hc7
        refine j_istore_5 hC dX6_putField_50 (by decide) rfl ?_
        refine j_aload_n hC dX6_putField_52 rfl (jrf_ref _) ?_
        refine j_iload hC dX6_putField_53 rfl ?_
        refine jb_if_eq (tgt := 66) hC dX6_putField_55 (by decide) (fun c13 => ?_) (fun c13 => ?_)
        · refine j_iload hC dX6_putField_66 rfl ?_
          have hc9 : (t).getD (i) 0 = sty way i (t.getD (i) 0) := by first | exact sty_y (by assumption) | exact sty_n (by assumption)
          refine c_Pv (kc := 0) (ks := 0) hC kv_X6_86 dX6_putField_68 (m_X6_put (c := (t).getD (i) 0) hs9 hsh (by omega) hlim hBa) (hsh.1) rfl rfl rfl rfl (by decide) (Nat.le_of_ble_eq_true rfl) ?_
          intro v9 M14 h9
          obtain ⟨rfl, eM14, fM14⟩ := h9
          refine j_iinc_3 (v := nI (i + 1)) hC dX6_putField_71 (nI_add _ _) (by decide) rfl ?_
          refine j_goto (tgt := 14) hC dX6_putField_74 (by decide) ?_
          exact j_L (jle_s (jle_s (jle_s (jle_s (jle_n (jle_n (jle_0))))))) (ih (M14) (i + 1) (by omega) (by omega) (by rw [← puts_f (by assumption)]; exact eM14) ((hfr.trans fM14)) ((fM14.sub hzr hz3)))
        · refine j_iload hC dX6_putField_58 rfl ?_
          refine c_S hC ks_X6_150 rfl dX6_putField_60 (m_X8_capital hs9 (by omega)) rfl rfl (by decide) (Nat.le_of_ble_eq_true rfl) ?_
          refine j_goto (tgt := 68) hC dX6_putField_63 (by decide) ?_
          have hc9 : cap ((t).getD (i) 0) = sty way i (t.getD (i) 0) := by first | exact sty_y (by assumption) | exact sty_n (by assumption)
          refine c_Pv (kc := 0) (ks := 0) hC kv_X6_86 dX6_putField_68 (m_X6_put (c := cap ((t).getD (i) 0)) hs9 hsh (by omega) hlim hBa) (hsh.1) rfl rfl rfl rfl (by decide) (Nat.le_of_ble_eq_true rfl) ?_
          intro v9 M15 h9
          obtain ⟨rfl, eM15, fM15⟩ := h9
          refine j_iinc_3 (v := nI (i + 1)) hC dX6_putField_71 (nI_add _ _) (by decide) rfl ?_
          refine j_goto (tgt := 14) hC dX6_putField_74 (by decide) ?_
          exact j_L (jle_s (jle_s (jle_s (jle_s (jle_n (jle_n (jle_0))))))) (ih (M15) (i + 1) (by omega) (by omega) (by rw [← puts_f (by assumption)]; exact eM15) ((hfr.trans fM15)) ((fM15.sub hzr hz3)))
set_option maxHeartbeats 4000000 in
set_option maxRecDepth 100000 in
theorem m_X6_leaveBlank {G : jG} {M : jM} {a k r lim : Nat} {X : List Nat × Bool} {ch : Nat → Int32} {r9 : Nat} (hs : (gL G).stackTraces = false) (h : shS M.1 a X k r lim ch) (hBa : gB G ≤ a) : JMet G jX6_leaveBlank [.ref a, .int (nI r9)] (M) 0 0 0 (fun v M' => v = none ∧ shS M'.1 a ([], false) 0 r9 lim ch ∧ on3 M M' a) jNo := by
  refine jMet_of [some (.ref (a)), some (.int (nI (r9)))] (by decide) rfl (Nat.le_of_ble_eq_true rfl) (rfl) hs ?_
  intro C hC9 hG
  have hC := hC9.z
  have hs9 := jOK0_tr hC
  refine j_lt (fun hlt => ?_)
  have hBg : jB C = gB G := by rw [jB, hG]
  subst hG
  refine j_aload_n hC dX6_leaveBlank_0 rfl (jrf_ref _) ?_
  refine j_iconst (v := nI 0) hC dX6_leaveBlank_1 (by decide) ?_
  refine c_put (fs' := [.ref (a + 1), .ref (a + 2), .int (nI (0)), .int (nI (k)), .int (nI (r)), .int (nI (lim)), .int (jb ((X).2 = true))]) hC kp_X6_19 dX6_leaveBlank_2 (h.1) (by omega) (rfl) (rfl) rfl ?_
  refine j_aload_n hC dX6_leaveBlank_5 rfl (jrf_ref _) ?_
  refine j_iconst (v := nI 0) hC dX6_leaveBlank_6 (by decide) ?_
  refine c_put2 (fs' := [.ref (a + 1), .ref (a + 2), .int (nI (0)), .int (nI (0)), .int (nI (r)), .int (nI (lim)), .int (jb ((X).2 = true))]) hC kp_X6_23 dX6_leaveBlank_7 (by omega) (rfl) (rfl) rfl ?_
  refine j_aload_n hC dX6_leaveBlank_10 rfl (jrf_ref _) ?_
  refine j_iload_n hC dX6_leaveBlank_11 rfl ?_
  refine c_put2 (fs' := [.ref (a + 1), .ref (a + 2), .int (nI (0)), .int (nI (0)), .int (nI (r9)), .int (nI (lim)), .int (jb ((X).2 = true))]) hC kp_X6_26 dX6_leaveBlank_12 (by omega) (rfl) (rfl) rfl ?_
  refine j_aload_n hC dX6_leaveBlank_15 rfl (jrf_ref _) ?_
  refine j_iconst (v := nI 0) hC dX6_leaveBlank_16 (by decide) ?_
  refine c_put2 (fs' := [.ref (a + 1), .ref (a + 2), .int (nI (0)), .int (nI (0)), .int (nI (r9)), .int (nI (lim)), .int (nI (0))]) hC kp_X6_32 dX6_leaveBlank_17 (by omega) (by decide) (by decide) rfl ?_
  exact j_vret hC9 rfl dX6_leaveBlank_20 (⟨rfl, ⟨jput_at, h.2.1.elim (fun g e => ⟨g, (jput_ne (show a + 1 ≠ a by omega)).trans e.1, fun i hi => absurd hi (Nat.not_lt_zero i)⟩), (jput_ne (show a + 2 ≠ a by omega)).trans h.2.2.1, Nat.zero_le _⟩, on3_put⟩)
