section X60
variable {C : jC} {M : jM} {kc ks pc : Nat} {l : List (Option Value)} {st : List Value}
/-- beyond its length a row says nothing -/
theorem j_ext {a n : Nat} {ty : FieldType} {f g : Nat → Value} (hM : M.1 a = some (.inl (ty, n, f))) (hB : jB C ≤ a) (hfg : ∀ j, j < n → f j = g j) (kk : J C (jput M a (.inl (ty, n, g))) kc ks pc l st) : J C M kc ks pc l st := by
  obtain ⟨p, e, R, s, m, args, below, meth, c, Q, G⟩ := C
  intro H locs cells slots ls h1 h2 h3 h4 h5
  have hB' : gB G ≤ a := hB
  refine kk H locs cells slots ls (h1.put hB' rfl ?_ (fun _ _ => rfl)) h2 h3 h4 h5
  rcases h1.2 a _ hM with ⟨-, hty, q1⟩ | ⟨hlt, -⟩
  · refine ⟨hty, ?_⟩
    rw [q1]
    have e9 : arrV (gA G ty) n f = arrV (gA G ty) n g := by
      unfold arrV
      rw [show (fun j : Fin n => f j.val) = (fun j : Fin n => g j.val) from funext fun j => hfg j.1 j.2]
    rw [e9]
  · exact absurd hB' (Nat.not_le.mpr hlt)
end X60
theorem row_f {M : jM} {a n : Nat} {ty : FieldType} {f g : Nat → Value} (h : M.1 a = some (.inl (ty, n, f))) (e : f = g) : M.1 a = some (.inl (ty, n, g)) := e ▸ h
theorem stp5 {i : Nat} {v w : Value} : updV (fun j => if j < i then v else w) i v = fun j => if j < i + 1 then v else w := by
  funext j
  simp only [updV]
  by_cases h : j = i
  · rw [if_pos h, if_pos (by omega)]
  · rw [if_neg h]
    by_cases h2 : j < i
    · rw [if_pos h2, if_pos (by omega)]
    · rw [if_neg h2, if_neg (by omega)]
theorem stp5f {i f p : Nat} {x : Nat → Nat} : updV (fun j => if j < i then Value.ref (if j = f then p else x j) else .null) i (.ref (if i = f then p else x i)) = fun j => if j < i + 1 then Value.ref (if j = f then p else x j) else .null := by
  funext j
  simp only [updV]
  by_cases h : j = i
  · rw [if_pos h, if_pos (show j < i + 1 by omega), h]
  · rw [if_neg h]
    by_cases h2 : j < i
    · rw [if_pos h2, if_pos (show j < i + 1 by omega)]
    · rw [if_neg h2, if_neg (show ¬ j < i + 1 by omega)]
theorem stp5a {i f p : Nat} {x : Nat → Nat} (h : i = f) : updV (fun j => if j < i then Value.ref (if j = f then p else x j) else .null) i (.ref p) = fun j => if j < i + 1 then Value.ref (if j = f then p else x j) else .null := by
  rw [← stp5f, if_pos h]
theorem stp5b {i f p : Nat} {x : Nat → Nat} (h : ¬ i = f) : updV (fun j => if j < i then Value.ref (if j = f then p else x j) else .null) i (.ref (x i)) = fun j => if j < i + 1 then Value.ref (if j = f then p else x j) else .null := by
  rw [← stp5f, if_neg h]
set_option maxHeartbeats 4000000 in
set_option maxRecDepth 100000 in
theorem m_X5_init {G : jG} {M : jM} {s : Nat} {Z : jH} {v0 v1 v2 v3 v4 v5 v6 v7 : Value} (hs : (gL G).stackTraces = false) (h1 : M.1 s = some (.inr (9, [v0, v1, v2, v3, v4, v5, v6, v7]))) (hsM : M.2 = s + 1) (hz : sub Z M.1) (hZ0 : Z s = none) (hk : strR Z (gK G 0) []) (hBs : gB G ≤ s) : JMet G jX5_init [.ref s] (M) 4 27 3 (fun v M' => v = none ∧ ∃ Z', sub Z Z' ∧ (∀ a o, Z' a = some o → Z a = some o ∨ (M.2 + 1 ≤ a ∧ a < M.2 + 4)) ∧ sub Z' M'.1 ∧ suR M'.1 Z' s set0 ∧ kept M M' (fun a => a = s) ∧ M'.2 = M.2 + 4) jNo := by
  refine jMet_of [some (.ref (s))] (by decide) rfl (Nat.le_of_ble_eq_true rfl) (rfl) hs ?_
  intro C hC9 hG
  have hC := hC9.z
  have hs9 := jOK0_tr hC
  refine j_lt (fun hlt => ?_)
  have hBg : jB C = gB G := by rw [jB, hG]
  subst hG
  have hs1 := hlt _ _ h1
  have hZM : Z M.2 = none := by
    cases e : Z M.2 with
    | none => rfl
    | some o => exact absurd (hlt _ _ (hz _ _ e)) (Nat.lt_irrefl _)
  refine j_aload_n hC dX5_init_0 rfl (jrf_ref _) ?_
  refine j_obj hC ko_X5_3 ko_i ko_c dX5_init_1 (by decide) (Nat.le_of_ble_eq_true rfl) ?_
  refine j_aload_n hC dX5_init_4 rfl (jrf_ref _) ?_
  refine j_bipush (v := nI 20) hC dX5_init_5 (by decide) ?_
  refine c_anew (kc := 3) (ks := 7) (N := 20) hC ka_X5_9 (by decide) dX5_init_7 (by decide)  ?_
  rw [hsM]
  refine c_putF (fs' := [.ref (s + 1), v1, v2, v3, v4, v5, v6, v7]) hC kp_X5_11 rfl dX5_init_10 ((jnew_ne (by show (s) ≠ M.2; omega)).trans (h1)) (by omega) (rfl) (rfl) rfl ?_
  refine j_aload_n hC dX5_init_13 rfl (jrf_ref _) ?_
  have hzA : sub Z (jput (jnew (M) (.inl (.object RX1, 20, fun _ => .null))) (s) (.inr (9, [.ref (s + 1), v1, v2, v3, v4, v5, v6, v7]))).1 := sub_put hZ0 (sub_new hZM hz)
  have hEA : suE (jput (jnew (M) (.inl (.object RX1, 20, fun _ => .null))) (s) (.inr (9, [.ref (s + 1), v1, v2, v3, v4, v5, v6, v7]))).1 Z s := ⟨_, _, _, _, _, _, _, _, jput_at, (jput_ne (by show (s + 1) ≠ (s); omega)).trans (by rw [← hsM]; exact jnew_at), fun i hi => entV_0⟩
  refine c_Pv (kc := 0) (ks := 0) hC kv_X5_17 dX5_init_14 (m_X5_reset hs9 hEA hzA hZ0 hk hBs) (jput_at) rfl rfl rfl rfl (by decide) (Nat.le_of_ble_eq_true rfl) ?_
  intro v9 M1 h9
  obtain ⟨rfl, Z1, e1, e2, e3, e4, e5⟩ := h9
  have hM2 : (jput (jnew M (.inl (.object RX1, 20, fun _ => .null))) s (.inr (9, [.ref (s + 1), v1, v2, v3, v4, v5, v6, v7]))).2 = M.2 + 1 := rfl
  exact j_vret hC9 rfl dX5_init_17 (⟨rfl, Z1, e1.1, fun a o ha => (e1.2 a o ha).imp id (fun g => ⟨g.1, by omega⟩), e2, e3, fun a o ha hn => e4 a o ((jput_ne (show a ≠ s from hn)).trans ((jnew_ne (by have := hlt _ _ ha; omega)).trans ha)) hn, by omega⟩)
set_option maxHeartbeats 4000000 in
set_option maxRecDepth 100000 in
theorem m_X1_init {G : jG} {M : jM} {a g k : Nat} {v0 v1 v2 : Value} (hs : (gL G).stackTraces = false) (h1 : M.1 a = some (.inr (5, [v0, v1, v2]))) (hB : gB G ≤ a) : JMet G jX1_init [.ref a, .int (nI g), .int (nI k)] (M) 2 6 2 (fun v M' => v = none ∧ M'.1 a = some (.inr (5, [.int (nI g), .int (nI k), .ref M.2])) ∧ M'.1 M.2 = some (.inl (.object RX8, 5, fun _ => .ref (M.2 + 1))) ∧ M'.1 (M.2 + 1) = some (.inr (12, [.ref (gK G 5)])) ∧ kept M M' (fun b => b = a) ∧ M'.2 = M.2 + 2) jNo := by
  refine jMet_of [some (.ref (a)), some (.int (nI (g))), some (.int (nI (k))), none, none] (by decide) rfl (Nat.le_of_ble_eq_true rfl) (rfl) hs ?_
  intro C hC9 hG
  have hC := hC9.z
  have hs9 := jOK0_tr hC
  refine j_lt (fun hlt => ?_)
  have hBg : jB C = gB G := by rw [jB, hG]
  subst hG
  have ha := hlt _ _ h1
  refine j_aload_n hC dX1_init_0 rfl (jrf_ref _) ?_
  refine j_iload_n hC dX1_init_1 rfl ?_
  refine j_iload_n hC dX1_init_2 rfl ?_
  refine j_iconst (v := nI 5) hC dX1_init_3 (by decide) ?_
  refine c_anew (kc := 1) (ks := 1) (N := 5) hC ka_X1_3 (by decide) dX1_init_4 (by decide)  ?_
  refine c_Ik (kc' := 0) (ks' := 0) (kc := 1) (ks := 1) hC ki_X1_5 dX1_init_7 (m_X1_init_ (g := g) (k := k) (b := M.2) hs9 ((jnew_ne (by show (a) ≠ M.2; omega)).trans (h1)) (by first | omega | (show _ ≤ a; omega))) rfl rfl (by decide) (Nat.le_of_ble_eq_true rfl) ?_
  refine c_new (kc := 0) (ks := 0) hC kn_X1_3 dX1_init_10 rfl ?_
  refine j_dup hC dX1_init_13 rfl ?_
  refine j_ldcS (i := 5) (is := 11) (text := "") hC rfl dX1_init_14 ?_
  refine c_Ik (kc' := 0) (ks' := 0) (kc := 0) (ks := 0) hC ki_X1_13 dX1_init_16 (m_X8_init (x := gK (jCG C) 5) hs9 (jnew_at) (by first | omega | (show _ ≤ M.2 + 1; omega))) rfl rfl (by decide) (Nat.le_of_ble_eq_true rfl) ?_
  refine j_astore_n3 hC dX1_init_19 (jrf_ref _) (by decide) rfl ?_
  refine j_iconst (v := nI 0) hC dX1_init_20 (by decide) ?_
  refine j_istore_4 hC dX1_init_21 (by decide) rfl ?_
  suffices K : ∀ (n9 : Nat) (Mr : jM) (i : Nat), 5 - i < n9 → (Mr.1 (M.2) = some (.inl (.object RX8, 5, fun j => if j < i then .ref (M.2 + 1) else .null))) → (∀ b9, b9 ≠ (M.2) → Mr.1 b9 = (jput (jnew (jput (jnew (M) (.inl (.object RX8, 5, fun _ => .null))) (a) (.inr (5, [.int (nI (g)), .int (nI (k)), .ref (M.2)]))) (.inr (12, [.null]))) (M.2 + 1) (.inr (12, [.ref (gK (jCG C) 5)]))).1 b9) → (Mr.2 = M.2 + 2) → (i ≤ 5) → J C (Mr) 0 0 23 [some (.ref (a)), none, none, some (.ref (M.2 + 1)), some (.int (nI (i)))] [] from (j_L (jle_s (jle_n (jle_n (jle_s (jle_s (jle_0)))))) (K _ (jput (jnew (jput (jnew (M) (.inl (.object RX8, 5, fun _ => .null))) (a) (.inr (5, [.int (nI (g)), .int (nI (k)), .ref (M.2)]))) (.inr (12, [.null]))) (M.2 + 1) (.inr (12, [.ref (gK (jCG C) 5)]))) (0) (Nat.lt_succ_self _) (row_f ((jput_ne (by show (M.2) ≠ (M.2 + 1); omega)).trans ((jnew_ne (by show (M.2) ≠ M.2 + 1; omega)).trans ((jput_ne (by show (M.2) ≠ (a); omega)).trans (jnew_at)))) (funext fun j => (if_neg (Nat.not_lt_zero j)).symm)) (fun _ _ => rfl) rfl (by omega)))
  intro n9
  induction n9 with
  | zero => intro Mr i hm; omega
  | succ n9 ih =>
    intro Mr i hm hrw0 hfr he2 hi
    refine j_iload hC dX1_init_23 rfl ?_
    refine j_aload_n hC dX1_init_25 rfl (jrf_ref _) ?_
    refine j_get (v := .ref (M.2)) hC kf_X1_16 dX1_init_26 ((hfr _ (by show (a) ≠ (M.2); omega)).trans ((jput_ne (by show (a) ≠ (M.2 + 1); omega)).trans ((jnew_ne (by show (a) ≠ M.2 + 1; omega)).trans (jput_at)))) (rfl) ?_
    refine c_alen hC dX1_init_29 (hrw0) ?_
    refine n_icmp_ge (tgt := 47) hC dX1_init_30 (by decide) (by omega) (by omega) (fun c1 => ?_) (fun c1 => ?_)
    · refine j_ext (g := fun _ => .ref (M.2 + 1)) (hrw0) (by omega) (fun j hj => if_pos (show j < i by omega)) ?_
      exact j_vret hC9 rfl dX1_init_47 (⟨rfl, (jput_ne (show a ≠ M.2 by omega)).trans ((hfr _ (by show (a) ≠ (M.2); omega)).trans ((jput_ne (by show (a) ≠ (M.2 + 1); omega)).trans ((jnew_ne (by show (a) ≠ M.2 + 1; omega)).trans (jput_at)))), jput_at, (jput_ne (show M.2 + 1 ≠ M.2 by omega)).trans ((hfr _ (by show (M.2 + 1) ≠ (M.2); omega)).trans (jput_at)), fun a9 o9 ha9 hn9 => by
  have hl9 := hlt _ _ ha9
  have hn8 : a9 ≠ a := hn9
  exact (jput_ne (show a9 ≠ M.2 by omega)).trans ((hfr _ (by show (a9) ≠ (M.2); omega)).trans ((jput_ne (by show (a9) ≠ (M.2 + 1); omega)).trans ((jnew_ne (by show (a9) ≠ M.2 + 1; omega)).trans ((jput_ne (by show (a9) ≠ (a); omega)).trans ((jnew_ne (by show (a9) ≠ M.2; omega)).trans (ha9)))))), he2⟩)
    · refine j_aload_n hC dX1_init_33 rfl (jrf_ref _) ?_
      refine j_get (v := .ref (M.2)) hC kf_X1_16 dX1_init_34 ((hfr _ (by show (a) ≠ (M.2); omega)).trans ((jput_ne (by show (a) ≠ (M.2 + 1); omega)).trans ((jnew_ne (by show (a) ≠ M.2 + 1; omega)).trans (jput_at)))) (rfl) ?_
      refine j_iload hC dX1_init_37 rfl ?_
      refine j_aload_n hC dX1_init_39 rfl (jrf_ref _) ?_
      refine c_aast (i := i) hC dX1_init_40 (hrw0) ((hfr _ (by show (M.2 + 1) ≠ (M.2); omega)).trans (jput_at)) rfl (by omega) (by omega) (by omega) ?_
      refine j_iinc_4 (v := nI (i + 1)) hC dX1_init_41 (nI_add _ _) (by decide) rfl ?_
      refine j_goto (tgt := 23) hC dX1_init_44 (by decide) ?_
      exact (ih (jput (Mr) (M.2) (.inl (.object RX8, 5, (updV (fun j => if j < i then .ref (M.2 + 1) else .null) (i) (.ref (M.2 + 1)))))) (i + 1) (by omega) (row_f (jput_at) (stp5)) (fun b9 hb0 => (jput_ne (by show (b9) ≠ (M.2); omega)).trans (hfr b9 hb0)) (he2) (by omega))
theorem entR.mk {Z : jH} {a b : Nat} {q : aRec} {x : Nat → Nat} (h1 : Z a = some (.inr (5, [.int (nI q.1), .int (nI q.2.1), .ref b]))) (h2 : Z b = some (.inl (.object RX8, 5, fun j => .ref (x j)))) (h3 : ∀ f, f < 5 → txtR Z (x f) (q.2.2 f)) (h4 : recOK q) : entR Z a q := ⟨⟨b, x, h1, h2, h3⟩, h4⟩
set_option maxHeartbeats 4000000 in
set_option maxRecDepth 100000 in
theorem m_X1_withGroup {G : jG} {M : jM} {a g k b : Nat} {g0 : Nat} (hs : (gL G).stackTraces = false) (e1 : M.1 a = some (.inr (5, [.int (nI g0), .int (nI k), .ref b]))) (hB : gB G ≤ M.2) : JMet G jX1_withGroup [.ref a, .int (nI g)] (M) 1 3 2 (fun v M' => v = some (.ref M.2) ∧ M'.1 M.2 = some (.inr (5, [.int (nI g), .int (nI k), .ref b])) ∧ (∀ a o, M.1 a = some o → M'.1 a = some o) ∧ M'.2 = M.2 + 1) jNo := by
  refine jMet_of [some (.ref (a)), some (.int (nI (g)))] (by decide) rfl (Nat.le_of_ble_eq_true rfl) (rfl) hs ?_
  intro C hC9 hG
  have hC := hC9.z
  have hs9 := jOK0_tr hC
  refine j_lt (fun hlt => ?_)
  have hBg : jB C = gB G := by rw [jB, hG]
  subst hG
  have ha := hlt _ _ e1
  refine c_new (kc := 0) (ks := 0) hC kn_X1_6 dX1_withGroup_0 rfl ?_
  refine j_dup hC dX1_withGroup_3 rfl ?_
  refine j_iload_n hC dX1_withGroup_4 rfl ?_
  refine j_aload_n hC dX1_withGroup_5 rfl (jrf_ref _) ?_
  refine j_get (v := .int (nI (k))) hC kf_X1_29 dX1_withGroup_6 ((jnew_ne (by show (a) ≠ M.2; omega)).trans (e1)) (rfl) ?_
  refine j_aload_n hC dX1_withGroup_9 rfl (jrf_ref _) ?_
  refine j_get (v := .ref (b)) hC kf_X1_16 dX1_withGroup_10 ((jnew_ne (by show (a) ≠ M.2; omega)).trans (e1)) (rfl) ?_
  refine c_Ik (kc' := 0) (ks' := 0) (kc := 0) (ks := 0) hC ki_X1_5 dX1_withGroup_13 (m_X1_init_ (g := g) (k := k) (b := b) hs9 (jnew_at) (by first | omega | (show _ ≤ M.2; omega))) rfl rfl (by decide) (Nat.le_of_ble_eq_true rfl) ?_
  exact j_aret hC9 rfl (by first | exact Or.inl ⟨_, rfl⟩ | exact Or.inr ⟨_, rfl⟩) dX1_withGroup_16 (⟨rfl, jput_at.trans rfl, fun a9 o9 ha9 => by
  have hl9 := hlt _ _ ha9
  exact (jput_ne (by show a9 ≠ M.2; omega)).trans ((jnew_ne (by omega)).trans ha9), rfl⟩) (jrf_ref _)
set_option maxHeartbeats 4000000 in
set_option maxRecDepth 100000 in
theorem m_X1_withCount {G : jG} {M : jM} {a g k b : Nat} {k0 : Nat} (hs : (gL G).stackTraces = false) (e1 : M.1 a = some (.inr (5, [.int (nI g), .int (nI k0), .ref b]))) (hB : gB G ≤ M.2) : JMet G jX1_withCount [.ref a, .int (nI k)] (M) 1 3 2 (fun v M' => v = some (.ref M.2) ∧ M'.1 M.2 = some (.inr (5, [.int (nI g), .int (nI k), .ref b])) ∧ (∀ a o, M.1 a = some o → M'.1 a = some o) ∧ M'.2 = M.2 + 1) jNo := by
  refine jMet_of [some (.ref (a)), some (.int (nI (k)))] (by decide) rfl (Nat.le_of_ble_eq_true rfl) (rfl) hs ?_
  intro C hC9 hG
  have hC := hC9.z
  have hs9 := jOK0_tr hC
  refine j_lt (fun hlt => ?_)
  have hBg : jB C = gB G := by rw [jB, hG]
  subst hG
  have ha := hlt _ _ e1
  refine c_new (kc := 0) (ks := 0) hC kn_X1_6 dX1_withCount_0 rfl ?_
  refine j_dup hC dX1_withCount_3 rfl ?_
  refine j_aload_n hC dX1_withCount_4 rfl (jrf_ref _) ?_
  refine j_get (v := .int (nI (g))) hC kf_X1_25 dX1_withCount_5 ((jnew_ne (by show (a) ≠ M.2; omega)).trans (e1)) (rfl) ?_
  refine j_iload_n hC dX1_withCount_8 rfl ?_
  refine j_aload_n hC dX1_withCount_9 rfl (jrf_ref _) ?_
  refine j_get (v := .ref (b)) hC kf_X1_16 dX1_withCount_10 ((jnew_ne (by show (a) ≠ M.2; omega)).trans (e1)) (rfl) ?_
  refine c_Ik (kc' := 0) (ks' := 0) (kc := 0) (ks := 0) hC ki_X1_5 dX1_withCount_13 (m_X1_init_ (g := g) (k := k) (b := b) hs9 (jnew_at) (by first | omega | (show _ ≤ M.2; omega))) rfl rfl (by decide) (Nat.le_of_ble_eq_true rfl) ?_
  exact j_aret hC9 rfl (by first | exact Or.inl ⟨_, rfl⟩ | exact Or.inr ⟨_, rfl⟩) dX1_withCount_16 (⟨rfl, jput_at.trans rfl, fun a9 o9 ha9 => by
  have hl9 := hlt _ _ ha9
  exact (jput_ne (by show a9 ≠ M.2; omega)).trans ((jnew_ne (by omega)).trans ha9), rfl⟩) (jrf_ref _)
set_option maxHeartbeats 4000000 in
set_option maxRecDepth 100000 in
theorem m_X1_withText {G : jG} {M : jM} {a p f : Nat} {q : aRec} {t : List Nat} {x : Nat → Nat} {b : Nat} (hs : (gL G).stackTraces = false) (e1 : M.1 a = some (.inr (5, [.int (nI q.1), .int (nI q.2.1), .ref b]))) (e2 : M.1 b = some (.inl (.object RX8, 5, fun j => .ref (x j)))) (hx : ∀ f, f < 5 → txtR M.1 (x f) (q.2.2 f)) (hp : txtR M.1 p t) (hf : f < 5) (hB : gB G ≤ M.2) : JMet G jX1_withText [.ref a, .int (nI f), .ref p] (M) 2 8 2 (fun v M' => v = some (.ref (M.2 + 1)) ∧ M'.1 (M.2 + 1) = some (.inr (5, [.int (nI q.1), .int (nI q.2.1), .ref M.2])) ∧ M'.1 M.2 = some (.inl (.object RX8, 5, fun j => .ref (if j = f then p else x j))) ∧ (∀ a o, M.1 a = some o → M'.1 a = some o) ∧ M'.2 = M.2 + 2) jNo := by
  refine jMet_of [some (.ref (a)), some (.int (nI (f))), some (.ref (p)), none, none] (by decide) rfl (Nat.le_of_ble_eq_true rfl) (rfl) hs ?_
  intro C hC9 hG
  have hC := hC9.z
  have hs9 := jOK0_tr hC
  refine j_lt (fun hlt => ?_)
  have hBg : jB C = gB G := by rw [jB, hG]
  subst hG
  have ha := hlt _ _ e1
  have hb := hlt _ _ e2
  obtain ⟨sp, op, -⟩ := id hp
  have hpl := hlt _ _ op
  refine j_iconst (v := nI 5) hC dX1_withText_0 (by decide) ?_
  refine c_anew (kc := 1) (ks := 3) (N := 5) hC ka_X1_3 (by decide) dX1_withText_1 (by decide)  ?_
  refine j_astore_n3 hC dX1_withText_4 (jrf_ref _) (by decide) rfl ?_
  refine j_iconst (v := nI 0) hC dX1_withText_5 (by decide) ?_
  refine j_istore_4 hC dX1_withText_6 (by decide) rfl ?_
  suffices K : ∀ (n9 : Nat) (Mr : jM) (i : Nat), 5 - i < n9 → (Mr.1 (M.2) = some (.inl (.object RX8, 5, fun j => if j < i then .ref (if j = f then p else x j) else .null))) → (∀ b9, b9 ≠ (M.2) → Mr.1 b9 = (jnew (M) (.inl (.object RX8, 5, fun _ => .null))).1 b9) → (Mr.2 = M.2 + 1) → (i ≤ 5) → J C (Mr) 1 3 8 [some (.ref (a)), some (.int (nI (f))), some (.ref (p)), some (.ref (M.2)), some (.int (nI (i)))] [] from (K _ (jnew (M) (.inl (.object RX8, 5, fun _ => .null))) (0) (Nat.lt_succ_self _) (row_f (jnew_at) (funext fun j => (if_neg (Nat.not_lt_zero j)).symm)) (fun _ _ => rfl) rfl (by omega))
  intro n9
  induction n9 with
  | zero => intro Mr i hm; omega
  | succ n9 ih =>
    intro Mr i hm hrw0 hfr he2 hi
    refine j_iload hC dX1_withText_8 rfl ?_
    refine j_aload_n hC dX1_withText_10 rfl (jrf_ref _) ?_
    refine c_alen hC dX1_withText_11 (hrw0) ?_
    refine n_icmp_ge (tgt := 42) hC dX1_withText_12 (by decide) (by omega) (by omega) (fun c1 => ?_) (fun c1 => ?_)
    · refine c_new (kc := 0) (ks := 0) hC kn_X1_6 dX1_withText_42 rfl ?_
      refine j_dup hC dX1_withText_45 rfl ?_
      refine j_aload_n hC dX1_withText_46 rfl (jrf_ref _) ?_
      refine j_get (v := .int (nI (q.1))) hC kf_X1_25 dX1_withText_47 ((jnew_ne (by show (a) ≠ Mr.2; omega)).trans ((hfr _ (by show (a) ≠ (M.2); omega)).trans ((jnew_ne (by show (a) ≠ M.2; omega)).trans (e1)))) (rfl) ?_
      refine j_aload_n hC dX1_withText_50 rfl (jrf_ref _) ?_
      refine j_get (v := .int (nI (q.2.1))) hC kf_X1_29 dX1_withText_51 ((jnew_ne (by show (a) ≠ Mr.2; omega)).trans ((hfr _ (by show (a) ≠ (M.2); omega)).trans ((jnew_ne (by show (a) ≠ M.2; omega)).trans (e1)))) (rfl) ?_
      refine j_aload_n hC dX1_withText_54 rfl (jrf_ref _) ?_
      refine c_Ik (kc' := 0) (ks' := 0) (kc := 0) (ks := 0) hC ki_X1_5 dX1_withText_55 (m_X1_init_ (g := q.1) (k := q.2.1) (b := M.2) hs9 (jnew_at) (by first | omega | (show _ ≤ Mr.2; omega))) rfl rfl (by decide) (Nat.le_of_ble_eq_true rfl) ?_
      refine j_ext (a := M.2) (g := fun j => .ref (if j = f then p else x j)) ((jput_ne (by show (M.2) ≠ (Mr.2); omega)).trans ((jnew_ne (by show (M.2) ≠ Mr.2; omega)).trans (hrw0))) (by omega) (fun j hj => if_pos (show j < i by omega)) ?_
      have hr2 : Mr.2 = M.2 + 1 := he2
      exact j_aret hC9 rfl (by first | exact Or.inl ⟨_, rfl⟩ | exact Or.inr ⟨_, rfl⟩) dX1_withText_58 (⟨congrArg (fun z => some (Value.ref z)) hr2, (jput_ne (show M.2 + 1 ≠ M.2 by omega)).trans (by rw [← hr2]; exact jput_at), jput_at, fun a9 o9 ha9 => by
  have hl9 := hlt _ _ ha9
  exact (jput_ne (show a9 ≠ M.2 by omega)).trans ((jput_ne (by show (a9) ≠ (Mr.2); omega)).trans ((jnew_ne (by show (a9) ≠ Mr.2; omega)).trans ((hfr _ (by show (a9) ≠ (M.2); omega)).trans ((jnew_ne (by show (a9) ≠ M.2; omega)).trans (ha9))))), congrArg (· + 1) hr2⟩) (jrf_ref _)
    · refine j_aload_n hC dX1_withText_15 rfl (jrf_ref _) ?_
      refine j_iload hC dX1_withText_16 rfl ?_
      have hxi := hx i (by omega)
      obtain ⟨sx, ox, -⟩ := id hxi
      have hxl := hlt _ _ ox
      refine j_iload hC dX1_withText_18 rfl ?_
      refine j_iload_n hC dX1_withText_20 rfl ?_
      refine n_icmp_ne (tgt := 28) hC dX1_withText_21 (by decide) (by omega) (by omega) (fun c2 => ?_) (fun c2 => ?_)
      · refine j_aload_n hC dX1_withText_28 rfl (jrf_ref _) ?_
        refine j_get (v := .ref (b)) hC kf_X1_16 dX1_withText_29 ((hfr _ (by show (a) ≠ (M.2); omega)).trans ((jnew_ne (by show (a) ≠ M.2; omega)).trans (e1))) (rfl) ?_
        refine j_iload hC dX1_withText_32 rfl ?_
        refine c_aald (i := i) (v := .ref (x (i))) hC dX1_withText_34 ((hfr _ (by show (b) ≠ (M.2); omega)).trans ((jnew_ne (by show (b) ≠ M.2; omega)).trans (e2))) rfl (by omega) (by omega) (rfl) ?_
        refine c_aast (i := i) hC dX1_withText_35 (hrw0) ((hfr _ (by show (x (i)) ≠ M.2; omega)).trans ((jnew_ne (by show (x (i)) ≠ M.2; omega)).trans ox)) rfl (by omega) (by omega) (by omega) ?_
        refine j_iinc_4 (v := nI (i + 1)) hC dX1_withText_36 (nI_add _ _) (by decide) rfl ?_
        refine j_goto (tgt := 8) hC dX1_withText_39 (by decide) ?_
        exact (ih (jput (Mr) (M.2) (.inl (.object RX8, 5, (updV (fun j => if j < i then .ref (if j = f then p else x j) else .null) (i) (.ref (x (i))))))) (i + 1) (by omega) (row_f (jput_at) (by first | exact stp5a (by assumption) | exact stp5b (by assumption))) (fun b9 hb0 => (jput_ne (by show (b9) ≠ (M.2); omega)).trans (hfr b9 hb0)) (he2) (by omega))
      · refine j_aload_n hC dX1_withText_24 rfl (jrf_ref _) ?_
        refine j_goto (tgt := 35) hC dX1_withText_25 (by decide) ?_
        refine c_aast (i := i) hC dX1_withText_35 (hrw0) ((hfr _ (by show (p) ≠ M.2; omega)).trans ((jnew_ne (by show (p) ≠ M.2; omega)).trans op)) rfl (by omega) (by omega) (by omega) ?_
        refine j_iinc_4 (v := nI (i + 1)) hC dX1_withText_36 (nI_add _ _) (by decide) rfl ?_
        refine j_goto (tgt := 8) hC dX1_withText_39 (by decide) ?_
        exact (ih (jput (Mr) (M.2) (.inl (.object RX8, 5, (updV (fun j => if j < i then .ref (if j = f then p else x j) else .null) (i) (.ref (p)))))) (i + 1) (by omega) (row_f (jput_at) (by first | exact stp5a (by assumption) | exact stp5b (by assumption))) (fun b9 hb0 => (jput_ne (by show (b9) ≠ (M.2); omega)).trans (hfr b9 hb0)) (he2) (by omega))
