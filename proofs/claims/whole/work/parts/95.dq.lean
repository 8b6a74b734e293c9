/-! ===== the merger's start ===== -/
theorem arrV_ext {cI : ClassId} {N : Nat} {f g : Nat → Value} (e : ∀ j, j < N → f j = g j) : arrV cI N f = arrV cI N g := by
  unfold arrV
  have e2 : (fun j : Fin N => f j.val) = fun j : Fin N => g j.val := funext fun j => e j.val j.isLt
  rw [e2]
theorem j_name {C : jC} {M : jM} {kc ks pc : Nat} {l : List (Option Value)} {st : List Value} (kk : ∀ M', M' = M → J C M' kc ks pc l st) : J C M kc ks pc l st := kk M rfl
/-- what a row holds behind its end does not matter -/
theorem j_row {C : jC} {M : jM} {kc ks pc a n : Nat} {ty : FieldType} {f g : Nat → Value} {l : List (Option Value)} {st : List Value} (h : M.1 a = some (.inl (ty, n, f))) (e : ∀ j, j < n → f j = g j) (kk : J C (jput M a (.inl (ty, n, g))) kc ks pc l st) : J C M kc ks pc l st := by
  obtain ⟨p, e9, R, s, m, args, below, meth, c, Q, G⟩ := C
  intro H locs cells slots ls h1 h2 h3 h4 h5
  refine kk H locs cells slots ls ⟨h1.1, fun b o hb => ?_⟩ h2 h3 h4 h5
  by_cases e8 : b = a
  · subst e8
    rw [jput_at] at hb
    cases hb
    rcases h1.2 _ _ h with ⟨q1, q2, q3⟩ | ⟨q1, cell, q2, q3, q4, q5, q6, q7⟩
    · exact Or.inl ⟨q1, q2, q3.trans (congrArg some (arrV_ext e))⟩
    · exact Or.inr ⟨q1, cell, q2, q3, q4, q5, q6, fun j hj => (q7 j hj).trans (congrArg some (e j hj))⟩
  · rw [jput_ne e8] at hb
    exact h1.2 b o hb
/-- the places of the merger at c that never are among what does not change -/
def nzA (c b : Nat) : Prop := b = c ∨ b = c + 1 ∨ b = c + 2 ∨ b = c + 3 ∨ b = c + 4 ∨ b = c + 8 ∨ b = c + 9 ∨ (c + 13 ≤ b ∧ b < c + 80) ∨ (c + 80 ≤ b ∧ (b - (c + 80)) % 5 < 2)
theorem str_only (Z : jH) : ∃ Zs : jH, ∀ a o, Zs a = some o ↔ Z a = some o ∧ tgS o := by
  classical
  refine ⟨fun a => if ∃ o, Z a = some o ∧ tgS o then Z a else none, fun a o => ⟨fun h => ?_, fun h => ?_⟩⟩
  · dsimp only at h
    split at h
    · rename_i e9
      obtain ⟨o9, e8, e7⟩ := e9
      exact ⟨h, by rw [e8] at h; cases h; exact e7⟩
    · cases h
  · dsimp only
    rw [if_pos ⟨o, h⟩]
    exact h.1
theorem suR_4 {H Zs Z1 : jH} {s : Nat} (hr : suR H Z1 s set0) (hq : ∀ a o, Z1 a = some o → Zs a = some o ∨ (s + 2 ≤ a ∧ a < s + 5)) (ht : ∀ a o, Zs a = some o → tgS o) : ∃ o, Z1 (s + 4) = some o := by
  obtain ⟨⟨lay, home, f, xe, -, -, -, -, u6, u7⟩, -⟩ := hr
  obtain ⟨⟨b, g, l1, l2, -⟩, -⟩ := u6
  obtain ⟨sx, t1, -⟩ := u7
  have r1 := (hq _ _ l1).elim (fun e => absurd (ht _ _ e) (tgS_no (by decide))) id
  have r2 := (hq _ _ l2).elim (fun e => absurd (ht _ _ e) (tgS_na (fun e => by cases e))) id
  have r3 := (hq _ _ t1).elim (fun e => absurd (ht _ _ e) (tgS_no (by decide))) id
  have n1 : lay ≠ b := fun e => by rw [e, l2] at l1; cases l1
  have n2 : lay ≠ home := fun e => by rw [e, t1] at l1; cases l1
  have n3 : b ≠ home := fun e => by rw [e, t1] at l2; cases l2
  have h : s + 4 = lay ∨ s + 4 = b ∨ s + 4 = home := by omega
  rcases h with h | h | h <;> rw [h]
  · exact ⟨_, l1⟩
  · exact ⟨_, l2⟩
  · exact ⟨_, t1⟩
theorem kept.two {M M' M'' : jM} {W : Nat → Prop} (h : kept M M' W) (h2 : kept M' M'' W) : kept M M'' W := fun a o ha hn => h2 a o (h a o ha hn) hn
set_option maxHeartbeats 4000000 in
set_option maxRecDepth 100000 in
theorem m_X9_init {G : jG} {M : jM} {c : Nat} {Z : jH} (hs : (gL G).stackTraces = false) (h1 : M.1 c = some (.inr (13, [.null, .null, .null, .null, .null, .null, .null, .int 0, .int 0, .int 0]))) (hcM : M.2 = c + 1) (hz : sub Z M.1) (hZn : ∀ b, c ≤ b → Z b = none) (hkr : kR G Z) (hBc : gB G ≤ c) : JMet G jX9_init [.ref c] (M) 119 4872 4 (fun w M' => w = none ∧ ∃ Z', cI G M' Z' c (c + 2) st0 ∧ sub Z Z' ∧ (∀ a o, Z' a = some o → Z a = some o ∨ c ≤ a) ∧ kept M M' (fun a => a = c) ∧ M'.2 = c + 120) jNo := by
  refine jMet_of [some (.ref (c)), none] (by decide) rfl (Nat.le_of_ble_eq_true rfl) (rfl) hs ?_
  intro C hC9 hG
  have hC := hC9.z
  have hs9 := jOK0_tr hC
  refine j_lt (fun hlt => ?_)
  have hBg : jB C = gB G := by rw [jB, hG]
  subst hG
  obtain ⟨Z0, hZ0⟩ : ∃ Z0, Z0 = Z := ⟨_, rfl⟩
  have hz0 : sub Z0 M.1 := by rw [hZ0]; exact hz
  have hzn0 : ∀ b, nzA c b → Z0 b = none := fun b hb => by rw [hZ0]; exact hZn b (by unfold nzA at hb; omega)
  have hzs0 : sub Z Z0 := by rw [hZ0]; exact sub_refl
  have hzg0 : ∀ a o, Z0 a = some o → Z a = some o ∨ c ≤ a := fun a o ha => Or.inl (by rw [← hZ0]; exact ha)
  clear hZ0 hlt
  refine j_aload_n hC dX9_init_0 rfl (jrf_ref _) ?_
  refine j_obj hC ko_X9_1 ko_i ko_c dX9_init_1 (by decide) (Nat.le_of_ble_eq_true rfl) ?_
  refine j_aload_n hC dX9_init_4 rfl (jrf_ref _) ?_
  refine j_lt (fun hlt0 => ?_)
  refine c_new (kc := 118) (ks := 4868) hC kn_X9_7 dX9_init_5 rfl ?_
  refine j_topV (show Value.ref _ = Value.ref (c + 1) from congrArg Value.ref (show M.2 = c + 1 by omega)) ?_
  have hO0 : (jnew M (.inr (1, [.null, .int 0, .int 0, .int 0]))).1 (c + 1) = some (.inr (1, [.null, .int 0, .int 0, .int 0])) := if_pos (show c + 1 = M.2 by omega)
  have hP0 : (jnew M (.inr (1, [.null, .int 0, .int 0, .int 0]))).2 = M.2 + 1 := rfl
  have hK0 : kept M (jnew M (.inr (1, [.null, .int 0, .int 0, .int 0]))) (fun _ => False) := fun a o ha _ => (jnew_ne (by have := hlt0 _ _ ha; omega)).trans ha
  refine j_dup hC dX9_init_8 rfl ?_
  refine c_Pi (kc := 117) (ks := 4852) hC ki_X9_9 dX9_init_9 (m_J4_init_da8c8 (b := c + 1) hs9 hO0 (by omega)) rfl rfl (by decide) (Nat.le_of_ble_eq_true rfl) ?_
  intro v9 N0 h9
  obtain ⟨rfl, hb, hk, h2⟩ := h9
  refine c_putF (fs' := [.ref (c + 1), .null, .null, .null, .null, .null, .null, .int 0, .int 0, .int 0]) hC kp_X9_10 rfl dX9_init_12 ((hk _ _ ((hK0 _ _ (h1) id)) (by omega))) (by omega) (rfl) (rfl) rfl ?_
  refine j_name (fun M1 hM1 => ?_)
  have a1 : M1.1 c = some (.inr (13, [.ref (c + 1), .null, .null, .null, .null, .null, .null, .int 0, .int 0, .int 0])) := by rw [hM1]; exact jput_at
  have k1 : kept M M1 (fun a => a = c) := fun a o ha hn => by rw [hM1]; exact (jput_ne hn).trans (hk _ _ (hK0 _ _ ha id) (by have := hlt0 _ _ ha; omega))
  have kp : kept N0 M1 (fun a => a = c) := fun a o ha hn => by rw [hM1]; exact (jput_ne hn).trans ha
  have m1 : M1.2 = c + 3 := by rw [hM1]; show N0.2 = _; omega
  have b1 : bufR M1.1 (c + 1) (c + 2) 16 [] := by
    have e9 : (jnew M (.inr (1, [.null, .int 0, .int 0, .int 0]))).2 = c + 2 := by show M.2 + 1 = _; omega
    rw [e9] at hb
    exact hb.up (fun a o ha h9 => kp a o h9 (by omega))
  replace hz0 : sub Z0 M1.1 := fun a o ha => k1 a o (hz0 a o ha) (fun e9 => by rw [show a = c from e9, hzn0 _ (show nzA c c from Or.inl rfl)] at ha; cases ha)
  clear hM1 hk h2 kp
  refine j_aload_n hC dX9_init_15 rfl (jrf_ref _) ?_
  refine j_lt (fun hlt1 => ?_)
  refine c_new (kc := 116) (ks := 4844) hC kn_X9_16 dX9_init_16 rfl ?_
  refine j_topV (show Value.ref _ = Value.ref (c + 3) from congrArg Value.ref (show M1.2 = c + 3 by omega)) ?_
  have hO1 : (jnew M1 (.inr (9, [.null, .int 0, .null, .null, .int 0, .int 0, .int 0, .int 0]))).1 (c + 3) = some (.inr (9, [.null, .int 0, .null, .null, .int 0, .int 0, .int 0, .int 0])) := if_pos (show c + 3 = M1.2 by omega)
  have hP1 : (jnew M1 (.inr (9, [.null, .int 0, .null, .null, .int 0, .int 0, .int 0, .int 0]))).2 = M1.2 + 1 := rfl
  have hK1 : kept M1 (jnew M1 (.inr (9, [.null, .int 0, .null, .null, .int 0, .int 0, .int 0, .int 0]))) (fun _ => False) := fun a o ha _ => (jnew_ne (by have := hlt1 _ _ ha; omega)).trans ha
  refine j_dup hC dX9_init_19 rfl ?_
  refine c_Pi (kc := 112) (ks := 4817) hC ki_X9_18 dX9_init_20 (m_X5_init (s := c + 3) (Z := Z0) hs9 hO1 (by omega) (fun a o ha => hK1 a o (hz0 a o ha) id) (hzn0 _ (by unfold nzA; omega)) (hkr.1.mono hzs0) (by omega)) rfl rfl (by decide) (Nat.le_of_ble_eq_true rfl) ?_
  intro v9 N1 h9
  obtain ⟨rfl, Z1, q1, q2, q3, q4, hk, h2⟩ := h9
  refine c_putF (fs' := [.ref (c + 1), .ref (c + 3), .null, .null, .null, .null, .null, .int 0, .int 0, .int 0]) hC kp_X9_19 rfl dX9_init_23 ((hk _ _ ((hK1 _ _ (a1) id)) (by omega))) (by omega) (rfl) (rfl) rfl ?_
  refine j_name (fun M2 hM2 => ?_)
  have a2 : M2.1 c = some (.inr (13, [.ref (c + 1), .ref (c + 3), .null, .null, .null, .null, .null, .int 0, .int 0, .int 0])) := by rw [hM2]; exact jput_at
  have k2 : kept M1 M2 (fun a => a = c) := fun a o ha hn => by rw [hM2]; exact (jput_ne hn).trans (hk _ _ (hK1 _ _ ha id) (by have := hlt1 _ _ ha; omega))
  have kp : kept N1 M2 (fun a => a = c) := fun a o ha hn => by rw [hM2]; exact (jput_ne hn).trans ha
  have m2 : M2.2 = c + 8 := by rw [hM2]; show N1.2 = _; omega
  have s1 : suR M2.1 Z1 (c + 3) set0 := q4.up sub_refl kp (by omega) (by omega)
  have hzc1 : Z1 c = none := by
    cases e9 : Z1 c with
    | none => rfl
    | some o9 => rcases q2 _ _ e9 with e8 | e8; rw [hzn0 _ (show nzA c c from Or.inl rfl)] at e8; cases e8; omega
  have hz1 : sub Z1 M2.1 := fun a o ha => kp a o (q3 a o ha) (fun e9 => by rw [show a = c from e9, hzc1] at ha; cases ha)
  have hzn1 : ∀ b, nzA c b → Z1 b = none := fun b hb => by
    cases e9 : Z1 b with
    | none => rfl
    | some o9 =>
      rcases q2 _ _ e9 with e8 | e8
      · rw [hzn0 _ hb] at e8; cases e8
      · unfold nzA at hb; omega
  have hzs1 : sub Z Z1 := fun a o ha => q1 _ _ (hzs0 a o ha)
  have hzg1 : ∀ a o, Z1 a = some o → Z a = some o ∨ c ≤ a := fun a o ha => (q2 _ _ ha).elim (hzg0 a o) (fun e9 => Or.inr (by omega))
  clear hM2 hk h2 kp
  refine j_aload_n hC dX9_init_26 rfl (jrf_ref _) ?_
  refine j_lt (fun hlt2 => ?_)
  refine c_new (kc := 111) (ks := 4809) hC kn_X9_16 dX9_init_27 rfl ?_
  refine j_topV (show Value.ref _ = Value.ref (c + 8) from congrArg Value.ref (show M2.2 = c + 8 by omega)) ?_
  have hO2 : (jnew M2 (.inr (9, [.null, .int 0, .null, .null, .int 0, .int 0, .int 0, .int 0]))).1 (c + 8) = some (.inr (9, [.null, .int 0, .null, .null, .int 0, .int 0, .int 0, .int 0])) := if_pos (show c + 8 = M2.2 by omega)
  have hP2 : (jnew M2 (.inr (9, [.null, .int 0, .null, .null, .int 0, .int 0, .int 0, .int 0]))).2 = M2.2 + 1 := rfl
  have hK2 : kept M2 (jnew M2 (.inr (9, [.null, .int 0, .null, .null, .int 0, .int 0, .int 0, .int 0]))) (fun _ => False) := fun a o ha _ => (jnew_ne (by have := hlt2 _ _ ha; omega)).trans ha
  refine j_dup hC dX9_init_30 rfl ?_
  refine c_Pi (kc := 107) (ks := 4782) hC ki_X9_18 dX9_init_31 (m_X5_init (s := c + 8) (Z := Z1) hs9 hO2 (by omega) (fun a o ha => hK2 a o (hz1 a o ha) id) (hzn1 _ (by unfold nzA; omega)) (hkr.1.mono hzs1) (by omega)) rfl rfl (by decide) (Nat.le_of_ble_eq_true rfl) ?_
  intro v9 N2 h9
  obtain ⟨rfl, Z2, q1, q2, q3, q4, hk, h2⟩ := h9
  refine c_putF (fs' := [.ref (c + 1), .ref (c + 3), .ref (c + 8), .null, .null, .null, .null, .int 0, .int 0, .int 0]) hC kp_X9_23 rfl dX9_init_34 ((hk _ _ ((hK2 _ _ (a2) id)) (by omega))) (by omega) (rfl) (rfl) rfl ?_
  refine j_name (fun M3 hM3 => ?_)
  have a3 : M3.1 c = some (.inr (13, [.ref (c + 1), .ref (c + 3), .ref (c + 8), .null, .null, .null, .null, .int 0, .int 0, .int 0])) := by rw [hM3]; exact jput_at
  have k3 : kept M2 M3 (fun a => a = c) := fun a o ha hn => by rw [hM3]; exact (jput_ne hn).trans (hk _ _ (hK2 _ _ ha id) (by have := hlt2 _ _ ha; omega))
  have kp : kept N2 M3 (fun a => a = c) := fun a o ha hn => by rw [hM3]; exact (jput_ne hn).trans ha
  have m3 : M3.2 = c + 13 := by rw [hM3]; show N2.2 = _; omega
  have s2 : suR M3.1 Z2 (c + 8) set0 := q4.up sub_refl kp (by omega) (by omega)
  have hzc2 : Z2 c = none := by
    cases e9 : Z2 c with
    | none => rfl
    | some o9 => rcases q2 _ _ e9 with e8 | e8; rw [hzn1 _ (show nzA c c from Or.inl rfl)] at e8; cases e8; omega
  have hz2 : sub Z2 M3.1 := fun a o ha => kp a o (q3 a o ha) (fun e9 => by rw [show a = c from e9, hzc2] at ha; cases ha)
  have hzn2 : ∀ b, nzA c b → Z2 b = none := fun b hb => by
    cases e9 : Z2 b with
    | none => rfl
    | some o9 =>
      rcases q2 _ _ e9 with e8 | e8
      · rw [hzn1 _ hb] at e8; cases e8
      · unfold nzA at hb; omega
  have hzs2 : sub Z Z2 := fun a o ha => q1 _ _ (hzs1 a o ha)
  have hzg2 : ∀ a o, Z2 a = some o → Z a = some o ∨ c ≤ a := fun a o ha => (q2 _ _ ha).elim (hzg1 a o) (fun e9 => Or.inr (by omega))
  clear hM3 hk h2 kp
  refine j_aload_n hC dX9_init_37 rfl (jrf_ref _) ?_
  refine j_bipush (v := nI 8) hC dX9_init_38 (by decide) ?_
  refine j_lt (fun hlt3 => ?_)
  refine c_anew (kc := 106) (ks := 4774) (N := 8) hC ka_X9_16 (by decide) dX9_init_40 (by decide) ?_
  refine j_topV (show Value.ref _ = Value.ref (c + 13) from congrArg Value.ref (show M3.2 = c + 13 by omega)) ?_
  have hO3 : (jnew M3 (.inl (.object RX5, 8, fun _ => .null))).1 (c + 13) = some (.inl (.object RX5, 8, fun _ => .null)) := if_pos (show c + 13 = M3.2 by omega)
  have hP3 : (jnew M3 (.inl (.object RX5, 8, fun _ => .null))).2 = M3.2 + 1 := rfl
  have hK3 : kept M3 (jnew M3 (.inl (.object RX5, 8, fun _ => .null))) (fun _ => False) := fun a o ha _ => (jnew_ne (by have := hlt3 _ _ ha; omega)).trans ha
  refine c_putF (fs' := [.ref (c + 1), .ref (c + 3), .ref (c + 8), .ref (c + 13), .null, .null, .null, .int 0, .int 0, .int 0]) hC kp_X9_26 rfl dX9_init_43 ((hK3 _ _ (a3) id)) (by omega) (rfl) (rfl) rfl ?_
  refine j_name (fun M4 hM4 => ?_)
  have a4 : M4.1 c = some (.inr (13, [.ref (c + 1), .ref (c + 3), .ref (c + 8), .ref (c + 13), .null, .null, .null, .int 0, .int 0, .int 0])) := by rw [hM4]; exact jput_at
  have hk : kept (jnew M3 (.inl (.object RX5, 8, fun _ => .null))) ((jnew M3 (.inl (.object RX5, 8, fun _ => .null)))) (fun a => a = c + 13) := fun a o ha _ => ha
  have h2 : ((jnew M3 (.inl (.object RX5, 8, fun _ => .null)))).2 = (jnew M3 (.inl (.object RX5, 8, fun _ => .null))).2 := rfl
  have k4 : kept M3 M4 (fun a => a = c) := fun a o ha hn => by rw [hM4]; exact (jput_ne hn).trans (hk _ _ (hK3 _ _ ha id) (by have := hlt3 _ _ ha; omega))
  have kp : kept (jnew M3 (.inl (.object RX5, 8, fun _ => .null))) M4 (fun a => a = c) := fun a o ha hn => by rw [hM4]; exact (jput_ne hn).trans ha
  have m4 : M4.2 = c + 14 := by rw [hM4]; show (jnew M3 (.inl (.object RX5, 8, fun _ => .null))).2 = _; omega
  have p1 : M4.1 (c + 13) = some (.inl (.object RX5, 8, fun _ => .null)) := kp _ _ hO3 (by omega)
  replace hz2 : sub Z2 M4.1 := fun a o ha => k4 a o (hz2 a o ha) (fun e9 => by rw [show a = c from e9, hzn2 _ (show nzA c c from Or.inl rfl)] at ha; cases ha)
  clear hM4 hk h2 kp
  refine j_aload_n hC dX9_init_46 rfl (jrf_ref _) ?_
  refine j_lt (fun hlt4 => ?_)
  refine c_new (kc := 105) (ks := 4772) hC kn_X9_30 dX9_init_47 rfl ?_
  refine j_topV (show Value.ref _ = Value.ref (c + 14) from congrArg Value.ref (show M4.2 = c + 14 by omega)) ?_
  have hO4 : (jnew M4 (.inr (7, [.null, .int 0]))).1 (c + 14) = some (.inr (7, [.null, .int 0])) := if_pos (show c + 14 = M4.2 by omega)
  have hP4 : (jnew M4 (.inr (7, [.null, .int 0]))).2 = M4.2 + 1 := rfl
  have hK4 : kept M4 (jnew M4 (.inr (7, [.null, .int 0]))) (fun _ => False) := fun a o ha _ => (jnew_ne (by have := hlt4 _ _ ha; omega)).trans ha
  refine j_dup hC dX9_init_50 rfl ?_
  refine c_Pi (kc := 44) (ks := 512) hC ki_X9_32 dX9_init_51 (m_X3_init (o := c + 14) hs9 hO4 (by omega) (by omega)) rfl rfl (by decide) (Nat.le_of_ble_eq_true rfl) ?_
  intro v9 N4 h9
  obtain ⟨rfl, x1, x2, x3, hk, h2⟩ := h9
  refine c_putF (fs' := [.ref (c + 1), .ref (c + 3), .ref (c + 8), .ref (c + 13), .ref (c + 14), .null, .null, .int 0, .int 0, .int 0]) hC kp_X9_33 rfl dX9_init_54 ((hk _ _ ((hK4 _ _ (a4) id)) (by omega))) (by omega) (rfl) (rfl) rfl ?_
  refine j_name (fun M5 hM5 => ?_)
  have a5 : M5.1 c = some (.inr (13, [.ref (c + 1), .ref (c + 3), .ref (c + 8), .ref (c + 13), .ref (c + 14), .null, .null, .int 0, .int 0, .int 0])) := by rw [hM5]; exact jput_at
  have k5 : kept M4 M5 (fun a => a = c) := fun a o ha hn => by rw [hM5]; exact (jput_ne hn).trans (hk _ _ (hK4 _ _ ha id) (by have := hlt4 _ _ ha; omega))
  have kp : kept N4 M5 (fun a => a = c) := fun a o ha hn => by rw [hM5]; exact (jput_ne hn).trans ha
  have m5 : M5.2 = c + 76 := by rw [hM5]; show N4.2 = _; omega
  have o1 : M5.1 (c + 14) = some (.inr (7, [.ref (c + 14 + 1), .int (nI 0)])) := kp _ _ x1 (by omega)
  have o2 : M5.1 (c + 14 + 1) = some (.inl (.object RX6, 20, fun j => if j < 20 then .ref (c + 14 + 2 + 3 * j) else .null)) := kp _ _ x2 (by omega)
  have o3 : ∀ j, j < 20 → shS M5.1 (c + 14 + 2 + 3 * j) ([], false) 0 0 0 (fun _ => 0) := fun j hj => (x3 j hj).keep (fun b o _ h9 => kp _ _ h9 (by omega))
  replace hz2 : sub Z2 M5.1 := fun a o ha => k5 a o (hz2 a o ha) (fun e9 => by rw [show a = c from e9, hzn2 _ (show nzA c c from Or.inl rfl)] at ha; cases ha)
  clear hM5 hk h2 kp
  refine j_aload_n hC dX9_init_57 rfl (jrf_ref _) ?_
  refine j_lt (fun hlt5 => ?_)
  refine c_new (kc := 43) (ks := 505) hC kn_X9_37 dX9_init_58 rfl ?_
  refine j_topV (show Value.ref _ = Value.ref (c + 76) from congrArg Value.ref (show M5.2 = c + 76 by omega)) ?_
  have hO5 : (jnew M5 (.inr (10, [.null, .null, .int 0, .int 0, .int 0, .int 0, .int 0]))).1 (c + 76) = some (.inr (10, [.null, .null, .int 0, .int 0, .int 0, .int 0, .int 0])) := if_pos (show c + 76 = M5.2 by omega)
  have hP5 : (jnew M5 (.inr (10, [.null, .null, .int 0, .int 0, .int 0, .int 0, .int 0]))).2 = M5.2 + 1 := rfl
  have hK5 : kept M5 (jnew M5 (.inr (10, [.null, .null, .int 0, .int 0, .int 0, .int 0, .int 0]))) (fun _ => False) := fun a o ha _ => (jnew_ne (by have := hlt5 _ _ ha; omega)).trans ha
  refine j_dup hC dX9_init_61 rfl ?_
  refine c_PiN (kc := 41) (ks := 300) hC ki_X9_39 dX9_init_62 (m_X6_init (a := c + 76) hs9 hO5 (by omega) (by omega)) rfl rfl (by decide) (Nat.le_of_ble_eq_true rfl) ?_
  intro v9 N5 h9
  obtain ⟨rfl, x1, hk, h2⟩ := h9
  refine c_putF (fs' := [.ref (c + 1), .ref (c + 3), .ref (c + 8), .ref (c + 13), .ref (c + 14), .ref (c + 76), .null, .int 0, .int 0, .int 0]) hC kp_X9_40 rfl dX9_init_65 ((hk _ _ ((hK5 _ _ (a5) id)) (by omega))) (by omega) (rfl) (rfl) rfl ?_
  refine j_name (fun M6 hM6 => ?_)
  have a6 : M6.1 c = some (.inr (13, [.ref (c + 1), .ref (c + 3), .ref (c + 8), .ref (c + 13), .ref (c + 14), .ref (c + 76), .null, .int 0, .int 0, .int 0])) := by rw [hM6]; exact jput_at
  have k6 : kept M5 M6 (fun a => a = c) := fun a o ha hn => by rw [hM6]; exact (jput_ne hn).trans (hk _ _ (hK5 _ _ ha id) (by have := hlt5 _ _ ha; omega))
  have kp : kept N5 M6 (fun a => a = c) := fun a o ha hn => by rw [hM6]; exact (jput_ne hn).trans ha
  have m6 : M6.2 = c + 79 := by rw [hM6]; show N5.2 = _; omega
  have d1 : shS M6.1 (c + 76) ([], false) 0 0 0 (fun _ => 0) := x1.keep (fun b o _ h9 => kp _ _ h9 (by omega))
  replace hz2 : sub Z2 M6.1 := fun a o ha => k6 a o (hz2 a o ha) (fun e9 => by rw [show a = c from e9, hzn2 _ (show nzA c c from Or.inl rfl)] at ha; cases ha)
  clear hM6 hk h2 kp
  refine j_aload_n hC dX9_init_68 rfl (jrf_ref _) ?_
  refine j_bipush (v := nI 20) hC dX9_init_69 (by decide) ?_
  refine j_lt (fun hlt6 => ?_)
  refine c_newa_int (kc := 40) (ks := 280) (N := 20) hC dX9_init_71 (by decide) ?_
  refine j_topV (show Value.ref _ = Value.ref (c + 79) from congrArg Value.ref (show M6.2 = c + 79 by omega)) ?_
  have hO6 : (jnew M6 (.inl (.int, 20, fun j => .int ((fun _ => (0 : Int32)) j)))).1 (c + 79) = some (.inl (.int, 20, fun j => .int ((fun _ => (0 : Int32)) j))) := if_pos (show c + 79 = M6.2 by omega)
  have hP6 : (jnew M6 (.inl (.int, 20, fun j => .int ((fun _ => (0 : Int32)) j)))).2 = M6.2 + 1 := rfl
  have hK6 : kept M6 (jnew M6 (.inl (.int, 20, fun j => .int ((fun _ => (0 : Int32)) j)))) (fun _ => False) := fun a o ha _ => (jnew_ne (by have := hlt6 _ _ ha; omega)).trans ha
  refine c_putF (fs' := [.ref (c + 1), .ref (c + 3), .ref (c + 8), .ref (c + 13), .ref (c + 14), .ref (c + 76), .ref (c + 79), .int 0, .int 0, .int 0]) hC kp_X9_44 rfl dX9_init_73 ((hK6 _ _ (a6) id)) (by omega) (rfl) (rfl) rfl ?_
  refine j_name (fun M7 hM7 => ?_)
  have a7 : M7.1 c = some (.inr (13, [.ref (c + 1), .ref (c + 3), .ref (c + 8), .ref (c + 13), .ref (c + 14), .ref (c + 76), .ref (c + 79), .int 0, .int 0, .int 0])) := by rw [hM7]; exact jput_at
  have hk : kept (jnew M6 (.inl (.int, 20, fun j => .int ((fun _ => (0 : Int32)) j)))) ((jnew M6 (.inl (.int, 20, fun j => .int ((fun _ => (0 : Int32)) j))))) (fun a => a = c + 79) := fun a o ha _ => ha
  have h2 : ((jnew M6 (.inl (.int, 20, fun j => .int ((fun _ => (0 : Int32)) j))))).2 = (jnew M6 (.inl (.int, 20, fun j => .int ((fun _ => (0 : Int32)) j)))).2 := rfl
  have k7 : kept M6 M7 (fun a => a = c) := fun a o ha hn => by rw [hM7]; exact (jput_ne hn).trans (hk _ _ (hK6 _ _ ha id) (by have := hlt6 _ _ ha; omega))
  have kp : kept (jnew M6 (.inl (.int, 20, fun j => .int ((fun _ => (0 : Int32)) j)))) M7 (fun a => a = c) := fun a o ha hn => by rw [hM7]; exact (jput_ne hn).trans ha
  have m7 : M7.2 = c + 80 := by rw [hM7]; show (jnew M6 (.inl (.int, 20, fun j => .int ((fun _ => (0 : Int32)) j)))).2 = _; omega
  have n1 : M7.1 (c + 79) = some (.inl (.int, 20, fun j => .int ((fun _ => (0 : Int32)) j))) := kp _ _ hO6 (by omega)
  replace hz2 : sub Z2 M7.1 := fun a o ha => k7 a o (hz2 a o ha) (fun e9 => by rw [show a = c from e9, hzn2 _ (show nzA c c from Or.inl rfl)] at ha; cases ha)
  clear hM7 hk h2 kp
  refine j_aload_n hC dX9_init_76 rfl (jrf_ref _) ?_
  refine j_iconst (v := nI 0) hC dX9_init_77 (by decide) ?_
  refine c_put (fs' := [.ref (c + 1), .ref (c + 3), .ref (c + 8), .ref (c + 13), .ref (c + 14), .ref (c + 76), .ref (c + 79), .int (nI (0)), .int 0, .int 0]) hC kp_X9_48 dX9_init_78 (a7) (by omega) (rfl) (rfl) rfl ?_
  refine j_aload_n hC dX9_init_81 rfl (jrf_ref _) ?_
  refine j_iconst (v := zI (-1)) hC dX9_init_82 (by decide) ?_
  refine c_put2 (fs' := [.ref (c + 1), .ref (c + 3), .ref (c + 8), .ref (c + 13), .ref (c + 14), .ref (c + 76), .ref (c + 79), .int (nI (0)), .int (zI ((-1))), .int 0]) hC kp_X9_52 dX9_init_83 (by omega) (rfl) (rfl) rfl ?_
  refine j_aload_n hC dX9_init_86 rfl (jrf_ref _) ?_
  refine j_iconst (v := nI 0) hC dX9_init_87 (by decide) ?_
  refine c_put2 (fs' := [.ref (c + 1), .ref (c + 3), .ref (c + 8), .ref (c + 13), .ref (c + 14), .ref (c + 76), .ref (c + 79), .int (nI (0)), .int (zI ((-1))), .int (nI (0))]) hC kp_X9_55 dX9_init_88 (by omega) (by decide) (by decide) rfl ?_
  refine j_name (fun M8 hM8 => ?_)
  have a8 : M8.1 c = some (.inr (13, [.ref (c + 1), .ref (c + 3), .ref (c + 8), .ref (c + 13), .ref (c + 14), .ref (c + 76), .ref (c + 79), .int (nI (0)), .int (zI ((-1))), .int (nI (0))])) := by rw [hM8]; exact jput_at
  have k8 : kept M7 M8 (fun a => a = c) := fun a o ha hn => by rw [hM8]; exact (jput_ne hn).trans ha
  have m8 : M8.2 = c + 80 := by rw [hM8]; exact m7
  clear hM8
  replace hz2 : sub Z2 M8.1 := fun a o ha => k8 a o (hz2 a o ha) (fun e9 => by rw [show a = c from e9, hzn2 _ (show nzA c c from Or.inl rfl)] at ha; cases ha)
  refine j_iconst (v := nI 0) hC dX9_init_91 (by decide) ?_
  refine j_istore_n1 hC dX9_init_92 (by decide) rfl ?_
  obtain ⟨Zs, hZs⟩ := str_only Z
  suffices K : ∀ (n9 : Nat) (Mr : jM) (f : Nat → Value) (i : Nat), 9 - i < n9 → i ≤ 8 → (Mr.2 = c + 80 + 5 * i) → (Mr.1 c = some (.inr (13, [.ref (c + 1), .ref (c + 3), .ref (c + 8), .ref (c + 13), .ref (c + 14), .ref (c + 76), .ref (c + 79), .int (nI (0)), .int (zI ((-1))), .int (nI (0))]))) → (Mr.1 (c + 13) = some (.inl (.object RX5, 8, f))) → (∀ j, j < i → f j = .ref (c + 80 + 5 * j)) → (∀ j, j < i → suX Mr.1 (c + 80 + 5 * j)) → (∀ j, j < i → ∃ o, Mr.1 (c + 80 + 5 * j + 4) = some o) → kept M8 Mr (fun a => a = c + 13) → J C Mr (5 * (8 - i)) (35 * (8 - i)) 93 [some (.ref c), some (.int (nI i))] [] from K _ M8 _ 0 (Nat.lt_succ_self _) (by decide) m8 a8 (k8 _ _ (k7 _ _ (k6 _ _ (k5 _ _ p1 (by omega)) (by omega)) (by omega)) (by omega)) (fun j hj => absurd hj (Nat.not_lt_zero j)) (fun j hj => absurd hj (Nat.not_lt_zero j)) (fun j hj => absurd hj (Nat.not_lt_zero j)) kept_refl
  intro n9
  induction n9 with
  | zero => intro Mr f i hm; omega
  | succ n9 ih =>
    intro Mr f i hm hi mr ar rr rv sxr mkr krr
    refine j_lt (fun hltr => ?_)
    have hzr : sub Z2 Mr.1 := fun a o ha => krr a o (hz2 a o ha) (fun e9 => by rw [e9, hzn2 _ (by unfold nzA; omega)] at ha; cases ha)
    refine j_iload_n hC dX9_init_93 rfl ?_
    refine j_aload_n hC dX9_init_94 rfl (jrf_ref _) ?_
    refine j_get (v := .ref (c + 13)) hC kf_X9_26 dX9_init_95 (ar) (rfl) ?_
    refine c_alen hC dX9_init_98 (rr) ?_
    refine n_icmp_ge (tgt := 121) hC dX9_init_99 (by decide) (by omega) (by omega) (fun c1 => ?_) (fun c1 => ?_)
    · obtain rfl : i = 8 := by omega
      refine j_less (kc' := 0) (ks' := 0) (Nat.zero_le _) (Nat.zero_le _) ?_
      refine j_row (g := fun j => .ref (c + 80 + 5 * j)) rr (fun j hj => rv j hj) ?_
      refine j_name (fun Me hMe => ?_)
      have re : Me.1 (c + 13) = some (.inl (.object RX5, 8, fun j => .ref (c + 80 + 5 * j))) := by rw [hMe]; exact jput_at
      have ke : kept Mr Me (fun a => a = c + 13) := fun a o ha hn => by rw [hMe]; exact (jput_ne hn).trans ha
      have me : Me.2 = c + 120 := by rw [hMe]; show Mr.2 = _; omega
      clear hMe
      have K8 : kept M8 Me (fun a => a = c ∨ a = c + 13) := fun a o ha hn => ke _ _ (krr _ _ ha (fun e9 => hn (Or.inr e9))) (fun e9 => hn (Or.inr e9))
      have K7 : kept M7 Me (fun a => a = c ∨ a = c + 13) := fun a o ha hn => K8 _ _ (k8 _ _ ha (fun e9 => hn (Or.inl e9))) hn
      have K6 : kept M6 Me (fun a => a = c ∨ a = c + 13) := fun a o ha hn => K7 _ _ (k7 _ _ ha (fun e9 => hn (Or.inl e9))) hn
      have K5 : kept M5 Me (fun a => a = c ∨ a = c + 13) := fun a o ha hn => K6 _ _ (k6 _ _ ha (fun e9 => hn (Or.inl e9))) hn
      have K4 : kept M4 Me (fun a => a = c ∨ a = c + 13) := fun a o ha hn => K5 _ _ (k5 _ _ ha (fun e9 => hn (Or.inl e9))) hn
      have K3 : kept M3 Me (fun a => a = c ∨ a = c + 13) := fun a o ha hn => K4 _ _ (k4 _ _ ha (fun e9 => hn (Or.inl e9))) hn
      have K2 : kept M2 Me (fun a => a = c ∨ a = c + 13) := fun a o ha hn => K3 _ _ (k3 _ _ ha (fun e9 => hn (Or.inl e9))) hn
      have K1 : kept M1 Me (fun a => a = c ∨ a = c + 13) := fun a o ha hn => K2 _ _ (k2 _ _ ha (fun e9 => hn (Or.inl e9))) hn
      have K0 : kept M Me (fun a => a = c) := fun a o ha hn => K1 _ _ (k1 _ _ ha hn) (by have := hlt0 _ _ ha; omega)
      have hze : sub Z2 Me.1 := fun a o ha => ke a o (hzr a o ha) (fun e9 => by rw [e9, hzn2 _ (by unfold nzA; omega)] at ha; cases ha)
      have hae : Me.1 c = some (.inr (13, cF c 0 (-1) false)) := ke _ _ ar (by omega)
      have hO9 : outR Me.1 (c + 14) [] := ⟨K5 _ _ o1 (by omega), K5 _ _ o2 (by omega), Nat.zero_le _, fun j hj => absurd hj (Nat.not_lt_zero j), fun j hj => ⟨_, _, _, _, _, (o3 j hj).keep (fun b o _ h9 => K5 _ _ h9 (by omega))⟩⟩
      have hPa : cPa Me Z2 c [] (fun j => c + 80 + 5 * j) := ⟨re, hzn2 _ (by unfold nzA; omega), fun j hj => ⟨j, hj, rfl⟩, fun i j h1 h2 => by show c + 80 + 5 * i ≠ c + 80 + 5 * j; omega, fun j hj => ⟨(sxr j hj).up ke (by show ¬ c + 80 + 5 * j = c + 13; omega) (by show ¬ c + 80 + 5 * j + 1 = c + 13; omega), hzn2 _ (by show nzA c (c + 80 + 5 * j); unfold nzA; omega), hzn2 _ (by show nzA c (c + 80 + 5 * j + 1); unfold nzA; omega)⟩, fun k S e9 => by cases e9⟩
      obtain ⟨omk, hmk⟩ := mkr 7 (by decide)
      have hmk2 : ∃ o, Me.1 (c + 119) = some o := ⟨omk, ke _ _ hmk (by omega)⟩
      have hJ : cJ (jCG C) Me Z2 c (c + 2) set0 [] none [] none none := ⟨⟨hae, hzn2 _ (Or.inl rfl)⟩, ⟨⟨16, b1.up (fun a o ha h9 => K1 _ _ h9 (by omega))⟩, hzn2 _ (by unfold nzA; omega), hzn2 _ (by unfold nzA; omega), Or.inl rfl, Nat.zero_le _, fun x hx => absurd hx List.not_mem_nil⟩, ⟨s1.up q1 K2 (by omega) (by omega), hzn2 _ (by unfold nzA; omega), hzn2 _ (by unfold nzA; omega)⟩, ⟨s2.X.up K3 (by omega) (by omega), hzn2 _ (by unfold nzA; omega), hzn2 _ (by unfold nzA; omega), fun S e9 => by cases e9⟩, ⟨_, hPa⟩, ⟨hO9, fun b h1 h2 => hzn2 _ (by unfold nzA; omega), fun L e9 => by cases e9⟩, ⟨⟨_, _, _, _, _, d1.keep (fun b o _ h9 => K6 _ _ h9 (by omega))⟩, hzn2 _ (by unfold nzA; omega), hzn2 _ (by unfold nzA; omega), hzn2 _ (by unfold nzA; omega)⟩, ⟨⟨_, K7 _ _ n1 (by omega)⟩, hzn2 _ (by unfold nzA; omega)⟩, ⟨hze, hkr.up hzs2, by omega, hmk2⟩, Nat.zero_le _, fun k e9 => by cases e9⟩
      exact j_vret hC9 rfl dX9_init_121 ⟨rfl, Z2, hJ, hzs2, hzg2, K0, me⟩
    · refine j_aload_n hC dX9_init_102 rfl (jrf_ref _) ?_
      refine j_get (v := .ref (c + 13)) hC kf_X9_26 dX9_init_103 (ar) (rfl) ?_
      refine j_iload_n hC dX9_init_106 rfl ?_
      refine j_less (kc' := (5 * (8 - (i + 1)) + 4) + 1) (ks' := (35 * (8 - (i + 1)) + 27) + 8) (by omega) (by omega) ?_
      refine c_new (kc := 5 * (8 - (i + 1)) + 4) (ks := 35 * (8 - (i + 1)) + 27) hC kn_X9_16 dX9_init_107 rfl ?_
      refine j_topV (show Value.ref _ = Value.ref (c + 80 + 5 * i) from congrArg Value.ref mr) ?_
      have hO : (jnew Mr (.inr (9, [.null, .int 0, .null, .null, .int 0, .int 0, .int 0, .int 0]))).1 (c + 80 + 5 * i) = some (.inr (9, [.null, .int 0, .null, .null, .int 0, .int 0, .int 0, .int 0])) := if_pos (by omega)
      have hP : (jnew Mr (.inr (9, [.null, .int 0, .null, .null, .int 0, .int 0, .int 0, .int 0]))).2 = Mr.2 + 1 := rfl
      have hK : kept Mr (jnew Mr (.inr (9, [.null, .int 0, .null, .null, .int 0, .int 0, .int 0, .int 0]))) (fun _ => False) := fun a o ha _ => (jnew_ne (by have := hltr _ _ ha; omega)).trans ha
      refine j_dup hC dX9_init_110 rfl ?_
      refine c_Pi (kc := 5 * (8 - (i + 1))) (ks := 35 * (8 - (i + 1))) hC ki_X9_18 dX9_init_111 (m_X5_init (s := c + 80 + 5 * i) (Z := Zs) hs9 hO (by omega) (fun a o ha => hK a o (hzr a o (hzs2 a o ((hZs a o).mp ha).1)) id) (by
        cases e9 : Zs (c + 80 + 5 * i) with
        | none => rfl
        | some o9 => have e8 := ((hZs _ _).mp e9).1; rw [hZn _ (by omega)] at e8; cases e8) (hkr.1.keepT (fun b o h8 h9 => (hZs b o).mpr ⟨h8, h9⟩)) (by omega)) rfl rfl (by decide) (Nat.le_of_ble_eq_true rfl) ?_
      intro v9 N9 h9
      obtain ⟨rfl, Z9, q1, q2, q3, q4, hk, h2⟩ := h9
      have k0 : kept Mr N9 (fun _ => False) := fun a o ha _ => hk a o (hK a o ha id) (by have := hltr _ _ ha; omega)
      obtain ⟨o4, ho4⟩ := suR_4 (Zs := Zs) q4 (fun a o ha => (q2 a o ha).imp id (fun e9 => by omega)) (fun a o ha => ((hZs a o).mp ha).2)
      have ho5 := q3 _ _ ho4
      have hsx : suX N9.1 (c + 80 + 5 * i) := q4.X
      obtain ⟨w1, w2, w3, w4, w5, w6, w7, wf9, hx1, hx2⟩ := id hsx
      refine c_aast (i := i) hC dX9_init_114 ((k0 _ _ rr id)) (hx1) rfl (by omega) (by omega) (by omega) ?_
      refine j_name (fun M9 hM9 => ?_)
      have kp9 : kept N9 M9 (fun a => a = c + 13) := fun a o ha hn => by rw [hM9]; exact (jput_ne hn).trans ha
      have r9 : M9.1 (c + 13) = some (.inl (.object RX5, 8, updV f i (.ref (c + 80 + 5 * i)))) := by rw [hM9]; exact jput_at
      have r9v : ∀ j, j < i + 1 → updV f i (.ref (c + 80 + 5 * i)) j = .ref (c + 80 + 5 * j) := fun j hj => by
        by_cases e9 : j = i
        · rw [e9]; exact updV_at
        · exact (updV_ne e9).trans (rv j (by omega))
      have m9 : M9.2 = c + 80 + 5 * (i + 1) := by rw [hM9]; show N9.2 = _; omega
      clear hM9
      have a9 := kp9 _ _ (k0 _ _ ar id) (by omega)
      have sx9 : ∀ j, j < i + 1 → suX M9.1 (c + 80 + 5 * j) := fun j hj => by
        by_cases e9 : j = i
        · rw [e9]; exact hsx.up kp9 (by omega) (by omega)
        · exact ((sxr j (by omega)).up k0 id id).up kp9 (by omega) (by omega)
      have mk9 : ∀ j, j < i + 1 → ∃ o, M9.1 (c + 80 + 5 * j + 4) = some o := fun j hj => by
        by_cases e9 : j = i
        · rw [e9]; exact ⟨_, kp9 _ _ ho5 (by omega)⟩
        · obtain ⟨o6, h6⟩ := mkr j (by omega)
          exact ⟨_, kp9 _ _ (k0 _ _ h6 id) (by omega)⟩
      have kr9 : kept M8 M9 (fun a => a = c + 13) := fun a o ha hn => kp9 _ _ (k0 _ _ (krr _ _ ha hn) id) hn
      refine j_iinc_1 (v := nI (i + 1)) hC dX9_init_115 (nI_add _ _) (by decide) rfl ?_
      refine j_goto (tgt := 93) hC dX9_init_118 (by decide) ?_
      exact ih M9 _ (i + 1) (by omega) (by omega) m9 a9 r9 r9v sx9 mk9 kr9
