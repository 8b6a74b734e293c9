section C5
variable {C : jC} {y : jY} {d : Nat} {M : jM} {kc ks pc : Nat} {l : List (Option Value)} {st : List Value}
theorem j_lt (kk : (∀ a o, M.1 a = some o → a < M.2) → J C M kc ks pc l st) : J C M kc ks pc l st := by
  obtain ⟨p, e, R, s, m, args, below, meth, c, Q, G⟩ := C
  intro H locs cells slots ls h1 h2 h3 h4 h5
  exact kk (fun a o h => h1.lt h) H locs cells slots ls h1 h2 h3 h4 h5
theorem c_put (hC : jOK0 y d C) {a idx ci k : Nat} {ty : FieldType} {fs fs' : List Value} {v : Value} (hf : jFl y.1.cls idx ci k ty 1) (hd : decode y.2.1 pc = .ok (.putfield idx, 3)) (hM : M.1 a = some (.inr (ci, fs))) (hB : jB C ≤ a) (hn : narrow ty v = v) (hfit : fits ty v = true) (hfs : fs.set k v = fs') (kk : J C (jput M a (.inr (ci, fs'))) kc ks (pc + 3) l st) : J C M kc ks pc l (v :: .ref a :: st) := by
  subst hfs
  exact j_put hC hf hd hM hB hn hfit kk
theorem c_putF (hC : jOK0 y d C) {a idx ci k : Nat} {ty : FieldType} {fs fs' : List Value} {v : Value} (hf : jFl y.1.cls idx ci k ty 2) (hini : y.1.name = "<init>") (hd : decode y.2.1 pc = .ok (.putfield idx, 3)) (hM : M.1 a = some (.inr (ci, fs))) (hB : jB C ≤ a) (hn : narrow ty v = v) (hfit : fits ty v = true) (hfs : fs.set k v = fs') (kk : J C (jput M a (.inr (ci, fs'))) kc ks (pc + 3) l st) : J C M kc ks pc l (v :: .ref a :: st) := by
  subst hfs
  exact j_putF hC hf hini hd hM hB hn hfit kk
theorem c_put2 (hC : jOK0 y d C) {a idx ci k : Nat} {ty : FieldType} {fs fs' : List Value} {v : Value} (hf : jFl y.1.cls idx ci k ty 1) (hd : decode y.2.1 pc = .ok (.putfield idx, 3)) (hB : jB C ≤ a) (hn : narrow ty v = v) (hfit : fits ty v = true) (hfs : fs.set k v = fs') (kk : J C (jput M a (.inr (ci, fs'))) kc ks (pc + 3) l st) : J C (jput M a (.inr (ci, fs))) kc ks pc l (v :: .ref a :: st) := by
  subst hfs
  exact j_put hC hf hd jput_at hB hn hfit (j_M jput_jput kk)
theorem c_putF2 (hC : jOK0 y d C) {a idx ci k : Nat} {ty : FieldType} {fs fs' : List Value} {v : Value} (hf : jFl y.1.cls idx ci k ty 2) (hini : y.1.name = "<init>") (hd : decode y.2.1 pc = .ok (.putfield idx, 3)) (hB : jB C ≤ a) (hn : narrow ty v = v) (hfit : fits ty v = true) (hfs : fs.set k v = fs') (kk : J C (jput M a (.inr (ci, fs'))) kc ks (pc + 3) l st) : J C (jput M a (.inr (ci, fs))) kc ks pc l (v :: .ref a :: st) := by
  subst hfs
  exact j_putF hC hf hini hd jput_at hB hn hfit (j_M jput_jput kk)
theorem c_anew (hC : jOK0 y d C) {idx N : Nat} {Cn : String} (hcl : Cond.classLink y.1.cls idx Cn ∈ jWs) (hCn : Cn ∈ [RX5, RX6, RX1, RX4, RX8]) (hd : decode y.2.1 pc = .ok (.anewarray idx, 3)) (hN : N < 20000) (kk : J C (jnew M (.inl (.object Cn, N, fun _ => .null))) kc ks (pc + 3) l (.ref M.2 :: st)) : J C M (kc + 1) (ks + N) pc l (.int (nI N) :: st) := by
  refine j_anew hC hcl hCn hd (nI_pos (by omega)) (nI_clamp (by omega)) (by omega) (by omega) (by omega) ?_
  rw [Nat.add_sub_cancel, Nat.add_sub_cancel]
  exact kk
theorem c_newa_char (hC : jOK0 y d C) {N : Nat} (hd : decode y.2.1 pc = .ok (.newarray .char, 2)) (hN : N < 20000) (kk : J C (jnew M (.inl (.char, N, fun j => .int ((fun _ => (0 : Int32)) j)))) kc ks (pc + 2) l (.ref M.2 :: st)) : J C M (kc + 1) (ks + N) pc l (.int (nI N) :: st) := by
  refine j_newa_char hC kr_char hd (nI_pos (by omega)) (nI_clamp (by omega)) (by omega) (by omega) (by omega) ?_
  rw [Nat.add_sub_cancel, Nat.add_sub_cancel]
  exact kk
theorem c_newa_int (hC : jOK0 y d C) {N : Nat} (hd : decode y.2.1 pc = .ok (.newarray .int, 2)) (hN : N < 20000) (kk : J C (jnew M (.inl (.int, N, fun j => .int ((fun _ => (0 : Int32)) j)))) kc ks (pc + 2) l (.ref M.2 :: st)) : J C M (kc + 1) (ks + N) pc l (.int (nI N) :: st) := by
  refine j_newa_int hC kr_int hd (nI_pos (by omega)) (nI_clamp (by omega)) (by omega) (by omega) (by omega) ?_
  rw [Nat.add_sub_cancel, Nat.add_sub_cancel]
  exact kk
theorem c_newa_byte (hC : jOK0 y d C) {N : Nat} (hd : decode y.2.1 pc = .ok (.newarray .byte, 2)) (hN : N < 20000) (kk : J C (jnew M (.inl (.byte, N, fun j => .int ((fun _ => (0 : Int32)) j)))) kc ks (pc + 2) l (.ref M.2 :: st)) : J C M (kc + 1) (ks + N) pc l (.int (nI N) :: st) := by
  refine j_newa_byte hC kr_byte hd (nI_pos (by omega)) (nI_clamp (by omega)) (by omega) (by omega) (by omega) ?_
  rw [Nat.add_sub_cancel, Nat.add_sub_cancel]
  exact kk
end C5
theorem jb_fit {p : Prop} [Decidable p] : fits .boolean (.int (jb p)) = true := by
  unfold jb
  split <;> decide
theorem fit_chr : ∀ c, c < 128 → fits .char (.int (nI c)) = true := by decide +kernel
/-- a post of one's own -/
abbrev CP (G : jG) (M : jM) (y : jY) (kc ks d : Nat) (args : List Value) (P : Option Value → jM → Prop) : Prop := JMet G y args M kc ks d P jNo
section C6
variable {C : jC} {y : jY} {d : Nat} {M : jM} {kc ks pc : Nat} {l : List (Option Value)} {st : List Value} {P : Option Value → jM → Prop}
theorem c_Pv (hC : jOK0 y d C) {y' : jY} {idx b n d' ci kc' ks' : Nat} {As rest fs : List Value} {r : vw_C} (hm : jMv y.1.cls idx y' n) (hd : decode y.2.1 pc = .ok (.invokevirtual idx, 3)) (hM : CP (jCG C) M y' kc' ks' d' (.ref b :: As) P) (hb0 : M.1 b = some (.inr (ci, fs))) (hci : vwCl[ci]? = some r) (hr1 : r.1 = y'.1.cls) (hn : As.length = n) (hst : st = As.reverse ++ .ref b :: rest) (hd1 : d' + 1 ≤ d) (hrest : (rest.map fun v => v.category).sum ≤ 8)
    (kk : ∀ v M', P v M' → J C M' kc ks (pc + 3) l (v.toList ++ rest)) : J C M (kc + kc') (ks + ks') pc l st :=
  j_callV hC hm hd hM hb0 hci hr1 hn hst hd1 (Nat.le_add_left _ _) (Nat.le_add_left _ _) hrest (fun v M' h => by rw [Nat.add_sub_cancel, Nat.add_sub_cancel]; exact kk v M' h) (fun _ _ h => h.elim)
theorem c_Ps (hC : jOK0 y d C) {y' : jY} {idx n d' kc' ks' : Nat} {As rest : List Value} (hm : jMs y.1.cls idx y' n) (hh0 : y'.2.2.2.2 = []) (hd : decode y.2.1 pc = .ok (.invokestatic idx, 3)) (hM : CP (jCG C) M y' kc' ks' d' As P) (hn : As.length = n) (hst : st = As.reverse ++ rest) (hd1 : d' + 1 ≤ d) (hrest : (rest.map fun v => v.category).sum ≤ 8)
    (kk : ∀ v M', P v M' → J C M' kc ks (pc + 3) l (v.toList ++ rest)) : J C M (kc + kc') (ks + ks') pc l st :=
  j_callS hC hm hh0 hd hM hn hst hd1 (Nat.le_add_left _ _) (Nat.le_add_left _ _) hrest (fun v M' h => by rw [Nat.add_sub_cancel, Nat.add_sub_cancel]; exact kk v M' h) (fun _ _ h => h.elim)
theorem c_Pi (hC : jOK0 y d C) {y' : jY} {idx b n d' kc' ks' : Nat} {As rest : List Value} (hm : jMi y.1.cls idx y' n) (hd : decode y.2.1 pc = .ok (.invokespecial idx, 3)) (hM : CP (jCG C) M y' kc' ks' d' (.ref b :: As) P) (hn : As.length = n) (hst : st = As.reverse ++ .ref b :: rest) (hd1 : d' + 1 ≤ d) (hrest : (rest.map fun v => v.category).sum ≤ 8)
    (kk : ∀ v M', P v M' → J C M' kc ks (pc + 3) l (v.toList ++ rest)) : J C M (kc + kc') (ks + ks') pc l st :=
  j_callI hC hm hd hM hn hst hd1 (Nat.le_add_left _ _) (Nat.le_add_left _ _) hrest (fun v M' h => by rw [Nat.add_sub_cancel, Nat.add_sub_cancel]; exact kk v M' h)
end C6
/-- what never changes: it grows by new objects alone -/
def zex (M : jM) (Z Z' : jH) : Prop := sub Z Z' ∧ ∀ a o, Z' a = some o → Z a = some o ∨ M.1 a = none
theorem sub_refl {Z : jH} : sub Z Z := fun _ _ h => h
theorem sub_trans {Z Z' Z'' : jH} (h : sub Z Z') (h2 : sub Z' Z'') : sub Z Z'' := fun a o g => h2 a o (h a o g)
theorem zex_refl {M : jM} {Z : jH} : zex M Z Z := ⟨sub_refl, fun _ _ h => Or.inl h⟩
theorem sub_put {Z : jH} {M : jM} {a : Nat} {x : jO} (ha : Z a = none) (h : sub Z M.1) : sub Z (jput M a x).1 := fun b o hb => by
  have hne : b ≠ a := fun e => by rw [e, ha] at hb; cases hb
  exact (jput_ne hne).trans (h b o hb)
theorem sub_new {Z : jH} {M : jM} {x : jO} (ha : Z M.2 = none) (h : sub Z M.1) : sub Z (jnew M x).1 := fun b o hb => by
  have hne : b ≠ M.2 := fun e => by rw [e, ha] at hb; cases hb
  exact (jnew_ne hne).trans (h b o hb)
/-- only the setup at s has changed -/
def suOnly (M M' : jM) (s : Nat) : Prop := ∀ a, a ≠ s → a ≠ s + 1 → M'.1 a = M.1 a
/-- a setup, whatever it says -/
def suX (H : jH) (s : Nat) : Prop := ∃ (v1 v2 v3 v4 v5 v6 v7 : Value) (f : Nat → Value), H s = some (.inr (9, [.ref (s + 1), v1, v2, v3, v4, v5, v6, v7])) ∧ H (s + 1) = some (.inl (.object RX1, 20, f))
theorem suR.X {H Z : jH} {s : Nat} {S : aSet} (h : suR H Z s S) : suX H s := by
  obtain ⟨⟨lay, home, f, xe, h1, h2, -⟩, -⟩ := h
  exact ⟨_, _, _, _, _, _, _, f, h1, h2⟩
theorem suX.at {H H' : jH} {s : Nat} (h0 : H' s = H s) (h1 : H' (s + 1) = H (s + 1)) (h : suX H s) : suX H' s := by
  obtain ⟨v1, v2, v3, v4, v5, v6, v7, f, g1, g2⟩ := h
  exact ⟨v1, v2, v3, v4, v5, v6, v7, f, h0.trans g1, h1.trans g2⟩
theorem entV.el {Z : jH} {M : jM} {v : Value} (hz : sub Z M.1) (h : entV Z v) : jEl M (.object RX1) v := by
  refine Or.inr ⟨(RX1, TX1, 3), rfl, ?_⟩
  rcases h with h | ⟨p, q, h1, h2⟩
  · exact Or.inl h
  · obtain ⟨b, hb⟩ := (h2.mono hz).obj
    exact Or.inr ⟨p, 5, _, h1, hb, rfl⟩
theorem j_aastN {C : jC} {y : jY} {d : Nat} {M : jM} {kc ks pc : Nat} {l : List (Option Value)} {st : List Value} (hC : jOK0 y d C) {a n : Nat} {Cn : String} {f : Nat → Value} {i : Int32} (hd : decode y.2.1 pc = .ok (.aastore, 1)) (hM : M.1 a = some (.inl (.object Cn, n, f))) (hB : jB C ≤ a) (hi : vp_in i n) (kk : J C (jput M a (.inl (.object Cn, n, updV f i.toNatClampNeg .null))) kc ks (pc + 1) l st) : J C M kc ks pc l (.null :: .int i :: .ref a :: st) := by
  obtain ⟨p, e, R, s, m, args, below, meth, c, Q, G⟩ := C
  obtain ⟨hx, hb, hr, hml, hown, hts, hlk, hnm, htb, hdf, hdl, hfl, hA⟩ := hC
  intro H locs cells slots ls h1 h2 h3 h4 h5
  have hB' : gB G ≤ a := hB
  rcases h1.2 a _ hM with ⟨-, hty, q1⟩ | ⟨hlt, -⟩
  · refine va_WaastN (C := Cn) hx hb q1 ((hA.2.1 _ hty).1 n f) (fun h => by cases h) (by show ¬ (i < 0 ∨ (arrV _ _ _).slots.size ≤ _); rw [arrV_size]; exact hi) rfl rfl hd fun H1 e1 z oq => ?_
    refine kk H1 _ cells slots ls (h1.put hB' z ⟨hty, ?_⟩ oq) (h2.put z oq hB') h3 h4 h5
    rw [e1, arrV_store]
  · exact absurd hB' (Nat.not_le.mpr hlt)
theorem c_aastN {C : jC} {y : jY} {d : Nat} {M : jM} {kc ks pc : Nat} {l : List (Option Value)} {st : List Value} (hC : jOK0 y d C) {a n i : Nat} {Cn : String} {f : Nat → Value} (hd : decode y.2.1 pc = .ok (.aastore, 1)) (hM : M.1 a = some (.inl (.object Cn, n, f))) (hB : jB C ≤ a) (hi : i < n) (hn : n < 2 ^ 31) (kk : J C (jput M a (.inl (.object Cn, n, updV f i .null))) kc ks (pc + 1) l st) : J C M kc ks pc l (.null :: .int (nI i) :: .ref a :: st) :=
  j_aastN hC hd hM hB (vp_in_nI hi hn) (by rw [nI_clamp (by omega)]; exact kk)
theorem cpf_0 {f g : Nat → Value} : g = fun j => if j < 0 then f j else g j := funext fun j => (if_neg (Nat.not_lt_zero j)).symm
theorem cpf_s {f g : Nat → Value} {i : Nat} {v : Value} (h : f i = v) : updV (fun j => if j < i then f j else g j) i v = fun j => if j < i + 1 then f j else g j := by
  funext j
  simp only [updV]
  by_cases e : j = i
  · rw [if_pos e, if_pos (by omega), e, h]
  · rw [if_neg e]
    by_cases e2 : j < i
    · rw [if_pos e2, if_pos (by omega)]
    · rw [if_neg e2, if_neg (by omega)]
theorem row_f0 {M : jM} {a n : Nat} {ty : FieldType} {f g : Nat → Value} (h : M.1 a = some (.inl (ty, n, f))) (e : f = g) : M.1 a = some (.inl (ty, n, g)) := e ▸ h
set_option maxHeartbeats 4000000 in
set_option maxRecDepth 100000 in
theorem m_X5_copyFrom {G : jG} {M : jM} {s z : Nat} {S : aSet} {Z : jH} (hs : (gL G).stackTraces = false) (h : suR M.1 Z z S) (hX : suX M.1 s) (hz : sub Z M.1) (hsz : s ≠ z ∧ s + 1 ≠ z ∧ s ≠ z + 1) (hBs : gB G ≤ s) (hBz : gB G ≤ z) : JMet G jX5_copyFrom [.ref s, .ref z] (M) 0 0 0 (fun v M' => v = none ∧ suR M'.1 Z s S ∧ suOnly M M' s) jNo := by
  refine jMet_of [some (.ref (s)), some (.ref (z)), none] (by decide) rfl (Nat.le_of_ble_eq_true rfl) (rfl) hs ?_
  intro C hC9 hG
  have hC := hC9.z
  have hs9 := jOK0_tr hC
  refine j_lt (fun hlt => ?_)
  have hBg : jB C = gB G := by rw [jB, hG]
  obtain ⟨⟨lay, home, fz, xe, u1, u2, u5, u3, u6, u7⟩, u4⟩ := id h
  obtain ⟨v1, v2, v3, v4, v5, v6, v7, f, w1, w2⟩ := hX
  have hn20 : (sRecs S).length ≤ 20 := u4.1.1
  refine j_iconst (v := nI 0) hC dX5_copyFrom_0 (by decide) ?_
  refine j_istore_n2 hC dX5_copyFrom_1 (by decide) rfl ?_
  suffices K : ∀ (n9 : Nat) (Mr : jM) (i : Nat), 20 - i < n9 → (Mr.1 (s + 1) = some (.inl (.object RX1, 20, fun j => if j < i then fz j else f j))) → (∀ b9, b9 ≠ (s + 1) → Mr.1 b9 = (M).1 b9) → (Mr.2 = M.2) → (i ≤ 20) → J C (Mr) 0 0 2 [some (.ref (s)), some (.ref (z)), some (.int (nI (i)))] [] from (K _ (M) (0) (Nat.lt_succ_self _) (row_f0 (w2) (cpf_0)) (fun _ _ => rfl) rfl (by omega))
  intro n9
  induction n9 with
  | zero => intro Mr i hm; omega
  | succ n9 ih =>
    intro Mr i hm hrw0 hfr he2 hi
    refine j_iload_n hC dX5_copyFrom_2 rfl ?_
    refine j_bipush (v := nI 20) hC dX5_copyFrom_3 (by decide) ?_
    refine n_icmp_ge (tgt := 26) hC dX5_copyFrom_5 (by decide) (by omega) (by omega) (fun c1 => ?_) (fun c1 => ?_)
    · refine j_aload_n hC dX5_copyFrom_26 rfl (jrf_ref _) ?_
      refine j_aload_n hC dX5_copyFrom_27 rfl (jrf_ref _) ?_
      refine j_get (v := .int (nI ((sRecs S).length))) hC kf_X5_20 dX5_copyFrom_28 ((hfr _ (by show (z) ≠ (s + 1); omega)).trans (u1)) (rfl) ?_
      refine c_put (fs' := [.ref (s + 1), .int (nI ((sRecs S).length)), v2, v3, v4, v5, v6, v7]) hC kp_X5_20 dX5_copyFrom_31 ((hfr _ (by show (s) ≠ (s + 1); omega)).trans (w1)) (by omega) (rfl) (rfl) rfl ?_
      refine j_aload_n hC dX5_copyFrom_34 rfl (jrf_ref _) ?_
      refine j_aload_n hC dX5_copyFrom_35 rfl (jrf_ref _) ?_
      refine j_get (v := .ref (lay)) hC kf_X5_29 dX5_copyFrom_36 ((jput_ne (by omega)).trans ((hfr _ (by show (z) ≠ (s + 1); omega)).trans (u1))) (rfl) ?_
      refine c_put2 (fs' := [.ref (s + 1), .int (nI ((sRecs S).length)), .ref (lay), v3, v4, v5, v6, v7]) hC kp_X5_29 dX5_copyFrom_39 (by omega) (rfl) (rfl) rfl ?_
      refine j_aload_n hC dX5_copyFrom_42 rfl (jrf_ref _) ?_
      refine j_aload_n hC dX5_copyFrom_43 rfl (jrf_ref _) ?_
      refine j_get (v := .ref (home)) hC kf_X5_40 dX5_copyFrom_44 ((jput_ne (by omega)).trans ((hfr _ (by show (z) ≠ (s + 1); omega)).trans (u1))) (rfl) ?_
      refine c_put2 (fs' := [.ref (s + 1), .int (nI ((sRecs S).length)), .ref (lay), .ref (home), v4, v5, v6, v7]) hC kp_X5_40 dX5_copyFrom_47 (by omega) (rfl) (rfl) rfl ?_
      refine j_aload_n hC dX5_copyFrom_50 rfl (jrf_ref _) ?_
      refine j_aload_n hC dX5_copyFrom_51 rfl (jrf_ref _) ?_
      refine j_get (v := .int (nI (sKeys S))) hC kf_X5_44 dX5_copyFrom_52 ((jput_ne (by omega)).trans ((hfr _ (by show (z) ≠ (s + 1); omega)).trans (u1))) (rfl) ?_
      refine c_put2 (fs' := [.ref (s + 1), .int (nI ((sRecs S).length)), .ref (lay), .ref (home), .int (nI (sKeys S)), v5, v6, v7]) hC kp_X5_44 dX5_copyFrom_55 (by omega) (rfl) (rfl) rfl ?_
      refine j_aload_n hC dX5_copyFrom_58 rfl (jrf_ref _) ?_
      refine j_aload_n hC dX5_copyFrom_59 rfl (jrf_ref _) ?_
      refine j_get (v := .int (nI (sPol S))) hC kf_X5_47 dX5_copyFrom_60 ((jput_ne (by omega)).trans ((hfr _ (by show (z) ≠ (s + 1); omega)).trans (u1))) (rfl) ?_
      refine c_put2 (fs' := [.ref (s + 1), .int (nI ((sRecs S).length)), .ref (lay), .ref (home), .int (nI (sKeys S)), .int (nI (sPol S)), v6, v7]) hC kp_X5_47 dX5_copyFrom_63 (by omega) (rfl) (rfl) rfl ?_
      refine j_aload_n hC dX5_copyFrom_66 rfl (jrf_ref _) ?_
      refine j_aload_n hC dX5_copyFrom_67 rfl (jrf_ref _) ?_
      refine j_get (v := .int (nI (sOut S))) hC kf_X5_50 dX5_copyFrom_68 ((jput_ne (by omega)).trans ((hfr _ (by show (z) ≠ (s + 1); omega)).trans (u1))) (rfl) ?_
      refine c_put2 (fs' := [.ref (s + 1), .int (nI ((sRecs S).length)), .ref (lay), .ref (home), .int (nI (sKeys S)), .int (nI (sPol S)), .int (nI (sOut S)), v7]) hC kp_X5_50 dX5_copyFrom_71 (by omega) (rfl) (rfl) rfl ?_
      refine j_aload_n hC dX5_copyFrom_74 rfl (jrf_ref _) ?_
      refine j_aload_n hC dX5_copyFrom_75 rfl (jrf_ref _) ?_
      refine j_get (v := .int (nI (sLim S))) hC kf_X5_53 dX5_copyFrom_76 ((jput_ne (by omega)).trans ((hfr _ (by show (z) ≠ (s + 1); omega)).trans (u1))) (rfl) ?_
      refine c_put2 (fs' := [.ref (s + 1), .int (nI ((sRecs S).length)), .ref (lay), .ref (home), .int (nI (sKeys S)), .int (nI (sPol S)), .int (nI (sOut S)), .int (nI (sLim S))]) hC kp_X5_53 dX5_copyFrom_79 (by omega) (rfl) (rfl) rfl ?_
      exact j_vret hC9 rfl dX5_copyFrom_82 (⟨rfl, ⟨⟨lay, home, _, xe, jput_at, (jput_ne (by omega)).trans hrw0, fun j hj => by show entV Z (if j < i then fz j else f j); rw [if_pos (by omega)]; exact u5 j hj, fun r hr => by show (if r < i then fz r else f r) = _ ∧ _; rw [if_pos (by omega)]; exact u3 r hr, u6, u7⟩, u4⟩, fun a h1 h2 => (jput_ne h1).trans (hfr a h2)⟩)
    · refine j_aload_n hC dX5_copyFrom_8 rfl (jrf_ref _) ?_
      refine j_get (v := .ref (s + 1)) hC kf_X5_11 dX5_copyFrom_9 ((hfr _ (by show (s) ≠ (s + 1); omega)).trans (w1)) (rfl) ?_
      refine j_iload_n hC dX5_copyFrom_12 rfl ?_
      refine j_aload_n hC dX5_copyFrom_13 rfl (jrf_ref _) ?_
      refine j_get (v := .ref (z + 1)) hC kf_X5_11 dX5_copyFrom_14 ((hfr _ (by show (z) ≠ (s + 1); omega)).trans (u1)) (rfl) ?_
      refine j_iload_n hC dX5_copyFrom_17 rfl ?_
      rcases u5 i (by omega) with hv9 | ⟨p9, q9, hv9, hp9⟩
      · refine c_aald (i := i) (v := .null) hC dX5_copyFrom_18 ((hfr _ (by show (z + 1) ≠ (s + 1); omega)).trans (u2)) rfl (by omega) (by omega) (hv9) ?_
        refine c_aastN (i := i) hC dX5_copyFrom_19 (hrw0) (by omega) (by omega) (by omega) ?_
        refine j_iinc_2 (v := nI (i + 1)) hC dX5_copyFrom_20 (nI_add _ _) (by decide) rfl ?_
        refine j_goto (tgt := 2) hC dX5_copyFrom_23 (by decide) ?_
        exact (ih (jput (Mr) (s + 1) (.inl (.object RX1, 20, (updV (fun j => if j < i then fz j else f j) (i) .null)))) (i + 1) (by omega) (row_f0 (jput_at) (cpf_s hv9)) (fun b9 hb0 => (jput_ne (by omega)).trans (hfr b9 hb0)) (he2) (by omega))
      · obtain ⟨b9x, op9⟩ := (hp9.mono hz).obj
        have hn9 : p9 ≠ s + 1 := fun e9 => by rw [e9, w2] at op9; cases op9
        refine c_aald (i := i) (v := .ref (p9)) hC dX5_copyFrom_18 ((hfr _ (by show (z + 1) ≠ (s + 1); omega)).trans (u2)) rfl (by omega) (by omega) (hv9) ?_
        refine c_aast (i := i) hC dX5_copyFrom_19 (hrw0) ((hfr p9 hn9).trans op9) rfl (by omega) (by omega) (by omega) ?_
        refine j_iinc_2 (v := nI (i + 1)) hC dX5_copyFrom_20 (nI_add _ _) (by decide) rfl ?_
        refine j_goto (tgt := 2) hC dX5_copyFrom_23 (by decide) ?_
        exact (ih (jput (Mr) (s + 1) (.inl (.object RX1, 20, (updV (fun j => if j < i then fz j else f j) (i) (.ref (p9)))))) (i + 1) (by omega) (row_f0 (jput_at) (cpf_s hv9)) (fun b9 hb0 => (jput_ne (by omega)).trans (hfr b9 hb0)) (he2) (by omega))
section SW
variable {Z : jH} {H : jH} {s p : Nat} {S : aSet} {q : aRec} {L : List aRec} {f : Nat → Value}
/-- the setup at s with other records -/
theorem suR.recs (h : suR H Z s S) {H' : jH} {xe : Nat → Nat} (hL : setG (withRecs S L)) (h1 : ∃ lay home, (H s = some (.inr (9, suF s lay home S))) ∧ layR Z lay (sTmpl S) ∧ txtR Z home (sHome S) ∧ H' s = some (.inr (9, suF s lay home (withRecs S L)))) (h2 : H' (s + 1) = some (.inl (.object RX1, 20, f))) (h3 : ∀ i, i < 20 → entV Z (f i)) (h4 : ∀ r, r < L.length → f r = .ref (xe r) ∧ entR Z (xe r) (L.getD r rec0)) : suR H' Z s (withRecs S L) := by
  obtain ⟨lay, home, -, g1, g2, g3⟩ := h1
  exact ⟨⟨lay, home, f, xe, g3, h2, h3, h4, g1, g2⟩, hL⟩
end SW
theorem updV_at {f : Nat → Value} {i : Nat} {v : Value} : updV f i v i = v := if_pos rfl
theorem updV_ne {f : Nat → Value} {i j : Nat} {v : Value} (h : j ≠ i) : updV f i v j = f j := if_neg h
set_option maxHeartbeats 4000000 in
set_option maxRecDepth 100000 in
theorem m_X5_addLast {G : jG} {M : jM} {s e : Nat} {S : aSet} {q : aRec} {Z : jH} (hs : (gL G).stackTraces = false) (h : suR M.1 Z s S) (hz : sub Z M.1) (hBs : gB G ≤ s) (he : entR Z e q) (hn : (sRecs S).length < 20) : JMet G jX5_addLast [.ref s, .ref e] (M) 0 0 0 (fun v M' => v = none ∧ suR M'.1 Z s (withRecs S (sRecs S ++ [q])) ∧ suOnly M M' s) jNo := by
  refine jMet_of [some (.ref (s)), some (.ref (e))] (by decide) rfl (Nat.le_of_ble_eq_true rfl) (rfl) hs ?_
  intro C hC9 hG
  have hC := hC9.z
  have hs9 := jOK0_tr hC
  refine j_lt (fun hlt => ?_)
  have hBg : jB C = gB G := by rw [jB, hG]
  obtain ⟨⟨lay, home, ff, xe, u1, u2, u5, u3, u6, u7⟩, u4⟩ := id h
  have hn20 : (sRecs S).length ≤ 20 := u4.1.1
  have hk32 : sKeys S < 32 := u4.1.2.1
  have hp3 : sPol S < 3 := u4.1.2.2.1
  have ho1 : sOut S < 1024 := u4.1.2.2.2.1
  have hl2 : sLim S ≤ 200 := u4.1.2.2.2.2.1.2
  have hen : ∀ r, r < (sRecs S).length → (sAt S r).1 < 10 ∧ (sAt S r).2.1 < 100 := fun r hr => ⟨(u3 r hr).2.2.1, (u3 r hr).2.2.2.1⟩
  obtain ⟨b2, oe⟩ := (he.mono hz).obj
  have hes := hlt _ _ oe
  refine j_aload_n hC dX5_addLast_0 rfl (jrf_ref _) ?_
  refine j_get (v := .int (nI ((sRecs S).length))) hC kf_X5_20 dX5_addLast_1 (u1) (rfl) ?_
  refine j_aload_n hC dX5_addLast_4 rfl (jrf_ref _) ?_
  refine j_get (v := .ref (s + 1)) hC kf_X5_11 dX5_addLast_5 (u1) (rfl) ?_
  refine c_alen hC dX5_addLast_8 (u2) ?_
  refine n_icmp_ge (tgt := 32) hC dX5_addLast_9 (by decide) (by omega) (by omega) (fun c1 => ?_) (fun c1 => ?_)
  · exact (show False by omega).elim
  · refine j_aload_n hC dX5_addLast_12 rfl (jrf_ref _) ?_
    refine j_get (v := .ref (s + 1)) hC kf_X5_11 dX5_addLast_13 (u1) (rfl) ?_
    refine j_aload_n hC dX5_addLast_16 rfl (jrf_ref _) ?_
    refine j_get (v := .int (nI ((sRecs S).length))) hC kf_X5_20 dX5_addLast_17 (u1) (rfl) ?_
    refine j_aload_n hC dX5_addLast_20 rfl (jrf_ref _) ?_
    refine c_aast (i := (sRecs S).length) hC dX5_addLast_21 (u2) (oe) rfl (by omega) (by omega) (by omega) ?_
    refine j_aload_n hC dX5_addLast_22 rfl (jrf_ref _) ?_
    refine j_dup hC dX5_addLast_23 rfl ?_
    refine j_get (v := .int (nI ((sRecs S).length))) hC kf_X5_20 dX5_addLast_24 ((jput_ne (by omega)).trans (u1)) (rfl) ?_
    refine j_iconst (v := nI 1) hC dX5_addLast_27 (by decide) ?_
    refine n_iadd hC dX5_addLast_28 ?_
    refine c_put (fs' := [.ref (s + 1), .int (nI (((sRecs S).length) + (1))), .ref lay, .ref home, .int (nI (sKeys S)), .int (nI (sPol S)), .int (nI (sOut S)), .int (nI (sLim S))]) hC kp_X5_20 dX5_addLast_29 ((jput_ne (by omega)).trans (u1)) (by omega) (rfl) (rfl) rfl ?_
    have hlen9 : (sRecs (withRecs S (sRecs S ++ [q]))).length = (sRecs S).length + 1 := List.length_append
    have hse : suF s lay home (withRecs S (sRecs S ++ [q])) = [.ref (s + 1), .int (nI ((sRecs S).length + 1)), .ref lay, .ref home, .int (nI (sKeys S)), .int (nI (sPol S)), .int (nI (sOut S)), .int (nI (sLim S))] := by unfold suF; rw [hlen9]; rfl
    have h8 : ∀ i, i < 20 → entV Z (updV ff (sRecs S).length (.ref e) i) := fun i hi => by
      by_cases e9 : i = (sRecs S).length
      · rw [e9, updV_at]; exact Or.inr ⟨e, q, rfl, he⟩
      · rw [updV_ne e9]; exact u5 i hi
    have h9 : ∀ r, r < (sRecs S ++ [q]).length → updV ff (sRecs S).length (.ref e) r = .ref (if r = (sRecs S).length then e else xe r) ∧ entR Z (if r = (sRecs S).length then e else xe r) ((sRecs S ++ [q]).getD r rec0) := fun r hr => by
      rw [List.length_append, List.length_singleton] at hr
      by_cases e9 : r = (sRecs S).length
      · subst e9; rw [updV_at, if_pos rfl, getD_appN]; exact ⟨rfl, he⟩
      · rw [updV_ne e9, if_neg e9, getD_app (by omega)]; exact u3 r (by omega)
    exact j_vret hC9 rfl dX5_addLast_32 (⟨rfl, ⟨⟨lay, home, _, _, by rw [hse]; exact jput_at, (jput_ne (by omega)).trans jput_at, h8, h9, u6, u7⟩, setG_recs u4 (by rw [List.length_append]; exact hn) (fun q9 hq9 => (List.mem_append.mp hq9).elim (setG_all u4 q9) (fun e9 => by rw [List.mem_singleton.mp e9]; exact he.2))⟩, fun a h1 h2 => (jput_ne h1).trans (jput_ne h2)⟩)
set_option maxHeartbeats 4000000 in
set_option maxRecDepth 100000 in
theorem m_X5_replace {G : jG} {M : jM} {s e i : Nat} {S : aSet} {q : aRec} {Z : jH} (hs : (gL G).stackTraces = false) (h : suR M.1 Z s S) (hz : sub Z M.1) (hBs : gB G ≤ s) (he : entR Z e q) (hi : i < (sRecs S).length) : JMet G jX5_replace [.ref s, .int (nI i), .ref e] (M) 0 0 0 (fun v M' => v = none ∧ suR M'.1 Z s (setRec S i q) ∧ suOnly M M' s) jNo := by
  refine jMet_of [some (.ref (s)), some (.int (nI (i))), some (.ref (e))] (by decide) rfl (Nat.le_of_ble_eq_true rfl) (rfl) hs ?_
  intro C hC9 hG
  have hC := hC9.z
  have hs9 := jOK0_tr hC
  refine j_lt (fun hlt => ?_)
  have hBg : jB C = gB G := by rw [jB, hG]
  obtain ⟨⟨lay, home, ff, xe, u1, u2, u5, u3, u6, u7⟩, u4⟩ := id h
  have hn20 : (sRecs S).length ≤ 20 := u4.1.1
  have hk32 : sKeys S < 32 := u4.1.2.1
  have hp3 : sPol S < 3 := u4.1.2.2.1
  have ho1 : sOut S < 1024 := u4.1.2.2.2.1
  have hl2 : sLim S ≤ 200 := u4.1.2.2.2.2.1.2
  have hen : ∀ r, r < (sRecs S).length → (sAt S r).1 < 10 ∧ (sAt S r).2.1 < 100 := fun r hr => ⟨(u3 r hr).2.2.1, (u3 r hr).2.2.2.1⟩
  obtain ⟨b2, oe⟩ := (he.mono hz).obj
  have hes := hlt _ _ oe
  refine j_iload_n hC dX5_replace_0 rfl ?_
  refine n_if_lt (tgt := 19) hC dX5_replace_1 (by decide) (by omega) (fun c1 => ?_) (fun c1 => ?_)
  · exact (show False by omega).elim
  · refine j_iload_n hC dX5_replace_4 rfl ?_
    refine j_aload_n hC dX5_replace_5 rfl (jrf_ref _) ?_
    refine j_get (v := .int (nI ((sRecs S).length))) hC kf_X5_20 dX5_replace_6 (u1) (rfl) ?_
    refine n_icmp_ge (tgt := 19) hC dX5_replace_9 (by decide) (by omega) (by omega) (fun c2 => ?_) (fun c2 => ?_)
    · exact (show False by omega).elim
    · refine j_aload_n hC dX5_replace_12 rfl (jrf_ref _) ?_
      refine j_get (v := .ref (s + 1)) hC kf_X5_11 dX5_replace_13 (u1) (rfl) ?_
      refine j_iload_n hC dX5_replace_16 rfl ?_
      refine j_aload_n hC dX5_replace_17 rfl (jrf_ref _) ?_
      refine c_aast (i := i) hC dX5_replace_18 (u2) (oe) rfl (by omega) (by omega) (by omega) ?_
      have hlen9 : (sRecs (setRec S i q)).length = (sRecs S).length := List.length_set
      have hse : suF s lay home (setRec S i q) = suF s lay home S := by unfold suF; rw [hlen9]; rfl
      have h8 : ∀ j, j < 20 → entV Z (updV ff i (.ref e) j) := fun j hj => by
        by_cases e9 : j = i
        · rw [e9, updV_at]; exact Or.inr ⟨e, q, rfl, he⟩
        · rw [updV_ne e9]; exact u5 j hj
      have h9 : ∀ r, r < (sRecs (setRec S i q)).length → updV ff i (.ref e) r = .ref (if r = i then e else xe r) ∧ entR Z (if r = i then e else xe r) (sAt (setRec S i q) r) := fun r hr => by
        rw [hlen9] at hr
        have hg : sAt (setRec S i q) r = if r = i then q else sAt S r := by
          show ((sRecs S).set i q).getD r rec0 = _
          rw [List.getD_eq_getElem?_getD, List.getElem?_set]
          by_cases e9 : i = r
          · rw [if_pos e9, if_pos (by omega), if_pos e9.symm]; rfl
          · rw [if_neg e9, if_neg (fun h => e9 h.symm), sAt, List.getD_eq_getElem?_getD]
        rw [hg]
        by_cases e9 : r = i
        · rw [e9, updV_at, if_pos rfl, if_pos rfl]; exact ⟨rfl, he⟩
        · rw [updV_ne e9, if_neg e9, if_neg e9]; exact u3 r hr
      exact j_vret hC9 rfl dX5_replace_19 (⟨rfl, ⟨⟨lay, home, _, _, by rw [hse]; exact (jput_ne (by omega)).trans u1, jput_at, h8, h9, u6, u7⟩, setG_recs u4 (by rw [List.length_set]; exact hn20) (fun q9 hq9 => (List.mem_or_eq_of_mem_set hq9).elim (setG_all u4 q9) (fun e9 => by rw [e9]; exact he.2))⟩, fun a h1 h2 => jput_ne h2⟩)
