/-! ===== the law: one call of its loop ===== -/
abbrev jL_law : jY := (yL_law, cL_law, 9, (Option.some Jvm.ClassFile.FieldType.boolean), [])
/-- where the law's objects lie -/
def LF (G : jG) (a c o ol od n : Nat) : Prop := a < c ∧ c + 120 ≤ o ∧ o + 20 < ol ∧ ol < od ∧ gB G ≤ c ∧ n < 20000
/-- the law's heap: the merger means T, the reference's numbers are R -/
def LH (G : jG) (M : jM) (a n : Nat) (g : Nat → Int32) (c o ol od : Nat) (T : aSt) (R : rR) : Prop := ∃ Z v, cI G M Z c v T ∧ lO G M Z c v ol ∧ lD G M Z c v od ∧ (∀ k, k ≤ 20 → M.1 (o + k) = some (rO o R k)) ∧ (∀ k, k ≤ 20 → Z (o + k) = none ∧ o + k ≠ v) ∧ M.1 a = some (.inl (.int, n, fun j => .int (g j)))
def LI (G : jG) (M : jM) (a n : Nat) (g : Nat → Int32) (c o ol od : Nat) (T : aSt) : Prop := ∃ R, LH G M a n g c o ol od T R ∧ rInv R T
theorem lg_self {x : Int64} : lg_cmp x x = 0 := by
  unfold lg_cmp
  rw [if_neg Int64.lt_irrefl, if_pos rfl]
section LH
variable {G : jG} {M M1 M2 : jM} {Z : jH} {a n c v o ol od x : Nat} {g : Nat → Int32} {T T' : aSt} {R R' : rR}
theorem cI.vv (h : cI G M Z c v T) : v = c + 2 ∨ c + 120 ≤ v := h.2.1.2.2.2.1
theorem lh_call (hF : LF G a c o ol od n) (h1 : cI G M Z c v T) (hol : lO G M Z c v ol) (hod : lD G M Z c v od) (hor : ∀ k, k ≤ 20 → M.1 (o + k) = some (rO o R k)) (hoz : ∀ k, k ≤ 20 → Z (o + k) = none ∧ o + k ≠ v) (hA : M.1 a = some (.inl (.int, n, fun j => .int (g j)))) (hx : x = ol ∨ x = od) (hW : lW G M Z c v x T' M1) (hlo : ∃ g : Nat → Int64, M1.1 ol = some (.inl (.long, 1, fun j => .long (g j)))) (hld : ∃ g : Nat → UInt64, M1.1 od = some (.inl (.double, 1, fun j => .double (g j)))) : LH G M1 a n g c o ol od T' R := by
  have hv := h1.vv
  obtain ⟨f1, f2, f3, f4, f5, f6⟩ := hF
  obtain ⟨Z', v', g1, g2, g3, g4⟩ := hW
  have hv' := g1.vv
  have hy : ∀ y q, M.1 y = some q → Z y = none → y ≠ v → Z' y = none ∧ y ≠ v' := fun y q q1 q2 q3 => by
    constructor
    · cases e : Z' y with
      | none => rfl
      | some w =>
        rcases g4 _ _ e with e9 | e9
        · rw [q2] at e9; cases e9
        · rw [q1] at e9; cases e9
    · intro e
      rcases g3 with e9 | e9
      · exact q3 (e.trans e9)
      · rw [← e, q1] at e9; cases e9
  obtain ⟨l1, l2, l3, l4, gl, l5⟩ := hol
  obtain ⟨d1, d2, d3, d4, gd, d5⟩ := hod
  have y1 := hy _ _ l5 l1 l3
  have y2 := hy _ _ d5 d1 d3
  exact ⟨Z', v', g1, ⟨y1.1, l2, y1.2, l4, hlo⟩, ⟨y2.1, d2, y2.2, d4, hld⟩, fun k hk => g2 _ _ (hor k hk) (by have := (hoz k hk).2; omega), fun k hk => hy _ _ (hor k hk) (hoz k hk).1 (hoz k hk).2, g2 _ _ hA (by omega)⟩
theorem lh_o (hF : LF G a c o ol od n) (h1 : cI G M Z c v T) (hol : lO G M Z c v ol) (hod : lD G M Z c v od) (hor : ∀ k, k ≤ 20 → M.1 (o + k) = some (rO o R k)) (hoz : ∀ k, k ≤ 20 → Z (o + k) = none ∧ o + k ≠ v) (hA : M.1 a = some (.inl (.int, n, fun j => .int (g j)))) (hW : lW G M Z c v ol T' M1) (hlo : ∃ g : Nat → Int64, M1.1 ol = some (.inl (.long, 1, fun j => .long (g j)))) : LH G M1 a n g c o ol od T' R := by
  refine lh_call hF h1 hol hod hor hoz hA (Or.inl rfl) hW hlo ?_
  obtain ⟨f1, f2, f3, f4, f5, f6⟩ := hF
  obtain ⟨Z', v', g1, g2, g3, g4⟩ := hW
  obtain ⟨d1, d2, d3, d4, gd, d5⟩ := hod
  exact ⟨gd, g2 _ _ d5 (by omega)⟩
theorem lh_d (hF : LF G a c o ol od n) (h1 : cI G M Z c v T) (hol : lO G M Z c v ol) (hod : lD G M Z c v od) (hor : ∀ k, k ≤ 20 → M.1 (o + k) = some (rO o R k)) (hoz : ∀ k, k ≤ 20 → Z (o + k) = none ∧ o + k ≠ v) (hA : M.1 a = some (.inl (.int, n, fun j => .int (g j)))) (hW : lW G M Z c v od T' M1) (hld : ∃ g : Nat → UInt64, M1.1 od = some (.inl (.double, 1, fun j => .double (g j)))) : LH G M1 a n g c o ol od T' R := by
  refine lh_call hF h1 hol hod hor hoz hA (Or.inr rfl) hW ?_ hld
  obtain ⟨f1, f2, f3, f4, f5, f6⟩ := hF
  obtain ⟨Z', v', g1, g2, g3, g4⟩ := hW
  obtain ⟨d1, d2, d3, d4, gd, d5⟩ := hol
  exact ⟨gd, g2 _ _ d5 (by omega)⟩
theorem lh_ref (hF : LF G a c o ol od n) (hI : LH G M1 a n g c o ol od T R) (hM : M2 = rM o M1 R') : LH G M2 a n g c o ol od T R' := by
  obtain ⟨Z, v, h1, hol, hod, hor, hoz, hA⟩ := hI
  have hv := h1.vv
  obtain ⟨f1, f2, f3, f4, f5, f6⟩ := hF
  have q : ∀ y, y < o ∨ o + 20 < y → M2.1 y = M1.1 y := fun y hy => by rw [hM]; exact rM_out hy
  have hs1 : sub Z M1.1 := h1.2.2.2.2.2.2.2.2.1.1
  have hzo : ∀ y w, Z y = some w → y < o ∨ o + 20 < y := fun y w hy => by
    by_cases e : y < o ∨ o + 20 < y
    · exact e
    · have h9 := (hoz (y - o) (by omega)).1
      rw [show o + (y - o) = y by omega, hy] at h9
      cases h9
  obtain ⟨l1, l2, l3, l4, gl, l5⟩ := hol
  obtain ⟨d1, d2, d3, d4, gd, d5⟩ := hod
  refine ⟨Z, v, cJ.moreW (W := fun y => o ≤ y ∧ y ≤ o + 20) h1 zg_refl (fun y w hy => (q y (hzo y w hy)).trans (hs1 y w hy)) (fun y w hy hn => (q y (by omega)).trans hy) (fun y hy hn => ?_), ⟨l1, l2, l3, l4, gl, (q _ (by omega)).trans l5⟩, ⟨d1, d2, d3, d4, gd, (q _ (by omega)).trans d5⟩, fun k hk => by rw [hM]; exact rM_at k hk, hoz, (q _ (by omega)).trans hA⟩
  rcases hy with hy | hy
  · omega
  · have h9 := (hoz (y - o) (by omega)).2
    omega
end LH
set_option maxHeartbeats 4000000 in
set_option maxRecDepth 100000 in
theorem m_X10_thrown {G : jG} {M : jM} {o : Nat} {R : rR} (hs : (gL G).stackTraces = false) (ho : M.1 o = some (.inr (14, rF o R))) : CM G M jX10_thrown 0 0 0 [.ref o] (some (.int (R.1 0))) (M) := by
  refine jMet_of [some (.ref (o))] (by decide) rfl (Nat.le_of_ble_eq_true rfl) (rfl) hs ?_
  intro C hC9 hG
  have hC := hC9.z
  have hs9 := jOK0_tr hC
  refine j_aload_n hC dX10_thrown_0 rfl (jrf_ref _) ?_
  refine j_get (v := .int (R.1 0)) hC kf_X10_78 dX10_thrown_1 (ho) (rfl) ?_
  exact j_iret hC9 rfl (rfl) dX10_thrown_4 ⟨rfl, rfl⟩
set_option maxHeartbeats 4000000 in
set_option maxRecDepth 100000 in
theorem lc_clear {C : jC} {Q : Option Value → jM → Prop} {X : String → jM → Prop} (hC9 : jOK jL_law 20 C Q X) {M : jM} {a n p m c o ol od : Nat} {g : Nat → Int32} {T : aSt} (hF : LF (jCG C) a c o ol od n) (h : LI (jCG C) M a n g c o ol od T) (hp : p + 4 ≤ n) (kk : ∀ M2 T2, LI (jCG C) M2 a n g c o ol od T2 → J C M2 (614 * m) (11457 * m) 2148 [some (.ref (a)), some (.ref (c)), some (.ref (o)), some (.ref (ol)), some (.ref (od)), some (.int (nI (p))), none, none, none] []) : J C M (614 * (m + 1)) (11457 * (m + 1)) 196 [some (.ref (a)), some (.ref (c)), some (.ref (o)), some (.ref (ol)), some (.ref (od)), some (.int (nI (p))), none, none, none] [] := by
  have hC := hC9.z
  have hs9 := jOK0_tr hC
  obtain ⟨S, P, V, b, e, u⟩ := T
  obtain ⟨R, hI, hri⟩ := h
  obtain ⟨Z, v, hcI, hol, hod, hor, hoz, hA⟩ := id hI
  have hcJ : cJ (jCG C) M Z c v S P V b e u := hcI
  have hn20 : n < 20000 := hF.2.2.2.2.2
  have hBo : gB (jCG C) ≤ o := by have h1 := hF.2.1; have h2 := hF.2.2.2.2.1; omega
  refine j_aload_n hC dL_law_196 rfl (jrf_ref _) ?_
  refine j_less (kc' := 614 * m + 3) (ks' := 11457 * m + 7) (by omega) (by omega) ?_
  refine c_Pv (kc := 614 * m) (ks := 11457 * m) hC kv_L_128 dL_law_197 (m_X9_clear hs9 hcJ) hcJ.1.1 rfl rfl rfl rfl (by decide) (Nat.le_of_ble_eq_true rfl) ?_
  intro v9 M1 h9
  obtain ⟨h90, rfl, hQ⟩ := h9
  obtain ⟨g1, hg1⟩ := hol.2.2.2.2
  have hW := lw_same (ol := ol) hQ
  have hI1 := lh_o hF hcI hol hod hor hoz hA hW ⟨g1, lw_row hQ hg1 hol.2.1 hol.2.2.1⟩
  obtain ⟨Z1, v1, hcI1, hol1, hod1, hor1, hoz1, hA1⟩ := id hI1
  have ho1 : M1.1 o = some (.inr (14, rF o R)) := hor1 0 (by decide)
  refine j_aload_n hC dL_law_200 rfl (jrf_ref _) ?_
  have hcon := o_X10_clear R (S, P, V, b, e, u) hri (jCG C) o M1 hs9 hBo
  rw [rM_self hor1] at hcon
  refine c_Pv (kc := (614 * m)) (ks := (11457 * m)) hC kv_L_131 dL_law_201 hcon ho1 rfl rfl rfl rfl (by decide) (Nat.le_of_ble_eq_true rfl) ?_
  intro v9 M2 h9
  obtain ⟨R2, ⟨rfl, hr0, hri2⟩, hM2⟩ := h9
  have hI2 := lh_ref hF hI1 hM2
  obtain ⟨Z2, v2, hcI2, hol2, hod2, hor2, hoz2, hA2⟩ := id hI2
  have ho2 : M2.1 o = some (.inr (14, rF o R2)) := hor2 0 (by decide)
  refine j_icmp_eq (tgt := 2148) hC dL_law_204 (by decide) (fun c1 => ?_) (fun c1 => ?_)
  · exact j_less (by omega) (by omega) (kk _ _ ⟨R2, hI2, hri2⟩)
  · first | exact absurd hr0 (by assumption) | exact absurd rfl (by assumption) | exact absurd hc9 (by assumption) | contradiction
set_option maxHeartbeats 4000000 in
set_option maxRecDepth 100000 in
theorem lc_append {C : jC} {Q : Option Value → jM → Prop} {X : String → jM → Prop} (hC9 : jOK jL_law 20 C Q X) {M : jM} {a n p m c o ol od : Nat} {g : Nat → Int32} {T : aSt} (hF : LF (jCG C) a c o ol od n) (h : LI (jCG C) M a n g c o ol od T) (hp : p + 4 ≤ n) (kk : ∀ M2 T2, LI (jCG C) M2 a n g c o ol od T2 → J C M2 (614 * m) (11457 * m) 2148 [some (.ref (a)), some (.ref (c)), some (.ref (o)), some (.ref (ol)), some (.ref (od)), some (.int (nI (p))), none, none, none] []) : J C M (614 * (m + 1)) (11457 * (m + 1)) 209 [some (.ref (a)), some (.ref (c)), some (.ref (o)), some (.ref (ol)), some (.ref (od)), some (.int (nI (p))), none, none, none] [] := by
  have hC := hC9.z
  have hs9 := jOK0_tr hC
  obtain ⟨S, P, V, b, e, u⟩ := T
  obtain ⟨R, hI, hri⟩ := h
  obtain ⟨Z, v, hcI, hol, hod, hor, hoz, hA⟩ := id hI
  have hcJ : cJ (jCG C) M Z c v S P V b e u := hcI
  have hn20 : n < 20000 := hF.2.2.2.2.2
  have hBo : gB (jCG C) ≤ o := by have h1 := hF.2.1; have h2 := hF.2.2.2.2.1; omega
  refine j_aload_n hC dL_law_209 rfl (jrf_ref _) ?_
  refine j_aload_n hC dL_law_210 rfl (jrf_ref _) ?_
  refine j_iload hC dL_law_211 rfl ?_
  refine j_iconst (v := nI 1) hC dL_law_213 (by decide) ?_
  refine n_iadd hC dL_law_214 ?_
  refine c_iald (i := p + 1) (x := (g (p + 1))) hC dL_law_215 (hA) (by omega) (by omega) (rfl) ?_
  refine j_aload_n hC dL_law_216 rfl (jrf_ref _) ?_
  refine j_callSH hC ks_L_132 (0, 9, 12, 13) [(0, 9, 15, 15)] rfl dL_law_217 (w_append (q := ((g (p + 1)))) hs9 hcJ hol) rfl rfl (by decide) (by omega) (by omega) (Nat.le_of_ble_eq_true rfl) (fun v9 M1 h9 => ?_)
  obtain ⟨rfl, hlt9, ⟨g1, hg1, hg2⟩, hW⟩ := h9
  have hI1 := lh_o hF hcI hol hod hor hoz hA hW ⟨g1, hg1⟩
  obtain ⟨Z1, v1, hcI1, hol1, hod1, hor1, hoz1, hA1⟩ := id hI1
  have ho1 : M1.1 o = some (.inr (14, rF o R)) := hor1 0 (by decide)
  refine j_istore_6 hC dL_law_220 (by decide) rfl ?_
  refine j_aload_n hC dL_law_222 rfl (jrf_ref _) ?_
  refine j_aload_n hC dL_law_223 rfl (jrf_ref _) ?_
  refine j_iload hC dL_law_224 rfl ?_
  refine j_iconst (v := nI 1) hC dL_law_226 (by decide) ?_
  refine n_iadd hC dL_law_227 ?_
  refine c_iald (i := p + 1) (x := (g (p + 1))) hC dL_law_228 (hA1) (by omega) (by omega) (rfl) ?_
  have hcon := o_X10_append (p := ((g (p + 1)))) R (S, P, V, b, e, u) hri (jCG C) o M1 hs9 hBo
  rw [rM_self hor1] at hcon
  refine c_Pv (kc := (614 * (m + 1) - 4)) (ks := (11457 * (m + 1) - 568)) hC kv_L_137 dL_law_229 hcon ho1 rfl rfl rfl rfl (by decide) (Nat.le_of_ble_eq_true rfl) ?_
  intro v9 M2 h9
  obtain ⟨R2, ⟨rfl, hr0, hri2⟩, hM2⟩ := h9
  have hI2 := lh_ref hF hI1 hM2
  obtain ⟨Z2, v2, hcI2, hol2, hod2, hor2, hoz2, hA2⟩ := id hI2
  have ho2 : M2.1 o = some (.inr (14, rF o R2)) := hor2 0 (by decide)
  have hl2 : M2.1 ol = _ := (by rw [hM2]; exact rM_out (by have := hF.2.2; omega) : M2.1 ol = M1.1 ol).trans hg1
  refine j_istore_7 hC dL_law_232 (by decide) rfl ?_
  refine j_aload_n hC dL_law_234 rfl (jrf_ref _) ?_
  refine c_V hC kv_L_138 dL_law_235 (m_X10_thrown hs9 ho2) ho2 rfl rfl rfl rfl (by decide) (Nat.le_of_ble_eq_true rfl) ?_
  refine j_iload hC dL_law_238 rfl ?_
  refine j_icmp_eq (tgt := 245) hC dL_law_240 (by decide) (fun c1 => ?_) (fun c1 => ?_)
  · refine j_iload hC dL_law_245 rfl ?_
    refine n_if_ne (tgt := 262) hC dL_law_247 (by decide) (by omega) (fun c2 => ?_) (fun c2 => ?_)
    · refine j_goto (tgt := 2148) hC dL_law_262 (by decide) ?_
      exact j_L (jle_s (jle_s (jle_s (jle_s (jle_s (jle_s (jle_n (jle_n (jle_s (jle_0)))))))))) (j_less (by omega) (by omega) (kk _ _ ⟨R2, hI2, hri2⟩))
    · refine j_aload_n hC dL_law_250 rfl (jrf_ref _) ?_
      refine j_iconst (v := nI 0) hC dL_law_251 (by decide) ?_
      refine j_lald hC dL_law_252 hl2 (vp_in_nI (by decide) (by decide)) ?_
      refine j_topV (v' := .long (cvL (opAppend ((g (p + 1))) (S, P, V, b, e, u)).2.1)) (congrArg Value.long (by rw [nI_clamp (by decide)]; exact hg2 (by assumption))) ?_
      refine j_iload hC dL_law_253 rfl ?_
      refine j_i2l hC dL_law_255 ?_
      refine j_lcmp hC dL_law_256 ?_
      refine j_topV (v' := .int 0) (congrArg Value.int (lg_self)) ?_
      refine j_if_eq (tgt := 262) hC dL_law_257 (by decide) (fun c3 => ?_) (fun c3 => ?_)
      · refine j_goto (tgt := 2148) hC dL_law_262 (by decide) ?_
        exact j_L (jle_s (jle_s (jle_s (jle_s (jle_s (jle_s (jle_n (jle_n (jle_s (jle_0)))))))))) (j_less (by omega) (by omega) (kk _ _ ⟨R2, hI2, hri2⟩))
      · first | exact absurd hr0 (by assumption) | exact absurd rfl (by assumption) | exact absurd hc9 (by assumption) | contradiction
  · first | exact absurd hr0 (by assumption) | exact absurd rfl (by assumption) | exact absurd hc9 (by assumption) | contradiction
set_option maxHeartbeats 4000000 in
set_option maxRecDepth 100000 in
theorem lc_addRecord {C : jC} {Q : Option Value → jM → Prop} {X : String → jM → Prop} (hC9 : jOK jL_law 20 C Q X) {M : jM} {a n p m c o ol od : Nat} {g : Nat → Int32} {T : aSt} (hF : LF (jCG C) a c o ol od n) (h : LI (jCG C) M a n g c o ol od T) (hp : p + 4 ≤ n) (kk : ∀ M2 T2, LI (jCG C) M2 a n g c o ol od T2 → J C M2 (614 * m) (11457 * m) 2148 [some (.ref (a)), some (.ref (c)), some (.ref (o)), some (.ref (ol)), some (.ref (od)), some (.int (nI (p))), none, none, none] []) : J C M (614 * (m + 1)) (11457 * (m + 1)) 265 [some (.ref (a)), some (.ref (c)), some (.ref (o)), some (.ref (ol)), some (.ref (od)), some (.int (nI (p))), none, none, none] [] := by
  have hC := hC9.z
  have hs9 := jOK0_tr hC
  obtain ⟨S, P, V, b, e, u⟩ := T
  obtain ⟨R, hI, hri⟩ := h
  obtain ⟨Z, v, hcI, hol, hod, hor, hoz, hA⟩ := id hI
  have hcJ : cJ (jCG C) M Z c v S P V b e u := hcI
  have hn20 : n < 20000 := hF.2.2.2.2.2
  have hBo : gB (jCG C) ≤ o := by have h1 := hF.2.1; have h2 := hF.2.2.2.2.1; omega
  refine j_aload_n hC dL_law_265 rfl (jrf_ref _) ?_
  refine j_aload_n hC dL_law_266 rfl (jrf_ref _) ?_
  refine j_iload hC dL_law_267 rfl ?_
  refine j_iconst (v := nI 1) hC dL_law_269 (by decide) ?_
  refine n_iadd hC dL_law_270 ?_
  refine c_iald (i := p + 1) (x := (g (p + 1))) hC dL_law_271 (hA) (by omega) (by omega) (rfl) ?_
  refine j_aload_n hC dL_law_272 rfl (jrf_ref _) ?_
  refine j_iload hC dL_law_273 rfl ?_
  refine j_iconst (v := nI 2) hC dL_law_275 (by decide) ?_
  refine n_iadd hC dL_law_276 ?_
  refine c_iald (i := p + 2) (x := (g (p + 2))) hC dL_law_277 (hA) (by omega) (by omega) (rfl) ?_
  refine j_aload_n hC dL_law_278 rfl (jrf_ref _) ?_
  refine j_callSH hC ks_L_141 (0, 10, 13, 13) [(0, 10, 17, 15)] rfl dL_law_279 (w_addRecord (q := ((g (p + 1)))) (r := ((g (p + 2)))) hs9 hcJ hol) rfl rfl (by decide) (by omega) (by omega) (Nat.le_of_ble_eq_true rfl) (fun v9 M1 h9 => ?_)
  obtain ⟨rfl, hlt9, ⟨g1, hg1, hg2⟩, hW⟩ := h9
  have hI1 := lh_o hF hcI hol hod hor hoz hA hW ⟨g1, hg1⟩
  obtain ⟨Z1, v1, hcI1, hol1, hod1, hor1, hoz1, hA1⟩ := id hI1
  have ho1 : M1.1 o = some (.inr (14, rF o R)) := hor1 0 (by decide)
  refine j_istore_6 hC dL_law_282 (by decide) rfl ?_
  refine j_aload_n hC dL_law_284 rfl (jrf_ref _) ?_
  refine j_aload_n hC dL_law_285 rfl (jrf_ref _) ?_
  refine j_iload hC dL_law_286 rfl ?_
  refine j_iconst (v := nI 1) hC dL_law_288 (by decide) ?_
  refine n_iadd hC dL_law_289 ?_
  refine c_iald (i := p + 1) (x := (g (p + 1))) hC dL_law_290 (hA1) (by omega) (by omega) (rfl) ?_
  refine j_aload_n hC dL_law_291 rfl (jrf_ref _) ?_
  refine j_iload hC dL_law_292 rfl ?_
  refine j_iconst (v := nI 2) hC dL_law_294 (by decide) ?_
  refine n_iadd hC dL_law_295 ?_
  refine c_iald (i := p + 2) (x := (g (p + 2))) hC dL_law_296 (hA1) (by omega) (by omega) (rfl) ?_
  have hcon := o_X10_addRecord (g := ((g (p + 1)))) (c := ((g (p + 2)))) R (S, P, V, b, e, u) hri (jCG C) o M1 hs9 hBo
  rw [rM_self hor1] at hcon
  refine c_Pv (kc := (614 * (m + 1) - 3)) (ks := (11457 * (m + 1) - 9)) hC kv_L_144 dL_law_297 hcon ho1 rfl rfl rfl rfl (by decide) (Nat.le_of_ble_eq_true rfl) ?_
  intro v9 M2 h9
  obtain ⟨R2, ⟨rfl, hr0, hri2⟩, hM2⟩ := h9
  have hI2 := lh_ref hF hI1 hM2
  obtain ⟨Z2, v2, hcI2, hol2, hod2, hor2, hoz2, hA2⟩ := id hI2
  have ho2 : M2.1 o = some (.inr (14, rF o R2)) := hor2 0 (by decide)
  have hl2 : M2.1 ol = _ := (by rw [hM2]; exact rM_out (by have := hF.2.2; omega) : M2.1 ol = M1.1 ol).trans hg1
  refine j_istore_7 hC dL_law_300 (by decide) rfl ?_
  refine j_aload_n hC dL_law_302 rfl (jrf_ref _) ?_
  refine c_V hC kv_L_138 dL_law_303 (m_X10_thrown hs9 ho2) ho2 rfl rfl rfl rfl (by decide) (Nat.le_of_ble_eq_true rfl) ?_
  refine j_iload hC dL_law_306 rfl ?_
  refine j_icmp_eq (tgt := 313) hC dL_law_308 (by decide) (fun c1 => ?_) (fun c1 => ?_)
  · refine j_iload hC dL_law_313 rfl ?_
    refine n_if_ne (tgt := 330) hC dL_law_315 (by decide) (by omega) (fun c2 => ?_) (fun c2 => ?_)
    · refine j_goto (tgt := 2148) hC dL_law_330 (by decide) ?_
      exact j_L (jle_s (jle_s (jle_s (jle_s (jle_s (jle_s (jle_n (jle_n (jle_s (jle_0)))))))))) (j_less (by omega) (by omega) (kk _ _ ⟨R2, hI2, hri2⟩))
    · refine j_aload_n hC dL_law_318 rfl (jrf_ref _) ?_
      refine j_iconst (v := nI 0) hC dL_law_319 (by decide) ?_
      refine j_lald hC dL_law_320 hl2 (vp_in_nI (by decide) (by decide)) ?_
      refine j_topV (v' := .long (cvL (opAdd ((g (p + 1))) ((g (p + 2))) (S, P, V, b, e, u)).2.1)) (congrArg Value.long (by rw [nI_clamp (by decide)]; exact hg2 (by assumption))) ?_
      refine j_iload hC dL_law_321 rfl ?_
      refine j_i2l hC dL_law_323 ?_
      refine j_lcmp hC dL_law_324 ?_
      refine j_topV (v' := .int 0) (congrArg Value.int (lg_self)) ?_
      refine j_if_eq (tgt := 330) hC dL_law_325 (by decide) (fun c3 => ?_) (fun c3 => ?_)
      · refine j_goto (tgt := 2148) hC dL_law_330 (by decide) ?_
        exact j_L (jle_s (jle_s (jle_s (jle_s (jle_s (jle_s (jle_n (jle_n (jle_s (jle_0)))))))))) (j_less (by omega) (by omega) (kk _ _ ⟨R2, hI2, hri2⟩))
      · first | exact absurd hr0 (by assumption) | exact absurd rfl (by assumption) | exact absurd hc9 (by assumption) | contradiction
  · first | exact absurd hr0 (by assumption) | exact absurd rfl (by assumption) | exact absurd hc9 (by assumption) | contradiction
set_option maxHeartbeats 4000000 in
set_option maxRecDepth 100000 in
theorem lc_removeRecord {C : jC} {Q : Option Value → jM → Prop} {X : String → jM → Prop} (hC9 : jOK jL_law 20 C Q X) {M : jM} {a n p m c o ol od : Nat} {g : Nat → Int32} {T : aSt} (hF : LF (jCG C) a c o ol od n) (h : LI (jCG C) M a n g c o ol od T) (hp : p + 4 ≤ n) (kk : ∀ M2 T2, LI (jCG C) M2 a n g c o ol od T2 → J C M2 (614 * m) (11457 * m) 2148 [some (.ref (a)), some (.ref (c)), some (.ref (o)), some (.ref (ol)), some (.ref (od)), some (.int (nI (p))), none, none, none] []) : J C M (614 * (m + 1)) (11457 * (m + 1)) 333 [some (.ref (a)), some (.ref (c)), some (.ref (o)), some (.ref (ol)), some (.ref (od)), some (.int (nI (p))), none, none, none] [] := by
  have hC := hC9.z
  have hs9 := jOK0_tr hC
  obtain ⟨S, P, V, b, e, u⟩ := T
  obtain ⟨R, hI, hri⟩ := h
  obtain ⟨Z, v, hcI, hol, hod, hor, hoz, hA⟩ := id hI
  have hcJ : cJ (jCG C) M Z c v S P V b e u := hcI
  have hn20 : n < 20000 := hF.2.2.2.2.2
  have hBo : gB (jCG C) ≤ o := by have h1 := hF.2.1; have h2 := hF.2.2.2.2.1; omega
  refine j_aload_n hC dL_law_333 rfl (jrf_ref _) ?_
  refine j_aload_n hC dL_law_334 rfl (jrf_ref _) ?_
  refine j_iload hC dL_law_335 rfl ?_
  refine j_iconst (v := nI 1) hC dL_law_337 (by decide) ?_
  refine n_iadd hC dL_law_338 ?_
  refine c_iald (i := p + 1) (x := (g (p + 1))) hC dL_law_339 (hA) (by omega) (by omega) (rfl) ?_
  refine j_aload_n hC dL_law_340 rfl (jrf_ref _) ?_
  refine j_callSH hC ks_L_145 (0, 9, 12, 24) [] rfl dL_law_341 (w_removeRecord (q := ((g (p + 1)))) hs9 hcJ hol) rfl rfl (by decide) (by omega) (by omega) (Nat.le_of_ble_eq_true rfl) (fun v9 M1 h9 => ?_)
  obtain ⟨rfl, hlt9, ⟨g1, hg1, hg2⟩, hW⟩ := h9
  have hI1 := lh_o hF hcI hol hod hor hoz hA hW ⟨g1, hg1⟩
  obtain ⟨Z1, v1, hcI1, hol1, hod1, hor1, hoz1, hA1⟩ := id hI1
  have ho1 : M1.1 o = some (.inr (14, rF o R)) := hor1 0 (by decide)
  refine j_istore_6 hC dL_law_344 (by decide) rfl ?_
  refine j_aload_n hC dL_law_346 rfl (jrf_ref _) ?_
  refine j_aload_n hC dL_law_347 rfl (jrf_ref _) ?_
  refine j_iload hC dL_law_348 rfl ?_
  refine j_iconst (v := nI 1) hC dL_law_350 (by decide) ?_
  refine n_iadd hC dL_law_351 ?_
  refine c_iald (i := p + 1) (x := (g (p + 1))) hC dL_law_352 (hA1) (by omega) (by omega) (rfl) ?_
  have hcon := o_X10_removeRecord (r := ((g (p + 1)))) R (S, P, V, b, e, u) hri (jCG C) o M1 hs9 hBo
  rw [rM_self hor1] at hcon
  refine c_Pv (kc := (614 * (m + 1) - 1)) (ks := (11457 * (m + 1) - 6)) hC kv_L_147 dL_law_353 hcon ho1 rfl rfl rfl rfl (by decide) (Nat.le_of_ble_eq_true rfl) ?_
  intro v9 M2 h9
  obtain ⟨R2, ⟨rfl, hr0, hri2⟩, hM2⟩ := h9
  have hI2 := lh_ref hF hI1 hM2
  obtain ⟨Z2, v2, hcI2, hol2, hod2, hor2, hoz2, hA2⟩ := id hI2
  have ho2 : M2.1 o = some (.inr (14, rF o R2)) := hor2 0 (by decide)
  have hl2 : M2.1 ol = _ := (by rw [hM2]; exact rM_out (by have := hF.2.2; omega) : M2.1 ol = M1.1 ol).trans hg1
  refine j_istore_7 hC dL_law_356 (by decide) rfl ?_
  refine j_aload_n hC dL_law_358 rfl (jrf_ref _) ?_
  refine c_V hC kv_L_138 dL_law_359 (m_X10_thrown hs9 ho2) ho2 rfl rfl rfl rfl (by decide) (Nat.le_of_ble_eq_true rfl) ?_
  refine j_iload hC dL_law_362 rfl ?_
  refine j_icmp_eq (tgt := 369) hC dL_law_364 (by decide) (fun c1 => ?_) (fun c1 => ?_)
  · refine j_iload hC dL_law_369 rfl ?_
    refine n_if_ne (tgt := 386) hC dL_law_371 (by decide) (by omega) (fun c2 => ?_) (fun c2 => ?_)
    · refine j_goto (tgt := 2148) hC dL_law_386 (by decide) ?_
      exact j_L (jle_s (jle_s (jle_s (jle_s (jle_s (jle_s (jle_n (jle_n (jle_s (jle_0)))))))))) (j_less (by omega) (by omega) (kk _ _ ⟨R2, hI2, hri2⟩))
    · refine j_aload_n hC dL_law_374 rfl (jrf_ref _) ?_
      refine j_iconst (v := nI 0) hC dL_law_375 (by decide) ?_
      refine j_lald hC dL_law_376 hl2 (vp_in_nI (by decide) (by decide)) ?_
      refine j_topV (v' := .long (cvL (opRemove ((g (p + 1))) (S, P, V, b, e, u)).2.1)) (congrArg Value.long (by rw [nI_clamp (by decide)]; exact hg2 (by assumption))) ?_
      refine j_iload hC dL_law_377 rfl ?_
      refine j_i2l hC dL_law_379 ?_
      refine j_lcmp hC dL_law_380 ?_
      refine j_topV (v' := .int 0) (congrArg Value.int (lg_self)) ?_
      refine j_if_eq (tgt := 386) hC dL_law_381 (by decide) (fun c3 => ?_) (fun c3 => ?_)
      · refine j_goto (tgt := 2148) hC dL_law_386 (by decide) ?_
        exact j_L (jle_s (jle_s (jle_s (jle_s (jle_s (jle_s (jle_n (jle_n (jle_s (jle_0)))))))))) (j_less (by omega) (by omega) (kk _ _ ⟨R2, hI2, hri2⟩))
      · first | exact absurd hr0 (by assumption) | exact absurd rfl (by assumption) | exact absurd hc9 (by assumption) | contradiction
  · first | exact absurd hr0 (by assumption) | exact absurd rfl (by assumption) | exact absurd hc9 (by assumption) | contradiction
set_option maxHeartbeats 4000000 in
set_option maxRecDepth 100000 in
theorem lc_moveRecord {C : jC} {Q : Option Value → jM → Prop} {X : String → jM → Prop} (hC9 : jOK jL_law 20 C Q X) {M : jM} {a n p m c o ol od : Nat} {g : Nat → Int32} {T : aSt} (hF : LF (jCG C) a c o ol od n) (h : LI (jCG C) M a n g c o ol od T) (hp : p + 4 ≤ n) (kk : ∀ M2 T2, LI (jCG C) M2 a n g c o ol od T2 → J C M2 (614 * m) (11457 * m) 2148 [some (.ref (a)), some (.ref (c)), some (.ref (o)), some (.ref (ol)), some (.ref (od)), some (.int (nI (p))), none, none, none] []) : J C M (614 * (m + 1)) (11457 * (m + 1)) 389 [some (.ref (a)), some (.ref (c)), some (.ref (o)), some (.ref (ol)), some (.ref (od)), some (.int (nI (p))), none, none, none] [] := by
  have hC := hC9.z
  have hs9 := jOK0_tr hC
  obtain ⟨S, P, V, b, e, u⟩ := T
  obtain ⟨R, hI, hri⟩ := h
  obtain ⟨Z, v, hcI, hol, hod, hor, hoz, hA⟩ := id hI
  have hcJ : cJ (jCG C) M Z c v S P V b e u := hcI
  have hn20 : n < 20000 := hF.2.2.2.2.2
  have hBo : gB (jCG C) ≤ o := by have h1 := hF.2.1; have h2 := hF.2.2.2.2.1; omega
  refine j_aload_n hC dL_law_389 rfl (jrf_ref _) ?_
  refine j_aload_n hC dL_law_390 rfl (jrf_ref _) ?_
  refine j_iload hC dL_law_391 rfl ?_
  refine j_iconst (v := nI 1) hC dL_law_393 (by decide) ?_
  refine n_iadd hC dL_law_394 ?_
  refine c_iald (i := p + 1) (x := (g (p + 1))) hC dL_law_395 (hA) (by omega) (by omega) (rfl) ?_
  refine j_aload_n hC dL_law_396 rfl (jrf_ref _) ?_
  refine j_iload hC dL_law_397 rfl ?_
  refine j_iconst (v := nI 2) hC dL_law_399 (by decide) ?_
  refine n_iadd hC dL_law_400 ?_
  refine c_iald (i := p + 2) (x := (g (p + 2))) hC dL_law_401 (hA) (by omega) (by omega) (rfl) ?_
  refine j_aload_n hC dL_law_402 rfl (jrf_ref _) ?_
  refine j_callSH hC ks_L_148 (0, 10, 13, 24) [] rfl dL_law_403 (w_moveRecord (q := ((g (p + 1)))) (r := ((g (p + 2)))) hs9 hcJ hol) rfl rfl (by decide) (by omega) (by omega) (Nat.le_of_ble_eq_true rfl) (fun v9 M1 h9 => ?_)
  obtain ⟨rfl, hlt9, ⟨g1, hg1, hg2⟩, hW⟩ := h9
  have hI1 := lh_o hF hcI hol hod hor hoz hA hW ⟨g1, hg1⟩
  obtain ⟨Z1, v1, hcI1, hol1, hod1, hor1, hoz1, hA1⟩ := id hI1
  have ho1 : M1.1 o = some (.inr (14, rF o R)) := hor1 0 (by decide)
  refine j_istore_6 hC dL_law_406 (by decide) rfl ?_
  refine j_aload_n hC dL_law_408 rfl (jrf_ref _) ?_
  refine j_aload_n hC dL_law_409 rfl (jrf_ref _) ?_
  refine j_iload hC dL_law_410 rfl ?_
  refine j_iconst (v := nI 1) hC dL_law_412 (by decide) ?_
  refine n_iadd hC dL_law_413 ?_
  refine c_iald (i := p + 1) (x := (g (p + 1))) hC dL_law_414 (hA1) (by omega) (by omega) (rfl) ?_
  refine j_aload_n hC dL_law_415 rfl (jrf_ref _) ?_
  refine j_iload hC dL_law_416 rfl ?_
  refine j_iconst (v := nI 2) hC dL_law_418 (by decide) ?_
  refine n_iadd hC dL_law_419 ?_
  refine c_iald (i := p + 2) (x := (g (p + 2))) hC dL_law_420 (hA1) (by omega) (by omega) (rfl) ?_
  have hcon := o_X10_moveRecord (r := ((g (p + 1)))) (t := ((g (p + 2)))) R (S, P, V, b, e, u) hri (jCG C) o M1 hs9 hBo
  rw [rM_self hor1] at hcon
  refine c_Pv (kc := (614 * (m + 1) - 2)) (ks := (11457 * (m + 1) - 12)) hC kv_L_150 dL_law_421 hcon ho1 rfl rfl rfl rfl (by decide) (Nat.le_of_ble_eq_true rfl) ?_
  intro v9 M2 h9
  obtain ⟨R2, ⟨rfl, hr0, hri2⟩, hM2⟩ := h9
  have hI2 := lh_ref hF hI1 hM2
  obtain ⟨Z2, v2, hcI2, hol2, hod2, hor2, hoz2, hA2⟩ := id hI2
  have ho2 : M2.1 o = some (.inr (14, rF o R2)) := hor2 0 (by decide)
  have hl2 : M2.1 ol = _ := (by rw [hM2]; exact rM_out (by have := hF.2.2; omega) : M2.1 ol = M1.1 ol).trans hg1
  refine j_istore_7 hC dL_law_424 (by decide) rfl ?_
  refine j_aload_n hC dL_law_426 rfl (jrf_ref _) ?_
  refine c_V hC kv_L_138 dL_law_427 (m_X10_thrown hs9 ho2) ho2 rfl rfl rfl rfl (by decide) (Nat.le_of_ble_eq_true rfl) ?_
  refine j_iload hC dL_law_430 rfl ?_
  refine j_icmp_eq (tgt := 437) hC dL_law_432 (by decide) (fun c1 => ?_) (fun c1 => ?_)
  · refine j_iload hC dL_law_437 rfl ?_
    refine n_if_ne (tgt := 454) hC dL_law_439 (by decide) (by omega) (fun c2 => ?_) (fun c2 => ?_)
    · refine j_goto (tgt := 2148) hC dL_law_454 (by decide) ?_
      exact j_L (jle_s (jle_s (jle_s (jle_s (jle_s (jle_s (jle_n (jle_n (jle_s (jle_0)))))))))) (j_less (by omega) (by omega) (kk _ _ ⟨R2, hI2, hri2⟩))
    · refine j_aload_n hC dL_law_442 rfl (jrf_ref _) ?_
      refine j_iconst (v := nI 0) hC dL_law_443 (by decide) ?_
      refine j_lald hC dL_law_444 hl2 (vp_in_nI (by decide) (by decide)) ?_
      refine j_topV (v' := .long (cvL (opMove ((g (p + 1))) ((g (p + 2))) (S, P, V, b, e, u)).2.1)) (congrArg Value.long (by rw [nI_clamp (by decide)]; exact hg2 (by assumption))) ?_
      refine j_iload hC dL_law_445 rfl ?_
      refine j_i2l hC dL_law_447 ?_
      refine j_lcmp hC dL_law_448 ?_
      refine j_topV (v' := .int 0) (congrArg Value.int (lg_self)) ?_
      refine j_if_eq (tgt := 454) hC dL_law_449 (by decide) (fun c3 => ?_) (fun c3 => ?_)
      · refine j_goto (tgt := 2148) hC dL_law_454 (by decide) ?_
        exact j_L (jle_s (jle_s (jle_s (jle_s (jle_s (jle_s (jle_n (jle_n (jle_s (jle_0)))))))))) (j_less (by omega) (by omega) (kk _ _ ⟨R2, hI2, hri2⟩))
      · first | exact absurd hr0 (by assumption) | exact absurd rfl (by assumption) | exact absurd hc9 (by assumption) | contradiction
  · first | exact absurd hr0 (by assumption) | exact absurd rfl (by assumption) | exact absurd hc9 (by assumption) | contradiction
set_option maxHeartbeats 4000000 in
set_option maxRecDepth 100000 in
theorem lc_sort {C : jC} {Q : Option Value → jM → Prop} {X : String → jM → Prop} (hC9 : jOK jL_law 20 C Q X) {M : jM} {a n p m c o ol od : Nat} {g : Nat → Int32} {T : aSt} (hF : LF (jCG C) a c o ol od n) (h : LI (jCG C) M a n g c o ol od T) (hp : p + 4 ≤ n) (kk : ∀ M2 T2, LI (jCG C) M2 a n g c o ol od T2 → J C M2 (614 * m) (11457 * m) 2148 [some (.ref (a)), some (.ref (c)), some (.ref (o)), some (.ref (ol)), some (.ref (od)), some (.int (nI (p))), none, none, none] []) : J C M (614 * (m + 1)) (11457 * (m + 1)) 457 [some (.ref (a)), some (.ref (c)), some (.ref (o)), some (.ref (ol)), some (.ref (od)), some (.int (nI (p))), none, none, none] [] := by
  have hC := hC9.z
  have hs9 := jOK0_tr hC
  obtain ⟨S, P, V, b, e, u⟩ := T
  obtain ⟨R, hI, hri⟩ := h
  obtain ⟨Z, v, hcI, hol, hod, hor, hoz, hA⟩ := id hI
  have hcJ : cJ (jCG C) M Z c v S P V b e u := hcI
  have hn20 : n < 20000 := hF.2.2.2.2.2
  have hBo : gB (jCG C) ≤ o := by have h1 := hF.2.1; have h2 := hF.2.2.2.2.1; omega
  refine j_aload_n hC dL_law_457 rfl (jrf_ref _) ?_
  refine j_aload_n hC dL_law_458 rfl (jrf_ref _) ?_
  refine j_iload hC dL_law_459 rfl ?_
  refine j_iconst (v := nI 1) hC dL_law_461 (by decide) ?_
  refine n_iadd hC dL_law_462 ?_
  refine c_iald (i := p + 1) (x := (g (p + 1))) hC dL_law_463 (hA) (by omega) (by omega) (rfl) ?_
  refine j_aload_n hC dL_law_464 rfl (jrf_ref _) ?_
  refine j_iload hC dL_law_465 rfl ?_
  refine j_iconst (v := nI 2) hC dL_law_467 (by decide) ?_
  refine n_iadd hC dL_law_468 ?_
  refine c_iald (i := p + 2) (x := (g (p + 2))) hC dL_law_469 (hA) (by omega) (by omega) (rfl) ?_
  suffices K : J C (M) (614 * (m + 1)) (11457 * (m + 1)) 478 [some (.ref (a)), some (.ref (c)), some (.ref (o)), some (.ref (ol)), some (.ref (od)), some (.int (nI (p))), none, none, none] [.int (jb (decide (¬ (g (p + 2)) = 0) = true)), .int ((g (p + 1))), .ref (c)] by
    refine j_if_eq (tgt := 477) hC dL_law_470 (by decide) (fun c1 => ?_) (fun c1 => ?_)
    · refine j_iconst (v := nI 0) hC dL_law_477 (by decide) ?_
      exact j_top (jb_f0 (fun e9 => (of_decide_eq_true e9) (by assumption))) K
    · refine j_iconst (v := nI 1) hC dL_law_473 (by decide) ?_
      refine j_goto (tgt := 478) hC dL_law_474 (by decide) ?_
      exact j_top (jb_t1 (decide_eq_true (by assumption))) K
  refine j_aload_n hC dL_law_478 rfl (jrf_ref _) ?_
  refine j_callSH hC ks_L_151 (0, 10, 13, 24) [] rfl dL_law_479 (w_sort (q := ((g (p + 1)))) (r := (decide (¬ (g (p + 2)) = 0))) hs9 hcJ hol) rfl rfl (by decide) (by omega) (by omega) (Nat.le_of_ble_eq_true rfl) (fun v9 M1 h9 => ?_)
  obtain ⟨rfl, hlt9, ⟨g1, hg1, hg2⟩, hW⟩ := h9
  have hI1 := lh_o hF hcI hol hod hor hoz hA hW ⟨g1, hg1⟩
  obtain ⟨Z1, v1, hcI1, hol1, hod1, hor1, hoz1, hA1⟩ := id hI1
  have ho1 : M1.1 o = some (.inr (14, rF o R)) := hor1 0 (by decide)
  refine j_istore_6 hC dL_law_482 (by decide) rfl ?_
  refine j_aload_n hC dL_law_484 rfl (jrf_ref _) ?_
  refine j_aload_n hC dL_law_485 rfl (jrf_ref _) ?_
  refine j_iload hC dL_law_486 rfl ?_
  refine j_iconst (v := nI 1) hC dL_law_488 (by decide) ?_
  refine n_iadd hC dL_law_489 ?_
  refine c_iald (i := p + 1) (x := (g (p + 1))) hC dL_law_490 (hA1) (by omega) (by omega) (rfl) ?_
  refine j_aload_n hC dL_law_491 rfl (jrf_ref _) ?_
  refine j_iload hC dL_law_492 rfl ?_
  refine j_iconst (v := nI 2) hC dL_law_494 (by decide) ?_
  refine n_iadd hC dL_law_495 ?_
  refine c_iald (i := p + 2) (x := (g (p + 2))) hC dL_law_496 (hA1) (by omega) (by omega) (rfl) ?_
  suffices K : J C (M1) (614 * (m + 1) - 1) (11457 * (m + 1) - 6) 505 [some (.ref (a)), some (.ref (c)), some (.ref (o)), some (.ref (ol)), some (.ref (od)), some (.int (nI (p))), some (.int (nI ((opSort ((g (p + 1))) (decide (¬ (g (p + 2)) = 0)) (S, P, V, b, e, u)).1))), none, none] [.int (jb (decide (¬ (g (p + 2)) = 0) = true)), .int ((g (p + 1))), .ref (o)] by
    refine j_if_eq (tgt := 504) hC dL_law_497 (by decide) (fun c2 => ?_) (fun c2 => ?_)
    · refine j_iconst (v := nI 0) hC dL_law_504 (by decide) ?_
      exact j_top (jb_f0 (fun e9 => (of_decide_eq_true e9) (by assumption))) K
    · refine j_iconst (v := nI 1) hC dL_law_500 (by decide) ?_
      refine j_goto (tgt := 505) hC dL_law_501 (by decide) ?_
      exact j_top (jb_t1 (decide_eq_true (by assumption))) K
  have hcon := o_X10_sort (f := ((g (p + 1)))) (c := (decide (¬ (g (p + 2)) = 0))) R (S, P, V, b, e, u) hri (jCG C) o M1 hs9 hBo
  rw [rM_self hor1] at hcon
  refine c_Pv (kc := (614 * (m + 1) - 1)) (ks := (11457 * (m + 1) - 6)) hC kv_L_154 dL_law_505 hcon ho1 rfl rfl rfl rfl (by decide) (Nat.le_of_ble_eq_true rfl) ?_
  intro v9 M2 h9
  obtain ⟨R2, ⟨rfl, hr0, hri2⟩, hM2⟩ := h9
  have hI2 := lh_ref hF hI1 hM2
  obtain ⟨Z2, v2, hcI2, hol2, hod2, hor2, hoz2, hA2⟩ := id hI2
  have ho2 : M2.1 o = some (.inr (14, rF o R2)) := hor2 0 (by decide)
  have hl2 : M2.1 ol = _ := (by rw [hM2]; exact rM_out (by have := hF.2.2; omega) : M2.1 ol = M1.1 ol).trans hg1
  refine j_istore_7 hC dL_law_508 (by decide) rfl ?_
  refine j_aload_n hC dL_law_510 rfl (jrf_ref _) ?_
  refine c_V hC kv_L_138 dL_law_511 (m_X10_thrown hs9 ho2) ho2 rfl rfl rfl rfl (by decide) (Nat.le_of_ble_eq_true rfl) ?_
  refine j_iload hC dL_law_514 rfl ?_
  refine j_icmp_eq (tgt := 521) hC dL_law_516 (by decide) (fun c3 => ?_) (fun c3 => ?_)
  · refine j_iload hC dL_law_521 rfl ?_
    refine n_if_ne (tgt := 538) hC dL_law_523 (by decide) (by omega) (fun c4 => ?_) (fun c4 => ?_)
    · refine j_goto (tgt := 2148) hC dL_law_538 (by decide) ?_
      exact j_L (jle_s (jle_s (jle_s (jle_s (jle_s (jle_s (jle_n (jle_n (jle_s (jle_0)))))))))) (j_less (by omega) (by omega) (kk _ _ ⟨R2, hI2, hri2⟩))
    · refine j_aload_n hC dL_law_526 rfl (jrf_ref _) ?_
      refine j_iconst (v := nI 0) hC dL_law_527 (by decide) ?_
      refine j_lald hC dL_law_528 hl2 (vp_in_nI (by decide) (by decide)) ?_
      refine j_topV (v' := .long (cvL (opSort ((g (p + 1))) (decide (¬ (g (p + 2)) = 0)) (S, P, V, b, e, u)).2.1)) (congrArg Value.long (by rw [nI_clamp (by decide)]; exact hg2 (by assumption))) ?_
      refine j_iload hC dL_law_529 rfl ?_
      refine j_i2l hC dL_law_531 ?_
      refine j_lcmp hC dL_law_532 ?_
      refine j_topV (v' := .int 0) (congrArg Value.int (lg_self)) ?_
      refine j_if_eq (tgt := 538) hC dL_law_533 (by decide) (fun c5 => ?_) (fun c5 => ?_)
      · refine j_goto (tgt := 2148) hC dL_law_538 (by decide) ?_
        exact j_L (jle_s (jle_s (jle_s (jle_s (jle_s (jle_s (jle_n (jle_n (jle_s (jle_0)))))))))) (j_less (by omega) (by omega) (kk _ _ ⟨R2, hI2, hri2⟩))
      · first | exact absurd hr0 (by assumption) | exact absurd rfl (by assumption) | exact absurd hc9 (by assumption) | contradiction
  · first | exact absurd hr0 (by assumption) | exact absurd rfl (by assumption) | exact absurd hc9 (by assumption) | contradiction
set_option maxHeartbeats 4000000 in
set_option maxRecDepth 100000 in
theorem lc_setField {C : jC} {Q : Option Value → jM → Prop} {X : String → jM → Prop} (hC9 : jOK jL_law 20 C Q X) {M : jM} {a n p m c o ol od : Nat} {g : Nat → Int32} {T : aSt} (hF : LF (jCG C) a c o ol od n) (h : LI (jCG C) M a n g c o ol od T) (hp : p + 4 ≤ n) (kk : ∀ M2 T2, LI (jCG C) M2 a n g c o ol od T2 → J C M2 (614 * m) (11457 * m) 2148 [some (.ref (a)), some (.ref (c)), some (.ref (o)), some (.ref (ol)), some (.ref (od)), some (.int (nI (p))), none, none, none] []) : J C M (614 * (m + 1)) (11457 * (m + 1)) 541 [some (.ref (a)), some (.ref (c)), some (.ref (o)), some (.ref (ol)), some (.ref (od)), some (.int (nI (p))), none, none, none] [] := by
  have hC := hC9.z
  have hs9 := jOK0_tr hC
  obtain ⟨S, P, V, b, e, u⟩ := T
  obtain ⟨R, hI, hri⟩ := h
  obtain ⟨Z, v, hcI, hol, hod, hor, hoz, hA⟩ := id hI
  have hcJ : cJ (jCG C) M Z c v S P V b e u := hcI
  have hn20 : n < 20000 := hF.2.2.2.2.2
  have hBo : gB (jCG C) ≤ o := by have h1 := hF.2.1; have h2 := hF.2.2.2.2.1; omega
  refine j_aload_n hC dL_law_541 rfl (jrf_ref _) ?_
  refine j_aload_n hC dL_law_542 rfl (jrf_ref _) ?_
  refine j_iload hC dL_law_543 rfl ?_
  refine j_iconst (v := nI 1) hC dL_law_545 (by decide) ?_
  refine n_iadd hC dL_law_546 ?_
  refine c_iald (i := p + 1) (x := (g (p + 1))) hC dL_law_547 (hA) (by omega) (by omega) (rfl) ?_
  refine j_aload_n hC dL_law_548 rfl (jrf_ref _) ?_
  refine j_iload hC dL_law_549 rfl ?_
  refine j_iconst (v := nI 2) hC dL_law_551 (by decide) ?_
  refine n_iadd hC dL_law_552 ?_
  refine c_iald (i := p + 2) (x := (g (p + 2))) hC dL_law_553 (hA) (by omega) (by omega) (rfl) ?_
  refine j_aload_n hC dL_law_554 rfl (jrf_ref _) ?_
  refine j_callSH hC ks_L_155 (0, 10, 13, 24) [(0, 10, 17, 13)] rfl dL_law_555 (w_setField (q := ((g (p + 1)))) (r := ((g (p + 2)))) hs9 hcJ hol) rfl rfl (by decide) (by omega) (by omega) (Nat.le_of_ble_eq_true rfl) (fun v9 M1 h9 => ?_)
  obtain ⟨rfl, hlt9, ⟨g1, hg1, hg2⟩, hW⟩ := h9
  have hI1 := lh_o hF hcI hol hod hor hoz hA hW ⟨g1, hg1⟩
  obtain ⟨Z1, v1, hcI1, hol1, hod1, hor1, hoz1, hA1⟩ := id hI1
  have ho1 : M1.1 o = some (.inr (14, rF o R)) := hor1 0 (by decide)
  refine j_istore_6 hC dL_law_558 (by decide) rfl ?_
  refine j_aload_n hC dL_law_560 rfl (jrf_ref _) ?_
  refine j_aload_n hC dL_law_561 rfl (jrf_ref _) ?_
  refine j_iload hC dL_law_562 rfl ?_
  refine j_iconst (v := nI 1) hC dL_law_564 (by decide) ?_
  refine n_iadd hC dL_law_565 ?_
  refine c_iald (i := p + 1) (x := (g (p + 1))) hC dL_law_566 (hA1) (by omega) (by omega) (rfl) ?_
  refine j_aload_n hC dL_law_567 rfl (jrf_ref _) ?_
  refine j_iload hC dL_law_568 rfl ?_
  refine j_iconst (v := nI 2) hC dL_law_570 (by decide) ?_
  refine n_iadd hC dL_law_571 ?_
  refine c_iald (i := p + 2) (x := (g (p + 2))) hC dL_law_572 (hA1) (by omega) (by omega) (rfl) ?_
  have hcon := o_X10_setField (r := ((g (p + 1)))) (f := ((g (p + 2)))) R (S, P, V, b, e, u) hri (jCG C) o M1 hs9 hBo
  rw [rM_self hor1] at hcon
  refine c_Pv (kc := (614 * (m + 1) - 7)) (ks := (11457 * (m + 1) - 151)) hC kv_L_157 dL_law_573 hcon ho1 rfl rfl rfl rfl (by decide) (Nat.le_of_ble_eq_true rfl) ?_
  intro v9 M2 h9
  obtain ⟨R2, ⟨rfl, hr0, hri2⟩, hM2⟩ := h9
  have hI2 := lh_ref hF hI1 hM2
  obtain ⟨Z2, v2, hcI2, hol2, hod2, hor2, hoz2, hA2⟩ := id hI2
  have ho2 : M2.1 o = some (.inr (14, rF o R2)) := hor2 0 (by decide)
  have hl2 : M2.1 ol = _ := (by rw [hM2]; exact rM_out (by have := hF.2.2; omega) : M2.1 ol = M1.1 ol).trans hg1
  refine j_istore_7 hC dL_law_576 (by decide) rfl ?_
  refine j_aload_n hC dL_law_578 rfl (jrf_ref _) ?_
  refine c_V hC kv_L_138 dL_law_579 (m_X10_thrown hs9 ho2) ho2 rfl rfl rfl rfl (by decide) (Nat.le_of_ble_eq_true rfl) ?_
  refine j_iload hC dL_law_582 rfl ?_
  refine j_icmp_eq (tgt := 589) hC dL_law_584 (by decide) (fun c1 => ?_) (fun c1 => ?_)
  · refine j_iload hC dL_law_589 rfl ?_
    refine n_if_ne (tgt := 606) hC dL_law_591 (by decide) (by omega) (fun c2 => ?_) (fun c2 => ?_)
    · refine j_goto (tgt := 2148) hC dL_law_606 (by decide) ?_
      exact j_L (jle_s (jle_s (jle_s (jle_s (jle_s (jle_s (jle_n (jle_n (jle_s (jle_0)))))))))) (j_less (by omega) (by omega) (kk _ _ ⟨R2, hI2, hri2⟩))
    · refine j_aload_n hC dL_law_594 rfl (jrf_ref _) ?_
      refine j_iconst (v := nI 0) hC dL_law_595 (by decide) ?_
      refine j_lald hC dL_law_596 hl2 (vp_in_nI (by decide) (by decide)) ?_
      refine j_topV (v' := .long (cvL (opSetFld ((g (p + 1))) ((g (p + 2))) (S, P, V, b, e, u)).2.1)) (congrArg Value.long (by rw [nI_clamp (by decide)]; exact hg2 (by assumption))) ?_
      refine j_iload hC dL_law_597 rfl ?_
      refine j_i2l hC dL_law_599 ?_
      refine j_lcmp hC dL_law_600 ?_
      refine j_topV (v' := .int 0) (congrArg Value.int (lg_self)) ?_
      refine j_if_eq (tgt := 606) hC dL_law_601 (by decide) (fun c3 => ?_) (fun c3 => ?_)
      · refine j_goto (tgt := 2148) hC dL_law_606 (by decide) ?_
        exact j_L (jle_s (jle_s (jle_s (jle_s (jle_s (jle_s (jle_n (jle_n (jle_s (jle_0)))))))))) (j_less (by omega) (by omega) (kk _ _ ⟨R2, hI2, hri2⟩))
      · first | exact absurd hr0 (by assumption) | exact absurd rfl (by assumption) | exact absurd hc9 (by assumption) | contradiction
  · first | exact absurd hr0 (by assumption) | exact absurd rfl (by assumption) | exact absurd hc9 (by assumption) | contradiction
set_option maxHeartbeats 4000000 in
set_option maxRecDepth 100000 in
theorem lc_setNumber {C : jC} {Q : Option Value → jM → Prop} {X : String → jM → Prop} (hC9 : jOK jL_law 20 C Q X) {M : jM} {a n p m c o ol od : Nat} {g : Nat → Int32} {T : aSt} (hF : LF (jCG C) a c o ol od n) (h : LI (jCG C) M a n g c o ol od T) (hp : p + 4 ≤ n) (kk : ∀ M2 T2, LI (jCG C) M2 a n g c o ol od T2 → J C M2 (614 * m) (11457 * m) 2148 [some (.ref (a)), some (.ref (c)), some (.ref (o)), some (.ref (ol)), some (.ref (od)), some (.int (nI (p))), none, none, none] []) : J C M (614 * (m + 1)) (11457 * (m + 1)) 609 [some (.ref (a)), some (.ref (c)), some (.ref (o)), some (.ref (ol)), some (.ref (od)), some (.int (nI (p))), none, none, none] [] := by
  have hC := hC9.z
  have hs9 := jOK0_tr hC
  obtain ⟨S, P, V, b, e, u⟩ := T
  obtain ⟨R, hI, hri⟩ := h
  obtain ⟨Z, v, hcI, hol, hod, hor, hoz, hA⟩ := id hI
  have hcJ : cJ (jCG C) M Z c v S P V b e u := hcI
  have hn20 : n < 20000 := hF.2.2.2.2.2
  have hBo : gB (jCG C) ≤ o := by have h1 := hF.2.1; have h2 := hF.2.2.2.2.1; omega
  refine j_aload_n hC dL_law_609 rfl (jrf_ref _) ?_
  refine j_aload_n hC dL_law_610 rfl (jrf_ref _) ?_
  refine j_iload hC dL_law_611 rfl ?_
  refine j_iconst (v := nI 1) hC dL_law_613 (by decide) ?_
  refine n_iadd hC dL_law_614 ?_
  refine c_iald (i := p + 1) (x := (g (p + 1))) hC dL_law_615 (hA) (by omega) (by omega) (rfl) ?_
  refine j_aload_n hC dL_law_616 rfl (jrf_ref _) ?_
  refine j_iload hC dL_law_617 rfl ?_
  refine j_iconst (v := nI 2) hC dL_law_619 (by decide) ?_
  refine n_iadd hC dL_law_620 ?_
  refine c_iald (i := p + 2) (x := (g (p + 2))) hC dL_law_621 (hA) (by omega) (by omega) (rfl) ?_
  suffices K : J C (M) (614 * (m + 1)) (11457 * (m + 1)) 630 [some (.ref (a)), some (.ref (c)), some (.ref (o)), some (.ref (ol)), some (.ref (od)), some (.int (nI (p))), none, none, none] [.int (jb (decide (¬ (g (p + 2)) = 0) = true)), .int ((g (p + 1))), .ref (c)] by
    refine j_if_eq (tgt := 629) hC dL_law_622 (by decide) (fun c1 => ?_) (fun c1 => ?_)
    · refine j_iconst (v := nI 0) hC dL_law_629 (by decide) ?_
      exact j_top (jb_f0 (fun e9 => (of_decide_eq_true e9) (by assumption))) K
    · refine j_iconst (v := nI 1) hC dL_law_625 (by decide) ?_
      refine j_goto (tgt := 630) hC dL_law_626 (by decide) ?_
      exact j_top (jb_t1 (decide_eq_true (by assumption))) K
  refine j_aload_n hC dL_law_630 rfl (jrf_ref _) ?_
  refine j_iload hC dL_law_631 rfl ?_
  refine j_iconst (v := nI 3) hC dL_law_633 (by decide) ?_
  refine n_iadd hC dL_law_634 ?_
  refine c_iald (i := p + 3) (x := (g (p + 3))) hC dL_law_635 (hA) (by omega) (by omega) (rfl) ?_
  refine j_aload_n hC dL_law_636 rfl (jrf_ref _) ?_
  refine j_callSH hC ks_L_158 (0, 12, 15, 24) [(0, 12, 19, 13)] rfl dL_law_637 (w_setNumber (q := ((g (p + 1)))) (qb := (decide (¬ (g (p + 2)) = 0))) (r := ((g (p + 3)))) hs9 hcJ hol) rfl rfl (by decide) (by omega) (by omega) (Nat.le_of_ble_eq_true rfl) (fun v9 M1 h9 => ?_)
  obtain ⟨rfl, hlt9, ⟨g1, hg1, hg2⟩, hW⟩ := h9
  have hI1 := lh_o hF hcI hol hod hor hoz hA hW ⟨g1, hg1⟩
  obtain ⟨Z1, v1, hcI1, hol1, hod1, hor1, hoz1, hA1⟩ := id hI1
  have ho1 : M1.1 o = some (.inr (14, rF o R)) := hor1 0 (by decide)
  refine j_istore_6 hC dL_law_640 (by decide) rfl ?_
  refine j_aload_n hC dL_law_642 rfl (jrf_ref _) ?_
  refine j_aload_n hC dL_law_643 rfl (jrf_ref _) ?_
  refine j_iload hC dL_law_644 rfl ?_
  refine j_iconst (v := nI 1) hC dL_law_646 (by decide) ?_
  refine n_iadd hC dL_law_647 ?_
  refine c_iald (i := p + 1) (x := (g (p + 1))) hC dL_law_648 (hA1) (by omega) (by omega) (rfl) ?_
  refine j_aload_n hC dL_law_649 rfl (jrf_ref _) ?_
  refine j_iload hC dL_law_650 rfl ?_
  refine j_iconst (v := nI 2) hC dL_law_652 (by decide) ?_
  refine n_iadd hC dL_law_653 ?_
  refine c_iald (i := p + 2) (x := (g (p + 2))) hC dL_law_654 (hA1) (by omega) (by omega) (rfl) ?_
  suffices K : J C (M1) (614 * (m + 1) - 2) (11457 * (m + 1) - 12) 663 [some (.ref (a)), some (.ref (c)), some (.ref (o)), some (.ref (ol)), some (.ref (od)), some (.int (nI (p))), some (.int (nI ((opNumber ((g (p + 1))) (decide (¬ (g (p + 2)) = 0)) ((g (p + 3))) (S, P, V, b, e, u)).1))), none, none] [.int (jb (decide (¬ (g (p + 2)) = 0) = true)), .int ((g (p + 1))), .ref (o)] by
    refine j_if_eq (tgt := 662) hC dL_law_655 (by decide) (fun c2 => ?_) (fun c2 => ?_)
    · refine j_iconst (v := nI 0) hC dL_law_662 (by decide) ?_
      exact j_top (jb_f0 (fun e9 => (of_decide_eq_true e9) (by assumption))) K
    · refine j_iconst (v := nI 1) hC dL_law_658 (by decide) ?_
      refine j_goto (tgt := 663) hC dL_law_659 (by decide) ?_
      exact j_top (jb_t1 (decide_eq_true (by assumption))) K
  refine j_aload_n hC dL_law_663 rfl (jrf_ref _) ?_
  refine j_iload hC dL_law_664 rfl ?_
  refine j_iconst (v := nI 3) hC dL_law_666 (by decide) ?_
  refine n_iadd hC dL_law_667 ?_
  refine c_iald (i := p + 3) (x := (g (p + 3))) hC dL_law_668 (hA1) (by omega) (by omega) (rfl) ?_
  have hcon := o_X10_setNumber (r := ((g (p + 1)))) (c := (decide (¬ (g (p + 2)) = 0))) (v := ((g (p + 3)))) R (S, P, V, b, e, u) hri (jCG C) o M1 hs9 hBo
  rw [rM_self hor1] at hcon
  refine c_Pv (kc := (614 * (m + 1) - 2)) (ks := (11457 * (m + 1) - 12)) hC kv_L_161 dL_law_669 hcon ho1 rfl rfl rfl rfl (by decide) (Nat.le_of_ble_eq_true rfl) ?_
  intro v9 M2 h9
  obtain ⟨R2, ⟨rfl, hr0, hri2⟩, hM2⟩ := h9
  have hI2 := lh_ref hF hI1 hM2
  obtain ⟨Z2, v2, hcI2, hol2, hod2, hor2, hoz2, hA2⟩ := id hI2
  have ho2 : M2.1 o = some (.inr (14, rF o R2)) := hor2 0 (by decide)
  have hl2 : M2.1 ol = _ := (by rw [hM2]; exact rM_out (by have := hF.2.2; omega) : M2.1 ol = M1.1 ol).trans hg1
  refine j_istore_7 hC dL_law_672 (by decide) rfl ?_
  refine j_aload_n hC dL_law_674 rfl (jrf_ref _) ?_
  refine c_V hC kv_L_138 dL_law_675 (m_X10_thrown hs9 ho2) ho2 rfl rfl rfl rfl (by decide) (Nat.le_of_ble_eq_true rfl) ?_
  refine j_iload hC dL_law_678 rfl ?_
  refine j_icmp_eq (tgt := 685) hC dL_law_680 (by decide) (fun c3 => ?_) (fun c3 => ?_)
  · refine j_iload hC dL_law_685 rfl ?_
    refine n_if_ne (tgt := 702) hC dL_law_687 (by decide) (by omega) (fun c4 => ?_) (fun c4 => ?_)
    · refine j_goto (tgt := 2148) hC dL_law_702 (by decide) ?_
      exact j_L (jle_s (jle_s (jle_s (jle_s (jle_s (jle_s (jle_n (jle_n (jle_s (jle_0)))))))))) (j_less (by omega) (by omega) (kk _ _ ⟨R2, hI2, hri2⟩))
    · refine j_aload_n hC dL_law_690 rfl (jrf_ref _) ?_
      refine j_iconst (v := nI 0) hC dL_law_691 (by decide) ?_
      refine j_lald hC dL_law_692 hl2 (vp_in_nI (by decide) (by decide)) ?_
      refine j_topV (v' := .long (cvL (opNumber ((g (p + 1))) (decide (¬ (g (p + 2)) = 0)) ((g (p + 3))) (S, P, V, b, e, u)).2.1)) (congrArg Value.long (by rw [nI_clamp (by decide)]; exact hg2 (by assumption))) ?_
      refine j_iload hC dL_law_693 rfl ?_
      refine j_i2l hC dL_law_695 ?_
      refine j_lcmp hC dL_law_696 ?_
      refine j_topV (v' := .int 0) (congrArg Value.int (lg_self)) ?_
      refine j_if_eq (tgt := 702) hC dL_law_697 (by decide) (fun c5 => ?_) (fun c5 => ?_)
      · refine j_goto (tgt := 2148) hC dL_law_702 (by decide) ?_
        exact j_L (jle_s (jle_s (jle_s (jle_s (jle_s (jle_s (jle_n (jle_n (jle_s (jle_0)))))))))) (j_less (by omega) (by omega) (kk _ _ ⟨R2, hI2, hri2⟩))
      · first | exact absurd hr0 (by assumption) | exact absurd rfl (by assumption) | exact absurd hc9 (by assumption) | contradiction
  · first | exact absurd hr0 (by assumption) | exact absurd rfl (by assumption) | exact absurd hc9 (by assumption) | contradiction
set_option maxHeartbeats 4000000 in
set_option maxRecDepth 100000 in
theorem lc_field {C : jC} {Q : Option Value → jM → Prop} {X : String → jM → Prop} (hC9 : jOK jL_law 20 C Q X) {M : jM} {a n p m c o ol od : Nat} {g : Nat → Int32} {T : aSt} (hF : LF (jCG C) a c o ol od n) (h : LI (jCG C) M a n g c o ol od T) (hp : p + 4 ≤ n) (kk : ∀ M2 T2, LI (jCG C) M2 a n g c o ol od T2 → J C M2 (614 * m) (11457 * m) 2148 [some (.ref (a)), some (.ref (c)), some (.ref (o)), some (.ref (ol)), some (.ref (od)), some (.int (nI (p))), none, none, none] []) : J C M (614 * (m + 1)) (11457 * (m + 1)) 705 [some (.ref (a)), some (.ref (c)), some (.ref (o)), some (.ref (ol)), some (.ref (od)), some (.int (nI (p))), none, none, none] [] := by
  have hC := hC9.z
  have hs9 := jOK0_tr hC
  obtain ⟨S, P, V, b, e, u⟩ := T
  obtain ⟨R, hI, hri⟩ := h
  obtain ⟨Z, v, hcI, hol, hod, hor, hoz, hA⟩ := id hI
  have hcJ : cJ (jCG C) M Z c v S P V b e u := hcI
  have hn20 : n < 20000 := hF.2.2.2.2.2
  have hBo : gB (jCG C) ≤ o := by have h1 := hF.2.1; have h2 := hF.2.2.2.2.1; omega
  refine j_aload_n hC dL_law_705 rfl (jrf_ref _) ?_
  refine j_aload_n hC dL_law_706 rfl (jrf_ref _) ?_
  refine j_iload hC dL_law_707 rfl ?_
  refine j_iconst (v := nI 1) hC dL_law_709 (by decide) ?_
  refine n_iadd hC dL_law_710 ?_
  refine c_iald (i := p + 1) (x := (g (p + 1))) hC dL_law_711 (hA) (by omega) (by omega) (rfl) ?_
  refine j_aload_n hC dL_law_712 rfl (jrf_ref _) ?_
  refine j_iload hC dL_law_713 rfl ?_
  refine j_iconst (v := nI 2) hC dL_law_715 (by decide) ?_
  refine n_iadd hC dL_law_716 ?_
  refine c_iald (i := p + 2) (x := (g (p + 2))) hC dL_law_717 (hA) (by omega) (by omega) (rfl) ?_
  refine j_aload_n hC dL_law_718 rfl (jrf_ref _) ?_
  refine j_iload hC dL_law_719 rfl ?_
  refine j_iconst (v := nI 3) hC dL_law_721 (by decide) ?_
  refine n_iadd hC dL_law_722 ?_
  refine c_iald (i := p + 3) (x := (g (p + 3))) hC dL_law_723 (hA) (by omega) (by omega) (rfl) ?_
  refine j_aload_n hC dL_law_724 rfl (jrf_ref _) ?_
  refine j_callSH hC ks_L_162 (0, 12, 15, 24) [(0, 12, 19, 44)] rfl dL_law_725 (w_field (q := ((g (p + 1)))) (r := ((g (p + 2)))) (r2 := ((g (p + 3)))) hs9 hcJ hol) rfl rfl (by decide) (by omega) (by omega) (Nat.le_of_ble_eq_true rfl) (fun v9 M1 h9 => ?_)
  obtain ⟨rfl, hlt9, ⟨g1, hg1, hg2⟩, hW⟩ := h9
  have hI1 := lh_o hF hcI hol hod hor hoz hA hW ⟨g1, hg1⟩
  obtain ⟨Z1, v1, hcI1, hol1, hod1, hor1, hoz1, hA1⟩ := id hI1
  have ho1 : M1.1 o = some (.inr (14, rF o R)) := hor1 0 (by decide)
  refine j_istore_6 hC dL_law_728 (by decide) rfl ?_
  refine j_aload_n hC dL_law_730 rfl (jrf_ref _) ?_
  refine j_aload_n hC dL_law_731 rfl (jrf_ref _) ?_
  refine j_iload hC dL_law_732 rfl ?_
  refine j_iconst (v := nI 1) hC dL_law_734 (by decide) ?_
  refine n_iadd hC dL_law_735 ?_
  refine c_iald (i := p + 1) (x := (g (p + 1))) hC dL_law_736 (hA1) (by omega) (by omega) (rfl) ?_
  refine j_aload_n hC dL_law_737 rfl (jrf_ref _) ?_
  refine j_iload hC dL_law_738 rfl ?_
  refine j_iconst (v := nI 2) hC dL_law_740 (by decide) ?_
  refine n_iadd hC dL_law_741 ?_
  refine c_iald (i := p + 2) (x := (g (p + 2))) hC dL_law_742 (hA1) (by omega) (by omega) (rfl) ?_
  refine j_aload_n hC dL_law_743 rfl (jrf_ref _) ?_
  refine j_iload hC dL_law_744 rfl ?_
  refine j_iconst (v := nI 3) hC dL_law_746 (by decide) ?_
  refine n_iadd hC dL_law_747 ?_
  refine c_iald (i := p + 3) (x := (g (p + 3))) hC dL_law_748 (hA1) (by omega) (by omega) (rfl) ?_
  have hcon := o_X10_field (r := ((g (p + 1)))) (f := ((g (p + 2)))) (i := ((g (p + 3)))) R (S, P, V, b, e, u) hri (jCG C) o M1 hs9 hBo
  rw [rM_self hor1] at hcon
  refine c_Pv (kc := (614 * (m + 1) - 3)) (ks := (11457 * (m + 1) - 18)) hC kv_L_165 dL_law_749 hcon ho1 rfl rfl rfl rfl (by decide) (Nat.le_of_ble_eq_true rfl) ?_
  intro v9 M2 h9
  obtain ⟨R2, ⟨rfl, hr0, hri2⟩, hM2⟩ := h9
  have hI2 := lh_ref hF hI1 hM2
  obtain ⟨Z2, v2, hcI2, hol2, hod2, hor2, hoz2, hA2⟩ := id hI2
  have ho2 : M2.1 o = some (.inr (14, rF o R2)) := hor2 0 (by decide)
  have hl2 : M2.1 ol = _ := (by rw [hM2]; exact rM_out (by have := hF.2.2; omega) : M2.1 ol = M1.1 ol).trans hg1
  refine j_istore_7 hC dL_law_752 (by decide) rfl ?_
  refine j_aload_n hC dL_law_754 rfl (jrf_ref _) ?_
  refine c_V hC kv_L_138 dL_law_755 (m_X10_thrown hs9 ho2) ho2 rfl rfl rfl rfl (by decide) (Nat.le_of_ble_eq_true rfl) ?_
  refine j_iload hC dL_law_758 rfl ?_
  refine j_icmp_eq (tgt := 765) hC dL_law_760 (by decide) (fun c1 => ?_) (fun c1 => ?_)
  · refine j_iload hC dL_law_765 rfl ?_
    refine n_if_ne (tgt := 782) hC dL_law_767 (by decide) (by omega) (fun c2 => ?_) (fun c2 => ?_)
    · refine j_goto (tgt := 2148) hC dL_law_782 (by decide) ?_
      exact j_L (jle_s (jle_s (jle_s (jle_s (jle_s (jle_s (jle_n (jle_n (jle_s (jle_0)))))))))) (j_less (by omega) (by omega) (kk _ _ ⟨R2, hI2, hri2⟩))
    · refine j_aload_n hC dL_law_770 rfl (jrf_ref _) ?_
      refine j_iconst (v := nI 0) hC dL_law_771 (by decide) ?_
      refine j_lald hC dL_law_772 hl2 (vp_in_nI (by decide) (by decide)) ?_
      refine j_topV (v' := .long (cvL (opFieldAt ((g (p + 1))) ((g (p + 2))) ((g (p + 3))) (S, P, V, b, e, u)).2.1)) (congrArg Value.long (by rw [nI_clamp (by decide)]; exact hg2 (by assumption))) ?_
      refine j_iload hC dL_law_773 rfl ?_
      refine j_i2l hC dL_law_775 ?_
      refine j_lcmp hC dL_law_776 ?_
      refine j_topV (v' := .int 0) (congrArg Value.int (lg_self)) ?_
      refine j_if_eq (tgt := 782) hC dL_law_777 (by decide) (fun c3 => ?_) (fun c3 => ?_)
      · refine j_goto (tgt := 2148) hC dL_law_782 (by decide) ?_
        exact j_L (jle_s (jle_s (jle_s (jle_s (jle_s (jle_s (jle_n (jle_n (jle_s (jle_0)))))))))) (j_less (by omega) (by omega) (kk _ _ ⟨R2, hI2, hri2⟩))
      · first | exact absurd hr0 (by assumption) | exact absurd rfl (by assumption) | exact absurd hc9 (by assumption) | contradiction
  · first | exact absurd hr0 (by assumption) | exact absurd rfl (by assumption) | exact absurd hc9 (by assumption) | contradiction
set_option maxHeartbeats 4000000 in
set_option maxRecDepth 100000 in
theorem lc_record {C : jC} {Q : Option Value → jM → Prop} {X : String → jM → Prop} (hC9 : jOK jL_law 20 C Q X) {M : jM} {a n p m c o ol od : Nat} {g : Nat → Int32} {T : aSt} (hF : LF (jCG C) a c o ol od n) (h : LI (jCG C) M a n g c o ol od T) (hp : p + 4 ≤ n) (kk : ∀ M2 T2, LI (jCG C) M2 a n g c o ol od T2 → J C M2 (614 * m) (11457 * m) 2148 [some (.ref (a)), some (.ref (c)), some (.ref (o)), some (.ref (ol)), some (.ref (od)), some (.int (nI (p))), none, none, none] []) : J C M (614 * (m + 1)) (11457 * (m + 1)) 785 [some (.ref (a)), some (.ref (c)), some (.ref (o)), some (.ref (ol)), some (.ref (od)), some (.int (nI (p))), none, none, none] [] := by
  have hC := hC9.z
  have hs9 := jOK0_tr hC
  obtain ⟨S, P, V, b, e, u⟩ := T
  obtain ⟨R, hI, hri⟩ := h
  obtain ⟨Z, v, hcI, hol, hod, hor, hoz, hA⟩ := id hI
  have hcJ : cJ (jCG C) M Z c v S P V b e u := hcI
  have hn20 : n < 20000 := hF.2.2.2.2.2
  have hBo : gB (jCG C) ≤ o := by have h1 := hF.2.1; have h2 := hF.2.2.2.2.1; omega
  refine j_aload_n hC dL_law_785 rfl (jrf_ref _) ?_
  refine j_aload_n hC dL_law_786 rfl (jrf_ref _) ?_
  refine j_iload hC dL_law_787 rfl ?_
  refine j_iconst (v := nI 1) hC dL_law_789 (by decide) ?_
  refine n_iadd hC dL_law_790 ?_
  refine c_iald (i := p + 1) (x := (g (p + 1))) hC dL_law_791 (hA) (by omega) (by omega) (rfl) ?_
  refine j_aload_n hC dL_law_792 rfl (jrf_ref _) ?_
  refine j_iload hC dL_law_793 rfl ?_
  refine j_iconst (v := nI 2) hC dL_law_795 (by decide) ?_
  refine n_iadd hC dL_law_796 ?_
  refine c_iald (i := p + 2) (x := (g (p + 2))) hC dL_law_797 (hA) (by omega) (by omega) (rfl) ?_
  refine j_aload_n hC dL_law_798 rfl (jrf_ref _) ?_
  refine j_callSH hC ks_L_166 (0, 10, 13, 24) [(0, 10, 17, 13)] rfl dL_law_799 (w_record (q := ((g (p + 1)))) (r := ((g (p + 2)))) hs9 hcJ hol) rfl rfl (by decide) (by omega) (by omega) (Nat.le_of_ble_eq_true rfl) (fun v9 M1 h9 => ?_)
  obtain ⟨rfl, hlt9, ⟨g1, hg1, hg2⟩, hW⟩ := h9
  have hI1 := lh_o hF hcI hol hod hor hoz hA hW ⟨g1, hg1⟩
  obtain ⟨Z1, v1, hcI1, hol1, hod1, hor1, hoz1, hA1⟩ := id hI1
  have ho1 : M1.1 o = some (.inr (14, rF o R)) := hor1 0 (by decide)
  refine j_istore_6 hC dL_law_802 (by decide) rfl ?_
  refine j_aload_n hC dL_law_804 rfl (jrf_ref _) ?_
  refine j_aload_n hC dL_law_805 rfl (jrf_ref _) ?_
  refine j_iload hC dL_law_806 rfl ?_
  refine j_iconst (v := nI 1) hC dL_law_808 (by decide) ?_
  refine n_iadd hC dL_law_809 ?_
  refine c_iald (i := p + 1) (x := (g (p + 1))) hC dL_law_810 (hA1) (by omega) (by omega) (rfl) ?_
  refine j_aload_n hC dL_law_811 rfl (jrf_ref _) ?_
  refine j_iload hC dL_law_812 rfl ?_
  refine j_iconst (v := nI 2) hC dL_law_814 (by decide) ?_
  refine n_iadd hC dL_law_815 ?_
  refine c_iald (i := p + 2) (x := (g (p + 2))) hC dL_law_816 (hA1) (by omega) (by omega) (rfl) ?_
  have hcon := o_X10_record (r := ((g (p + 1)))) (f := ((g (p + 2)))) R (S, P, V, b, e, u) hri (jCG C) o M1 hs9 hBo
  rw [rM_self hor1] at hcon
  refine c_Pv (kc := (614 * (m + 1) - 2)) (ks := (11457 * (m + 1) - 12)) hC kv_L_168 dL_law_817 hcon ho1 rfl rfl rfl rfl (by decide) (Nat.le_of_ble_eq_true rfl) ?_
  intro v9 M2 h9
  obtain ⟨R2, ⟨rfl, hr0, hri2⟩, hM2⟩ := h9
  have hI2 := lh_ref hF hI1 hM2
  obtain ⟨Z2, v2, hcI2, hol2, hod2, hor2, hoz2, hA2⟩ := id hI2
  have ho2 : M2.1 o = some (.inr (14, rF o R2)) := hor2 0 (by decide)
  have hl2 : M2.1 ol = _ := (by rw [hM2]; exact rM_out (by have := hF.2.2; omega) : M2.1 ol = M1.1 ol).trans hg1
  refine j_istore_7 hC dL_law_820 (by decide) rfl ?_
  refine j_aload_n hC dL_law_822 rfl (jrf_ref _) ?_
  refine c_V hC kv_L_138 dL_law_823 (m_X10_thrown hs9 ho2) ho2 rfl rfl rfl rfl (by decide) (Nat.le_of_ble_eq_true rfl) ?_
  refine j_iload hC dL_law_826 rfl ?_
  refine j_icmp_eq (tgt := 833) hC dL_law_828 (by decide) (fun c1 => ?_) (fun c1 => ?_)
  · refine j_iload hC dL_law_833 rfl ?_
    refine n_if_ne (tgt := 850) hC dL_law_835 (by decide) (by omega) (fun c2 => ?_) (fun c2 => ?_)
    · refine j_goto (tgt := 2148) hC dL_law_850 (by decide) ?_
      exact j_L (jle_s (jle_s (jle_s (jle_s (jle_s (jle_s (jle_n (jle_n (jle_s (jle_0)))))))))) (j_less (by omega) (by omega) (kk _ _ ⟨R2, hI2, hri2⟩))
    · refine j_aload_n hC dL_law_838 rfl (jrf_ref _) ?_
      refine j_iconst (v := nI 0) hC dL_law_839 (by decide) ?_
      refine j_lald hC dL_law_840 hl2 (vp_in_nI (by decide) (by decide)) ?_
      refine j_topV (v' := .long (cvL (opRecord ((g (p + 1))) ((g (p + 2))) (S, P, V, b, e, u)).2.1)) (congrArg Value.long (by rw [nI_clamp (by decide)]; exact hg2 (by assumption))) ?_
      refine j_iload hC dL_law_841 rfl ?_
      refine j_i2l hC dL_law_843 ?_
      refine j_lcmp hC dL_law_844 ?_
      refine j_topV (v' := .int 0) (congrArg Value.int (lg_self)) ?_
      refine j_if_eq (tgt := 850) hC dL_law_845 (by decide) (fun c3 => ?_) (fun c3 => ?_)
      · refine j_goto (tgt := 2148) hC dL_law_850 (by decide) ?_
        exact j_L (jle_s (jle_s (jle_s (jle_s (jle_s (jle_s (jle_n (jle_n (jle_s (jle_0)))))))))) (j_less (by omega) (by omega) (kk _ _ ⟨R2, hI2, hri2⟩))
      · first | exact absurd hr0 (by assumption) | exact absurd rfl (by assumption) | exact absurd hc9 (by assumption) | contradiction
  · first | exact absurd hr0 (by assumption) | exact absurd rfl (by assumption) | exact absurd hc9 (by assumption) | contradiction
set_option maxHeartbeats 4000000 in
set_option maxRecDepth 100000 in
theorem lc_setTemplate {C : jC} {Q : Option Value → jM → Prop} {X : String → jM → Prop} (hC9 : jOK jL_law 20 C Q X) {M : jM} {a n p m c o ol od : Nat} {g : Nat → Int32} {T : aSt} (hF : LF (jCG C) a c o ol od n) (h : LI (jCG C) M a n g c o ol od T) (hp : p + 4 ≤ n) (kk : ∀ M2 T2, LI (jCG C) M2 a n g c o ol od T2 → J C M2 (614 * m) (11457 * m) 2148 [some (.ref (a)), some (.ref (c)), some (.ref (o)), some (.ref (ol)), some (.ref (od)), some (.int (nI (p))), none, none, none] []) : J C M (614 * (m + 1)) (11457 * (m + 1)) 853 [some (.ref (a)), some (.ref (c)), some (.ref (o)), some (.ref (ol)), some (.ref (od)), some (.int (nI (p))), none, none, none] [] := by
  have hC := hC9.z
  have hs9 := jOK0_tr hC
  obtain ⟨S, P, V, b, e, u⟩ := T
  obtain ⟨R, hI, hri⟩ := h
  obtain ⟨Z, v, hcI, hol, hod, hor, hoz, hA⟩ := id hI
  have hcJ : cJ (jCG C) M Z c v S P V b e u := hcI
  have hn20 : n < 20000 := hF.2.2.2.2.2
  have hBo : gB (jCG C) ≤ o := by have h1 := hF.2.1; have h2 := hF.2.2.2.2.1; omega
  refine j_aload_n hC dL_law_853 rfl (jrf_ref _) ?_
  refine j_aload_n hC dL_law_854 rfl (jrf_ref _) ?_
  refine j_callSH hC ks_L_169 (0, 8, 11, 13) [] rfl dL_law_855 (w_setTemplate hs9 hcJ hol) rfl rfl (by decide) (by omega) (by omega) (Nat.le_of_ble_eq_true rfl) (fun v9 M1 h9 => ?_)
  obtain ⟨rfl, hlt9, ⟨g1, hg1, hg2⟩, hW⟩ := h9
  have hI1 := lh_o hF hcI hol hod hor hoz hA hW ⟨g1, hg1⟩
  obtain ⟨Z1, v1, hcI1, hol1, hod1, hor1, hoz1, hA1⟩ := id hI1
  have ho1 : M1.1 o = some (.inr (14, rF o R)) := hor1 0 (by decide)
  refine j_istore_6 hC dL_law_858 (by decide) rfl ?_
  refine j_aload_n hC dL_law_860 rfl (jrf_ref _) ?_
  have hcon := o_X10_setTemplate R (S, P, V, b, e, u) hri (jCG C) o M1 hs9 hBo
  rw [rM_self hor1] at hcon
  refine c_Pv (kc := (614 * (m + 1) - 614)) (ks := (11457 * (m + 1) - 11457)) hC kv_L_172 dL_law_861 hcon ho1 rfl rfl rfl rfl (by decide) (Nat.le_of_ble_eq_true rfl) ?_
  intro v9 M2 h9
  obtain ⟨R2, ⟨rfl, hr0, hri2⟩, hM2⟩ := h9
  have hI2 := lh_ref hF hI1 hM2
  obtain ⟨Z2, v2, hcI2, hol2, hod2, hor2, hoz2, hA2⟩ := id hI2
  have ho2 : M2.1 o = some (.inr (14, rF o R2)) := hor2 0 (by decide)
  have hl2 : M2.1 ol = _ := (by rw [hM2]; exact rM_out (by have := hF.2.2; omega) : M2.1 ol = M1.1 ol).trans hg1
  refine j_istore_7 hC dL_law_864 (by decide) rfl ?_
  refine j_aload_n hC dL_law_866 rfl (jrf_ref _) ?_
  refine c_V hC kv_L_138 dL_law_867 (m_X10_thrown hs9 ho2) ho2 rfl rfl rfl rfl (by decide) (Nat.le_of_ble_eq_true rfl) ?_
  refine j_iload hC dL_law_870 rfl ?_
  refine j_icmp_eq (tgt := 877) hC dL_law_872 (by decide) (fun c1 => ?_) (fun c1 => ?_)
  · refine j_iload hC dL_law_877 rfl ?_
    refine n_if_ne (tgt := 894) hC dL_law_879 (by decide) (by omega) (fun c2 => ?_) (fun c2 => ?_)
    · refine j_goto (tgt := 2148) hC dL_law_894 (by decide) ?_
      exact j_L (jle_s (jle_s (jle_s (jle_s (jle_s (jle_s (jle_n (jle_n (jle_s (jle_0)))))))))) (j_less (by omega) (by omega) (kk _ _ ⟨R2, hI2, hri2⟩))
    · refine j_aload_n hC dL_law_882 rfl (jrf_ref _) ?_
      refine j_iconst (v := nI 0) hC dL_law_883 (by decide) ?_
      refine j_lald hC dL_law_884 hl2 (vp_in_nI (by decide) (by decide)) ?_
      refine j_topV (v' := .long (cvL (opSetTmpl (S, P, V, b, e, u)).2.1)) (congrArg Value.long (by rw [nI_clamp (by decide)]; exact hg2 (by assumption))) ?_
      refine j_iload hC dL_law_885 rfl ?_
      refine j_i2l hC dL_law_887 ?_
      refine j_lcmp hC dL_law_888 ?_
      refine j_topV (v' := .int 0) (congrArg Value.int (lg_self)) ?_
      refine j_if_eq (tgt := 894) hC dL_law_889 (by decide) (fun c3 => ?_) (fun c3 => ?_)
      · refine j_goto (tgt := 2148) hC dL_law_894 (by decide) ?_
        exact j_L (jle_s (jle_s (jle_s (jle_s (jle_s (jle_s (jle_n (jle_n (jle_s (jle_0)))))))))) (j_less (by omega) (by omega) (kk _ _ ⟨R2, hI2, hri2⟩))
      · first | exact absurd hr0 (by assumption) | exact absurd rfl (by assumption) | exact absurd hc9 (by assumption) | contradiction
  · first | exact absurd hr0 (by assumption) | exact absurd rfl (by assumption) | exact absurd hc9 (by assumption) | contradiction
set_option maxHeartbeats 4000000 in
set_option maxRecDepth 100000 in
theorem lc_errorPosition {C : jC} {Q : Option Value → jM → Prop} {X : String → jM → Prop} (hC9 : jOK jL_law 20 C Q X) {M : jM} {a n p m c o ol od : Nat} {g : Nat → Int32} {T : aSt} (hF : LF (jCG C) a c o ol od n) (h : LI (jCG C) M a n g c o ol od T) (hp : p + 4 ≤ n) (kk : ∀ M2 T2, LI (jCG C) M2 a n g c o ol od T2 → J C M2 (614 * m) (11457 * m) 2148 [some (.ref (a)), some (.ref (c)), some (.ref (o)), some (.ref (ol)), some (.ref (od)), some (.int (nI (p))), none, none, none] []) : J C M (614 * (m + 1)) (11457 * (m + 1)) 897 [some (.ref (a)), some (.ref (c)), some (.ref (o)), some (.ref (ol)), some (.ref (od)), some (.int (nI (p))), none, none, none] [] := by
  have hC := hC9.z
  have hs9 := jOK0_tr hC
  obtain ⟨S, P, V, b, e, u⟩ := T
  obtain ⟨R, hI, hri⟩ := h
  obtain ⟨Z, v, hcI, hol, hod, hor, hoz, hA⟩ := id hI
  have hcJ : cJ (jCG C) M Z c v S P V b e u := hcI
  have hn20 : n < 20000 := hF.2.2.2.2.2
  have hBo : gB (jCG C) ≤ o := by have h1 := hF.2.1; have h2 := hF.2.2.2.2.1; omega
  refine j_aload_n hC dL_law_897 rfl (jrf_ref _) ?_
  refine j_aload_n hC dL_law_898 rfl (jrf_ref _) ?_
  refine j_callSH hC ks_L_173 (0, 8, 11, 44) [] rfl dL_law_899 (w_errorPosition hs9 hcJ hol) rfl rfl (by decide) (by omega) (by omega) (Nat.le_of_ble_eq_true rfl) (fun v9 M1 h9 => ?_)
  obtain ⟨rfl, hlt9, ⟨g1, hg1, hg2⟩, hW⟩ := h9
  have hI1 := lh_o hF hcI hol hod hor hoz hA hW ⟨g1, hg1⟩
  obtain ⟨Z1, v1, hcI1, hol1, hod1, hor1, hoz1, hA1⟩ := id hI1
  have ho1 : M1.1 o = some (.inr (14, rF o R)) := hor1 0 (by decide)
  refine j_istore_6 hC dL_law_902 (by decide) rfl ?_
  refine j_aload_n hC dL_law_904 rfl (jrf_ref _) ?_
  have hcon := o_X10_errorPosition R (S, P, V, b, e, u) hri (jCG C) o M1 hs9 hBo
  rw [rM_self hor1] at hcon
  refine c_Pv (kc := (614 * (m + 1) - 1)) (ks := (11457 * (m + 1) - 6)) hC kv_L_175 dL_law_905 hcon ho1 rfl rfl rfl rfl (by decide) (Nat.le_of_ble_eq_true rfl) ?_
  intro v9 M2 h9
  obtain ⟨R2, ⟨rfl, hr0, hri2⟩, hM2⟩ := h9
  have hI2 := lh_ref hF hI1 hM2
  obtain ⟨Z2, v2, hcI2, hol2, hod2, hor2, hoz2, hA2⟩ := id hI2
  have ho2 : M2.1 o = some (.inr (14, rF o R2)) := hor2 0 (by decide)
  have hl2 : M2.1 ol = _ := (by rw [hM2]; exact rM_out (by have := hF.2.2; omega) : M2.1 ol = M1.1 ol).trans hg1
  refine j_istore_7 hC dL_law_908 (by decide) rfl ?_
  refine j_aload_n hC dL_law_910 rfl (jrf_ref _) ?_
  refine c_V hC kv_L_138 dL_law_911 (m_X10_thrown hs9 ho2) ho2 rfl rfl rfl rfl (by decide) (Nat.le_of_ble_eq_true rfl) ?_
  refine j_iload hC dL_law_914 rfl ?_
  refine j_icmp_eq (tgt := 921) hC dL_law_916 (by decide) (fun c1 => ?_) (fun c1 => ?_)
  · refine j_iload hC dL_law_921 rfl ?_
    refine n_if_ne (tgt := 938) hC dL_law_923 (by decide) (by omega) (fun c2 => ?_) (fun c2 => ?_)
    · refine j_goto (tgt := 2148) hC dL_law_938 (by decide) ?_
      exact j_L (jle_s (jle_s (jle_s (jle_s (jle_s (jle_s (jle_n (jle_n (jle_s (jle_0)))))))))) (j_less (by omega) (by omega) (kk _ _ ⟨R2, hI2, hri2⟩))
    · refine j_aload_n hC dL_law_926 rfl (jrf_ref _) ?_
      refine j_iconst (v := nI 0) hC dL_law_927 (by decide) ?_
      refine j_lald hC dL_law_928 hl2 (vp_in_nI (by decide) (by decide)) ?_
      refine j_topV (v' := .long (cvL (opErrPos (S, P, V, b, e, u)).2.1)) (congrArg Value.long (by rw [nI_clamp (by decide)]; exact hg2 (by assumption))) ?_
      refine j_iload hC dL_law_929 rfl ?_
      refine j_i2l hC dL_law_931 ?_
      refine j_lcmp hC dL_law_932 ?_
      refine j_topV (v' := .int 0) (congrArg Value.int (lg_self)) ?_
      refine j_if_eq (tgt := 938) hC dL_law_933 (by decide) (fun c3 => ?_) (fun c3 => ?_)
      · refine j_goto (tgt := 2148) hC dL_law_938 (by decide) ?_
        exact j_L (jle_s (jle_s (jle_s (jle_s (jle_s (jle_s (jle_n (jle_n (jle_s (jle_0)))))))))) (j_less (by omega) (by omega) (kk _ _ ⟨R2, hI2, hri2⟩))
      · first | exact absurd hr0 (by assumption) | exact absurd rfl (by assumption) | exact absurd hc9 (by assumption) | contradiction
  · first | exact absurd hr0 (by assumption) | exact absurd rfl (by assumption) | exact absurd hc9 (by assumption) | contradiction
set_option maxHeartbeats 4000000 in
set_option maxRecDepth 100000 in
theorem lc_template {C : jC} {Q : Option Value → jM → Prop} {X : String → jM → Prop} (hC9 : jOK jL_law 20 C Q X) {M : jM} {a n p m c o ol od : Nat} {g : Nat → Int32} {T : aSt} (hF : LF (jCG C) a c o ol od n) (h : LI (jCG C) M a n g c o ol od T) (hp : p + 4 ≤ n) (kk : ∀ M2 T2, LI (jCG C) M2 a n g c o ol od T2 → J C M2 (614 * m) (11457 * m) 2148 [some (.ref (a)), some (.ref (c)), some (.ref (o)), some (.ref (ol)), some (.ref (od)), some (.int (nI (p))), none, none, none] []) : J C M (614 * (m + 1)) (11457 * (m + 1)) 941 [some (.ref (a)), some (.ref (c)), some (.ref (o)), some (.ref (ol)), some (.ref (od)), some (.int (nI (p))), none, none, none] [] := by
  have hC := hC9.z
  have hs9 := jOK0_tr hC
  obtain ⟨S, P, V, b, e, u⟩ := T
  obtain ⟨R, hI, hri⟩ := h
  obtain ⟨Z, v, hcI, hol, hod, hor, hoz, hA⟩ := id hI
  have hcJ : cJ (jCG C) M Z c v S P V b e u := hcI
  have hn20 : n < 20000 := hF.2.2.2.2.2
  have hBo : gB (jCG C) ≤ o := by have h1 := hF.2.1; have h2 := hF.2.2.2.2.1; omega
  refine j_aload_n hC dL_law_941 rfl (jrf_ref _) ?_
  refine j_aload_n hC dL_law_942 rfl (jrf_ref _) ?_
  refine j_iload hC dL_law_943 rfl ?_
  refine j_iconst (v := nI 1) hC dL_law_945 (by decide) ?_
  refine n_iadd hC dL_law_946 ?_
  refine c_iald (i := p + 1) (x := (g (p + 1))) hC dL_law_947 (hA) (by omega) (by omega) (rfl) ?_
  refine j_aload_n hC dL_law_948 rfl (jrf_ref _) ?_
  refine j_callSH hC ks_L_176 (0, 9, 12, 13) [] rfl dL_law_949 (w_template (q := ((g (p + 1)))) hs9 hcJ hol) rfl rfl (by decide) (by omega) (by omega) (Nat.le_of_ble_eq_true rfl) (fun v9 M1 h9 => ?_)
  obtain ⟨rfl, hlt9, ⟨g1, hg1, hg2⟩, hW⟩ := h9
  have hI1 := lh_o hF hcI hol hod hor hoz hA hW ⟨g1, hg1⟩
  obtain ⟨Z1, v1, hcI1, hol1, hod1, hor1, hoz1, hA1⟩ := id hI1
  have ho1 : M1.1 o = some (.inr (14, rF o R)) := hor1 0 (by decide)
  refine j_istore_6 hC dL_law_952 (by decide) rfl ?_
  refine j_aload_n hC dL_law_954 rfl (jrf_ref _) ?_
  refine j_aload_n hC dL_law_955 rfl (jrf_ref _) ?_
  refine j_iload hC dL_law_956 rfl ?_
  refine j_iconst (v := nI 1) hC dL_law_958 (by decide) ?_
  refine n_iadd hC dL_law_959 ?_
  refine c_iald (i := p + 1) (x := (g (p + 1))) hC dL_law_960 (hA1) (by omega) (by omega) (rfl) ?_
  have hcon := o_X10_template (w := ((g (p + 1)))) R (S, P, V, b, e, u) hri (jCG C) o M1 hs9 hBo
  rw [rM_self hor1] at hcon
  refine c_Pv (kc := (614 * (m + 1) - 1)) (ks := (11457 * (m + 1) - 6)) hC kv_L_178 dL_law_961 hcon ho1 rfl rfl rfl rfl (by decide) (Nat.le_of_ble_eq_true rfl) ?_
  intro v9 M2 h9
  obtain ⟨R2, ⟨rfl, hr0, hri2⟩, hM2⟩ := h9
  have hI2 := lh_ref hF hI1 hM2
  obtain ⟨Z2, v2, hcI2, hol2, hod2, hor2, hoz2, hA2⟩ := id hI2
  have ho2 : M2.1 o = some (.inr (14, rF o R2)) := hor2 0 (by decide)
  have hl2 : M2.1 ol = _ := (by rw [hM2]; exact rM_out (by have := hF.2.2; omega) : M2.1 ol = M1.1 ol).trans hg1
  refine j_istore_7 hC dL_law_964 (by decide) rfl ?_
  refine j_aload_n hC dL_law_966 rfl (jrf_ref _) ?_
  refine c_V hC kv_L_138 dL_law_967 (m_X10_thrown hs9 ho2) ho2 rfl rfl rfl rfl (by decide) (Nat.le_of_ble_eq_true rfl) ?_
  refine j_iload hC dL_law_970 rfl ?_
  refine j_icmp_eq (tgt := 977) hC dL_law_972 (by decide) (fun c1 => ?_) (fun c1 => ?_)
  · refine j_iload hC dL_law_977 rfl ?_
    refine n_if_ne (tgt := 994) hC dL_law_979 (by decide) (by omega) (fun c2 => ?_) (fun c2 => ?_)
    · refine j_goto (tgt := 2148) hC dL_law_994 (by decide) ?_
      exact j_L (jle_s (jle_s (jle_s (jle_s (jle_s (jle_s (jle_n (jle_n (jle_s (jle_0)))))))))) (j_less (by omega) (by omega) (kk _ _ ⟨R2, hI2, hri2⟩))
    · refine j_aload_n hC dL_law_982 rfl (jrf_ref _) ?_
      refine j_iconst (v := nI 0) hC dL_law_983 (by decide) ?_
      refine j_lald hC dL_law_984 hl2 (vp_in_nI (by decide) (by decide)) ?_
      refine j_topV (v' := .long (cvL (opTemplate ((g (p + 1))) (S, P, V, b, e, u)).2.1)) (congrArg Value.long (by rw [nI_clamp (by decide)]; exact hg2 (by assumption))) ?_
      refine j_iload hC dL_law_985 rfl ?_
      refine j_i2l hC dL_law_987 ?_
      refine j_lcmp hC dL_law_988 ?_
      refine j_topV (v' := .int 0) (congrArg Value.int (lg_self)) ?_
      refine j_if_eq (tgt := 994) hC dL_law_989 (by decide) (fun c3 => ?_) (fun c3 => ?_)
      · refine j_goto (tgt := 2148) hC dL_law_994 (by decide) ?_
        exact j_L (jle_s (jle_s (jle_s (jle_s (jle_s (jle_s (jle_n (jle_n (jle_s (jle_0)))))))))) (j_less (by omega) (by omega) (kk _ _ ⟨R2, hI2, hri2⟩))
      · first | exact absurd hr0 (by assumption) | exact absurd rfl (by assumption) | exact absurd hc9 (by assumption) | contradiction
  · first | exact absurd hr0 (by assumption) | exact absurd rfl (by assumption) | exact absurd hc9 (by assumption) | contradiction
set_option maxHeartbeats 4000000 in
set_option maxRecDepth 100000 in
theorem lc_item {C : jC} {Q : Option Value → jM → Prop} {X : String → jM → Prop} (hC9 : jOK jL_law 20 C Q X) {M : jM} {a n p m c o ol od : Nat} {g : Nat → Int32} {T : aSt} (hF : LF (jCG C) a c o ol od n) (h : LI (jCG C) M a n g c o ol od T) (hp : p + 4 ≤ n) (kk : ∀ M2 T2, LI (jCG C) M2 a n g c o ol od T2 → J C M2 (614 * m) (11457 * m) 2148 [some (.ref (a)), some (.ref (c)), some (.ref (o)), some (.ref (ol)), some (.ref (od)), some (.int (nI (p))), none, none, none] []) : J C M (614 * (m + 1)) (11457 * (m + 1)) 997 [some (.ref (a)), some (.ref (c)), some (.ref (o)), some (.ref (ol)), some (.ref (od)), some (.int (nI (p))), none, none, none] [] := by
  have hC := hC9.z
  have hs9 := jOK0_tr hC
  obtain ⟨S, P, V, b, e, u⟩ := T
  obtain ⟨R, hI, hri⟩ := h
  obtain ⟨Z, v, hcI, hol, hod, hor, hoz, hA⟩ := id hI
  have hcJ : cJ (jCG C) M Z c v S P V b e u := hcI
  have hn20 : n < 20000 := hF.2.2.2.2.2
  have hBo : gB (jCG C) ≤ o := by have h1 := hF.2.1; have h2 := hF.2.2.2.2.1; omega
  refine j_aload_n hC dL_law_997 rfl (jrf_ref _) ?_
  refine j_aload_n hC dL_law_998 rfl (jrf_ref _) ?_
  refine j_iload hC dL_law_999 rfl ?_
  refine j_iconst (v := nI 1) hC dL_law_1001 (by decide) ?_
  refine n_iadd hC dL_law_1002 ?_
  refine c_iald (i := p + 1) (x := (g (p + 1))) hC dL_law_1003 (hA) (by omega) (by omega) (rfl) ?_
  refine j_aload_n hC dL_law_1004 rfl (jrf_ref _) ?_
  refine j_iload hC dL_law_1005 rfl ?_
  refine j_iconst (v := nI 2) hC dL_law_1007 (by decide) ?_
  refine n_iadd hC dL_law_1008 ?_
  refine c_iald (i := p + 2) (x := (g (p + 2))) hC dL_law_1009 (hA) (by omega) (by omega) (rfl) ?_
  refine j_aload_n hC dL_law_1010 rfl (jrf_ref _) ?_
  refine j_callSH hC ks_L_179 (0, 10, 13, 44) [(0, 10, 17, 13)] rfl dL_law_1011 (w_item (q := ((g (p + 1)))) (r := ((g (p + 2)))) hs9 hcJ hol) rfl rfl (by decide) (by omega) (by omega) (Nat.le_of_ble_eq_true rfl) (fun v9 M1 h9 => ?_)
  obtain ⟨rfl, hlt9, ⟨g1, hg1, hg2⟩, hW⟩ := h9
  have hI1 := lh_o hF hcI hol hod hor hoz hA hW ⟨g1, hg1⟩
  obtain ⟨Z1, v1, hcI1, hol1, hod1, hor1, hoz1, hA1⟩ := id hI1
  have ho1 : M1.1 o = some (.inr (14, rF o R)) := hor1 0 (by decide)
  refine j_istore_6 hC dL_law_1014 (by decide) rfl ?_
  refine j_aload_n hC dL_law_1016 rfl (jrf_ref _) ?_
  refine j_aload_n hC dL_law_1017 rfl (jrf_ref _) ?_
  refine j_iload hC dL_law_1018 rfl ?_
  refine j_iconst (v := nI 1) hC dL_law_1020 (by decide) ?_
  refine n_iadd hC dL_law_1021 ?_
  refine c_iald (i := p + 1) (x := (g (p + 1))) hC dL_law_1022 (hA1) (by omega) (by omega) (rfl) ?_
  refine j_aload_n hC dL_law_1023 rfl (jrf_ref _) ?_
  refine j_iload hC dL_law_1024 rfl ?_
  refine j_iconst (v := nI 2) hC dL_law_1026 (by decide) ?_
  refine n_iadd hC dL_law_1027 ?_
  refine c_iald (i := p + 2) (x := (g (p + 2))) hC dL_law_1028 (hA1) (by omega) (by omega) (rfl) ?_
  have hcon := o_X10_item_ (i := ((g (p + 1)))) (w := ((g (p + 2)))) R (S, P, V, b, e, u) hri (jCG C) o M1 hs9 hBo
  rw [rM_self hor1] at hcon
  refine c_Pv (kc := (614 * (m + 1) - 2)) (ks := (11457 * (m + 1) - 12)) hC kv_L_181 dL_law_1029 hcon ho1 rfl rfl rfl rfl (by decide) (Nat.le_of_ble_eq_true rfl) ?_
  intro v9 M2 h9
  obtain ⟨R2, ⟨rfl, hr0, hri2⟩, hM2⟩ := h9
  have hI2 := lh_ref hF hI1 hM2
  obtain ⟨Z2, v2, hcI2, hol2, hod2, hor2, hoz2, hA2⟩ := id hI2
  have ho2 : M2.1 o = some (.inr (14, rF o R2)) := hor2 0 (by decide)
  have hl2 : M2.1 ol = _ := (by rw [hM2]; exact rM_out (by have := hF.2.2; omega) : M2.1 ol = M1.1 ol).trans hg1
  refine j_istore_7 hC dL_law_1032 (by decide) rfl ?_
  refine j_aload_n hC dL_law_1034 rfl (jrf_ref _) ?_
  refine c_V hC kv_L_138 dL_law_1035 (m_X10_thrown hs9 ho2) ho2 rfl rfl rfl rfl (by decide) (Nat.le_of_ble_eq_true rfl) ?_
  refine j_iload hC dL_law_1038 rfl ?_
  refine j_icmp_eq (tgt := 1045) hC dL_law_1040 (by decide) (fun c1 => ?_) (fun c1 => ?_)
  · refine j_iload hC dL_law_1045 rfl ?_
    refine n_if_ne (tgt := 1062) hC dL_law_1047 (by decide) (by omega) (fun c2 => ?_) (fun c2 => ?_)
    · refine j_goto (tgt := 2148) hC dL_law_1062 (by decide) ?_
      exact j_L (jle_s (jle_s (jle_s (jle_s (jle_s (jle_s (jle_n (jle_n (jle_s (jle_0)))))))))) (j_less (by omega) (by omega) (kk _ _ ⟨R2, hI2, hri2⟩))
    · refine j_aload_n hC dL_law_1050 rfl (jrf_ref _) ?_
      refine j_iconst (v := nI 0) hC dL_law_1051 (by decide) ?_
      refine j_lald hC dL_law_1052 hl2 (vp_in_nI (by decide) (by decide)) ?_
      refine j_topV (v' := .long (cvL (opItem ((g (p + 1))) ((g (p + 2))) (S, P, V, b, e, u)).2.1)) (congrArg Value.long (by rw [nI_clamp (by decide)]; exact hg2 (by assumption))) ?_
      refine j_iload hC dL_law_1053 rfl ?_
      refine j_i2l hC dL_law_1055 ?_
      refine j_lcmp hC dL_law_1056 ?_
      refine j_topV (v' := .int 0) (congrArg Value.int (lg_self)) ?_
      refine j_if_eq (tgt := 1062) hC dL_law_1057 (by decide) (fun c3 => ?_) (fun c3 => ?_)
      · refine j_goto (tgt := 2148) hC dL_law_1062 (by decide) ?_
        exact j_L (jle_s (jle_s (jle_s (jle_s (jle_s (jle_s (jle_n (jle_n (jle_s (jle_0)))))))))) (j_less (by omega) (by omega) (kk _ _ ⟨R2, hI2, hri2⟩))
      · first | exact absurd hr0 (by assumption) | exact absurd rfl (by assumption) | exact absurd hc9 (by assumption) | contradiction
  · first | exact absurd hr0 (by assumption) | exact absurd rfl (by assumption) | exact absurd hc9 (by assumption) | contradiction
set_option maxHeartbeats 4000000 in
set_option maxRecDepth 100000 in
theorem lc_counts {C : jC} {Q : Option Value → jM → Prop} {X : String → jM → Prop} (hC9 : jOK jL_law 20 C Q X) {M : jM} {a n p m c o ol od : Nat} {g : Nat → Int32} {T : aSt} (hF : LF (jCG C) a c o ol od n) (h : LI (jCG C) M a n g c o ol od T) (hp : p + 4 ≤ n) (kk : ∀ M2 T2, LI (jCG C) M2 a n g c o ol od T2 → J C M2 (614 * m) (11457 * m) 2148 [some (.ref (a)), some (.ref (c)), some (.ref (o)), some (.ref (ol)), some (.ref (od)), some (.int (nI (p))), none, none, none] []) : J C M (614 * (m + 1)) (11457 * (m + 1)) 1065 [some (.ref (a)), some (.ref (c)), some (.ref (o)), some (.ref (ol)), some (.ref (od)), some (.int (nI (p))), none, none, none] [] := by
  have hC := hC9.z
  have hs9 := jOK0_tr hC
  obtain ⟨S, P, V, b, e, u⟩ := T
  obtain ⟨R, hI, hri⟩ := h
  obtain ⟨Z, v, hcI, hol, hod, hor, hoz, hA⟩ := id hI
  have hcJ : cJ (jCG C) M Z c v S P V b e u := hcI
  have hn20 : n < 20000 := hF.2.2.2.2.2
  have hBo : gB (jCG C) ≤ o := by have h1 := hF.2.1; have h2 := hF.2.2.2.2.1; omega
  refine j_aload_n hC dL_law_1065 rfl (jrf_ref _) ?_
  refine j_aload_n hC dL_law_1066 rfl (jrf_ref _) ?_
  refine j_iload hC dL_law_1067 rfl ?_
  refine j_iconst (v := nI 1) hC dL_law_1069 (by decide) ?_
  refine n_iadd hC dL_law_1070 ?_
  refine c_iald (i := p + 1) (x := (g (p + 1))) hC dL_law_1071 (hA) (by omega) (by omega) (rfl) ?_
  refine j_aload_n hC dL_law_1072 rfl (jrf_ref _) ?_
  refine j_iload hC dL_law_1073 rfl ?_
  refine j_iconst (v := nI 2) hC dL_law_1075 (by decide) ?_
  refine n_iadd hC dL_law_1076 ?_
  refine c_iald (i := p + 2) (x := (g (p + 2))) hC dL_law_1077 (hA) (by omega) (by omega) (rfl) ?_
  refine j_aload_n hC dL_law_1078 rfl (jrf_ref _) ?_
  refine j_callSH hC ks_L_182 (0, 17, 20, 24) [(0, 17, 24, 44)] rfl dL_law_1079 (w_counts (q := ((g (p + 1)))) (r := ((g (p + 2)))) hs9 hcJ hol) rfl rfl (by decide) (by omega) (by omega) (Nat.le_of_ble_eq_true rfl) (fun v9 M1 h9 => ?_)
  obtain ⟨rfl, hlt9, ⟨g1, hg1, hg2⟩, hW⟩ := h9
  have hI1 := lh_o hF hcI hol hod hor hoz hA hW ⟨g1, hg1⟩
  obtain ⟨Z1, v1, hcI1, hol1, hod1, hor1, hoz1, hA1⟩ := id hI1
  have ho1 : M1.1 o = some (.inr (14, rF o R)) := hor1 0 (by decide)
  refine j_istore_6 hC dL_law_1082 (by decide) rfl ?_
  refine j_aload_n hC dL_law_1084 rfl (jrf_ref _) ?_
  refine j_aload_n hC dL_law_1085 rfl (jrf_ref _) ?_
  refine j_iload hC dL_law_1086 rfl ?_
  refine j_iconst (v := nI 1) hC dL_law_1088 (by decide) ?_
  refine n_iadd hC dL_law_1089 ?_
  refine c_iald (i := p + 1) (x := (g (p + 1))) hC dL_law_1090 (hA1) (by omega) (by omega) (rfl) ?_
  refine j_aload_n hC dL_law_1091 rfl (jrf_ref _) ?_
  refine j_iload hC dL_law_1092 rfl ?_
  refine j_iconst (v := nI 2) hC dL_law_1094 (by decide) ?_
  refine n_iadd hC dL_law_1095 ?_
  refine c_iald (i := p + 2) (x := (g (p + 2))) hC dL_law_1096 (hA1) (by omega) (by omega) (rfl) ?_
  have hcon := o_X10_counts (r := ((g (p + 1)))) (i := ((g (p + 2)))) R (S, P, V, b, e, u) hri (jCG C) o M1 hs9 hBo
  rw [rM_self hor1] at hcon
  refine c_Pv (kc := (614 * (m + 1) - 2)) (ks := (11457 * (m + 1) - 12)) hC kv_L_184 dL_law_1097 hcon ho1 rfl rfl rfl rfl (by decide) (Nat.le_of_ble_eq_true rfl) ?_
  intro v9 M2 h9
  obtain ⟨R2, ⟨rfl, hr0, hri2⟩, hM2⟩ := h9
  have hI2 := lh_ref hF hI1 hM2
  obtain ⟨Z2, v2, hcI2, hol2, hod2, hor2, hoz2, hA2⟩ := id hI2
  have ho2 : M2.1 o = some (.inr (14, rF o R2)) := hor2 0 (by decide)
  have hl2 : M2.1 ol = _ := (by rw [hM2]; exact rM_out (by have := hF.2.2; omega) : M2.1 ol = M1.1 ol).trans hg1
  refine j_istore_7 hC dL_law_1100 (by decide) rfl ?_
  refine j_aload_n hC dL_law_1102 rfl (jrf_ref _) ?_
  refine c_V hC kv_L_138 dL_law_1103 (m_X10_thrown hs9 ho2) ho2 rfl rfl rfl rfl (by decide) (Nat.le_of_ble_eq_true rfl) ?_
  refine j_iload hC dL_law_1106 rfl ?_
  refine j_icmp_eq (tgt := 1113) hC dL_law_1108 (by decide) (fun c1 => ?_) (fun c1 => ?_)
  · refine j_iload hC dL_law_1113 rfl ?_
    refine n_if_ne (tgt := 1137) hC dL_law_1115 (by decide) (by omega) (fun c2 => ?_) (fun c2 => ?_)
    · refine j_goto (tgt := 2148) hC dL_law_1137 (by decide) ?_
      exact j_L (jle_s (jle_s (jle_s (jle_s (jle_s (jle_s (jle_n (jle_n (jle_s (jle_0)))))))))) (j_less (by omega) (by omega) (kk _ _ ⟨R2, hI2, hri2⟩))
    · refine j_aload_n hC dL_law_1118 rfl (jrf_ref _) ?_
      refine j_iconst (v := nI 0) hC dL_law_1119 (by decide) ?_
      refine j_lald hC dL_law_1120 hl2 (vp_in_nI (by decide) (by decide)) ?_
      refine j_topV (v' := .long (cvB (opCounts ((g (p + 1))) ((g (p + 2))) (S, P, V, b, e, u)).2.1)) (congrArg Value.long (by rw [nI_clamp (by decide)]; exact hg2 (by assumption))) ?_
      refine j_iload hC dL_law_1121 rfl ?_
      refine j_if_eq (tgt := 1130) hC dL_law_1123 (by decide) (fun c3 => ?_) (fun c3 => ?_)
      · refine j_lconst (n := 0) (v := 0) hC dL_law_1130 rfl ?_
        refine j_lcmp hC dL_law_1131 ?_
        refine j_topV (v' := .int 0) (congrArg Value.int (by rw [cvB, if_pos (by assumption)]; exact lg_self)) ?_
        refine j_if_eq (tgt := 1137) hC dL_law_1132 (by decide) (fun c4 => ?_) (fun c4 => ?_)
        · refine j_goto (tgt := 2148) hC dL_law_1137 (by decide) ?_
          exact j_L (jle_s (jle_s (jle_s (jle_s (jle_s (jle_s (jle_n (jle_n (jle_s (jle_0)))))))))) (j_less (by omega) (by omega) (kk _ _ ⟨R2, hI2, hri2⟩))
        · first | exact absurd hr0 (by assumption) | exact absurd rfl (by assumption) | exact absurd hc9 (by assumption) | contradiction
      · refine j_lconst (n := 1) (v := 1) hC dL_law_1126 rfl ?_
        refine j_goto (tgt := 1131) hC dL_law_1127 (by decide) ?_
        refine j_lcmp hC dL_law_1131 ?_
        refine j_topV (v' := .int 0) (congrArg Value.int (by rw [cvB, if_neg (by assumption)]; exact lg_self)) ?_
        refine j_if_eq (tgt := 1137) hC dL_law_1132 (by decide) (fun c5 => ?_) (fun c5 => ?_)
        · refine j_goto (tgt := 2148) hC dL_law_1137 (by decide) ?_
          exact j_L (jle_s (jle_s (jle_s (jle_s (jle_s (jle_s (jle_n (jle_n (jle_s (jle_0)))))))))) (j_less (by omega) (by omega) (kk _ _ ⟨R2, hI2, hri2⟩))
        · first | exact absurd hr0 (by assumption) | exact absurd rfl (by assumption) | exact absurd hc9 (by assumption) | contradiction
  · first | exact absurd hr0 (by assumption) | exact absurd rfl (by assumption) | exact absurd hc9 (by assumption) | contradiction
set_option maxHeartbeats 4000000 in
set_option maxRecDepth 100000 in
theorem lc_setHome {C : jC} {Q : Option Value → jM → Prop} {X : String → jM → Prop} (hC9 : jOK jL_law 20 C Q X) {M : jM} {a n p m c o ol od : Nat} {g : Nat → Int32} {T : aSt} (hF : LF (jCG C) a c o ol od n) (h : LI (jCG C) M a n g c o ol od T) (hp : p + 4 ≤ n) (kk : ∀ M2 T2, LI (jCG C) M2 a n g c o ol od T2 → J C M2 (614 * m) (11457 * m) 2148 [some (.ref (a)), some (.ref (c)), some (.ref (o)), some (.ref (ol)), some (.ref (od)), some (.int (nI (p))), none, none, none] []) : J C M (614 * (m + 1)) (11457 * (m + 1)) 1140 [some (.ref (a)), some (.ref (c)), some (.ref (o)), some (.ref (ol)), some (.ref (od)), some (.int (nI (p))), none, none, none] [] := by
  have hC := hC9.z
  have hs9 := jOK0_tr hC
  obtain ⟨S, P, V, b, e, u⟩ := T
  obtain ⟨R, hI, hri⟩ := h
  obtain ⟨Z, v, hcI, hol, hod, hor, hoz, hA⟩ := id hI
  have hcJ : cJ (jCG C) M Z c v S P V b e u := hcI
  have hn20 : n < 20000 := hF.2.2.2.2.2
  have hBo : gB (jCG C) ≤ o := by have h1 := hF.2.1; have h2 := hF.2.2.2.2.1; omega
  refine j_aload_n hC dL_law_1140 rfl (jrf_ref _) ?_
  refine j_aload_n hC dL_law_1141 rfl (jrf_ref _) ?_
  refine j_callSH hC ks_L_185 (0, 8, 11, 13) [] rfl dL_law_1142 (w_setHome hs9 hcJ hol) rfl rfl (by decide) (by omega) (by omega) (Nat.le_of_ble_eq_true rfl) (fun v9 M1 h9 => ?_)
  obtain ⟨rfl, hlt9, ⟨g1, hg1, hg2⟩, hW⟩ := h9
  have hI1 := lh_o hF hcI hol hod hor hoz hA hW ⟨g1, hg1⟩
  obtain ⟨Z1, v1, hcI1, hol1, hod1, hor1, hoz1, hA1⟩ := id hI1
  have ho1 : M1.1 o = some (.inr (14, rF o R)) := hor1 0 (by decide)
  refine j_istore_6 hC dL_law_1145 (by decide) rfl ?_
  refine j_aload_n hC dL_law_1147 rfl (jrf_ref _) ?_
  have hcon := o_X10_setHome R (S, P, V, b, e, u) hri (jCG C) o M1 hs9 hBo
  rw [rM_self hor1] at hcon
  refine c_Pv (kc := (614 * (m + 1) - 3)) (ks := (11457 * (m + 1) - 131)) hC kv_L_187 dL_law_1148 hcon ho1 rfl rfl rfl rfl (by decide) (Nat.le_of_ble_eq_true rfl) ?_
  intro v9 M2 h9
  obtain ⟨R2, ⟨rfl, hr0, hri2⟩, hM2⟩ := h9
  have hI2 := lh_ref hF hI1 hM2
  obtain ⟨Z2, v2, hcI2, hol2, hod2, hor2, hoz2, hA2⟩ := id hI2
  have ho2 : M2.1 o = some (.inr (14, rF o R2)) := hor2 0 (by decide)
  have hl2 : M2.1 ol = _ := (by rw [hM2]; exact rM_out (by have := hF.2.2; omega) : M2.1 ol = M1.1 ol).trans hg1
  refine j_istore_7 hC dL_law_1151 (by decide) rfl ?_
  refine j_aload_n hC dL_law_1153 rfl (jrf_ref _) ?_
  refine c_V hC kv_L_138 dL_law_1154 (m_X10_thrown hs9 ho2) ho2 rfl rfl rfl rfl (by decide) (Nat.le_of_ble_eq_true rfl) ?_
  refine j_iload hC dL_law_1157 rfl ?_
  refine j_icmp_eq (tgt := 1164) hC dL_law_1159 (by decide) (fun c1 => ?_) (fun c1 => ?_)
  · refine j_iload hC dL_law_1164 rfl ?_
    refine n_if_ne (tgt := 1181) hC dL_law_1166 (by decide) (by omega) (fun c2 => ?_) (fun c2 => ?_)
    · refine j_goto (tgt := 2148) hC dL_law_1181 (by decide) ?_
      exact j_L (jle_s (jle_s (jle_s (jle_s (jle_s (jle_s (jle_n (jle_n (jle_s (jle_0)))))))))) (j_less (by omega) (by omega) (kk _ _ ⟨R2, hI2, hri2⟩))
    · refine j_aload_n hC dL_law_1169 rfl (jrf_ref _) ?_
      refine j_iconst (v := nI 0) hC dL_law_1170 (by decide) ?_
      refine j_lald hC dL_law_1171 hl2 (vp_in_nI (by decide) (by decide)) ?_
      refine j_topV (v' := .long (cvL (opHome (S, P, V, b, e, u)).2.1)) (congrArg Value.long (by rw [nI_clamp (by decide)]; exact hg2 (by assumption))) ?_
      refine j_iload hC dL_law_1172 rfl ?_
      refine j_i2l hC dL_law_1174 ?_
      refine j_lcmp hC dL_law_1175 ?_
      refine j_topV (v' := .int 0) (congrArg Value.int (lg_self)) ?_
      refine j_if_eq (tgt := 1181) hC dL_law_1176 (by decide) (fun c3 => ?_) (fun c3 => ?_)
      · refine j_goto (tgt := 2148) hC dL_law_1181 (by decide) ?_
        exact j_L (jle_s (jle_s (jle_s (jle_s (jle_s (jle_s (jle_n (jle_n (jle_s (jle_0)))))))))) (j_less (by omega) (by omega) (kk _ _ ⟨R2, hI2, hri2⟩))
      · first | exact absurd hr0 (by assumption) | exact absurd rfl (by assumption) | exact absurd hc9 (by assumption) | contradiction
  · first | exact absurd hr0 (by assumption) | exact absurd rfl (by assumption) | exact absurd hc9 (by assumption) | contradiction
set_option maxHeartbeats 4000000 in
set_option maxRecDepth 100000 in
theorem lc_setKeys {C : jC} {Q : Option Value → jM → Prop} {X : String → jM → Prop} (hC9 : jOK jL_law 20 C Q X) {M : jM} {a n p m c o ol od : Nat} {g : Nat → Int32} {T : aSt} (hF : LF (jCG C) a c o ol od n) (h : LI (jCG C) M a n g c o ol od T) (hp : p + 4 ≤ n) (kk : ∀ M2 T2, LI (jCG C) M2 a n g c o ol od T2 → J C M2 (614 * m) (11457 * m) 2148 [some (.ref (a)), some (.ref (c)), some (.ref (o)), some (.ref (ol)), some (.ref (od)), some (.int (nI (p))), none, none, none] []) : J C M (614 * (m + 1)) (11457 * (m + 1)) 1184 [some (.ref (a)), some (.ref (c)), some (.ref (o)), some (.ref (ol)), some (.ref (od)), some (.int (nI (p))), none, none, none] [] := by
  have hC := hC9.z
  have hs9 := jOK0_tr hC
  obtain ⟨S, P, V, b, e, u⟩ := T
  obtain ⟨R, hI, hri⟩ := h
  obtain ⟨Z, v, hcI, hol, hod, hor, hoz, hA⟩ := id hI
  have hcJ : cJ (jCG C) M Z c v S P V b e u := hcI
  have hn20 : n < 20000 := hF.2.2.2.2.2
  have hBo : gB (jCG C) ≤ o := by have h1 := hF.2.1; have h2 := hF.2.2.2.2.1; omega
  refine j_aload_n hC dL_law_1184 rfl (jrf_ref _) ?_
  refine j_aload_n hC dL_law_1185 rfl (jrf_ref _) ?_
  refine j_iload hC dL_law_1186 rfl ?_
  refine j_iconst (v := nI 1) hC dL_law_1188 (by decide) ?_
  refine n_iadd hC dL_law_1189 ?_
  refine c_iald (i := p + 1) (x := (g (p + 1))) hC dL_law_1190 (hA) (by omega) (by omega) (rfl) ?_
  refine j_aload_n hC dL_law_1191 rfl (jrf_ref _) ?_
  refine j_callSH hC ks_L_188 (0, 9, 12, 13) [] rfl dL_law_1192 (w_setKeys (q := ((g (p + 1)))) hs9 hcJ hol) rfl rfl (by decide) (by omega) (by omega) (Nat.le_of_ble_eq_true rfl) (fun v9 M1 h9 => ?_)
  obtain ⟨rfl, hlt9, ⟨g1, hg1, hg2⟩, hW⟩ := h9
  have hI1 := lh_o hF hcI hol hod hor hoz hA hW ⟨g1, hg1⟩
  obtain ⟨Z1, v1, hcI1, hol1, hod1, hor1, hoz1, hA1⟩ := id hI1
  have ho1 : M1.1 o = some (.inr (14, rF o R)) := hor1 0 (by decide)
  refine j_istore_6 hC dL_law_1195 (by decide) rfl ?_
  refine j_aload_n hC dL_law_1197 rfl (jrf_ref _) ?_
  refine j_aload_n hC dL_law_1198 rfl (jrf_ref _) ?_
  refine j_iload hC dL_law_1199 rfl ?_
  refine j_iconst (v := nI 1) hC dL_law_1201 (by decide) ?_
  refine n_iadd hC dL_law_1202 ?_
  refine c_iald (i := p + 1) (x := (g (p + 1))) hC dL_law_1203 (hA1) (by omega) (by omega) (rfl) ?_
  have hcon := o_X10_setKeys (v := ((g (p + 1)))) R (S, P, V, b, e, u) hri (jCG C) o M1 hs9 hBo
  rw [rM_self hor1] at hcon
  refine c_Pv (kc := (614 * (m + 1) - 1)) (ks := (11457 * (m + 1) - 6)) hC kv_L_190 dL_law_1204 hcon ho1 rfl rfl rfl rfl (by decide) (Nat.le_of_ble_eq_true rfl) ?_
  intro v9 M2 h9
  obtain ⟨R2, ⟨rfl, hr0, hri2⟩, hM2⟩ := h9
  have hI2 := lh_ref hF hI1 hM2
  obtain ⟨Z2, v2, hcI2, hol2, hod2, hor2, hoz2, hA2⟩ := id hI2
  have ho2 : M2.1 o = some (.inr (14, rF o R2)) := hor2 0 (by decide)
  have hl2 : M2.1 ol = _ := (by rw [hM2]; exact rM_out (by have := hF.2.2; omega) : M2.1 ol = M1.1 ol).trans hg1
  refine j_istore_7 hC dL_law_1207 (by decide) rfl ?_
  refine j_aload_n hC dL_law_1209 rfl (jrf_ref _) ?_
  refine c_V hC kv_L_138 dL_law_1210 (m_X10_thrown hs9 ho2) ho2 rfl rfl rfl rfl (by decide) (Nat.le_of_ble_eq_true rfl) ?_
  refine j_iload hC dL_law_1213 rfl ?_
  refine j_icmp_eq (tgt := 1220) hC dL_law_1215 (by decide) (fun c1 => ?_) (fun c1 => ?_)
  · refine j_iload hC dL_law_1220 rfl ?_
    refine n_if_ne (tgt := 1237) hC dL_law_1222 (by decide) (by omega) (fun c2 => ?_) (fun c2 => ?_)
    · refine j_goto (tgt := 2148) hC dL_law_1237 (by decide) ?_
      exact j_L (jle_s (jle_s (jle_s (jle_s (jle_s (jle_s (jle_n (jle_n (jle_s (jle_0)))))))))) (j_less (by omega) (by omega) (kk _ _ ⟨R2, hI2, hri2⟩))
    · refine j_aload_n hC dL_law_1225 rfl (jrf_ref _) ?_
      refine j_iconst (v := nI 0) hC dL_law_1226 (by decide) ?_
      refine j_lald hC dL_law_1227 hl2 (vp_in_nI (by decide) (by decide)) ?_
      refine j_topV (v' := .long (cvL (opSets 1 0 31 ((g (p + 1))) (S, P, V, b, e, u)).2.1)) (congrArg Value.long (by rw [nI_clamp (by decide)]; exact hg2 (by assumption))) ?_
      refine j_iload hC dL_law_1228 rfl ?_
      refine j_i2l hC dL_law_1230 ?_
      refine j_lcmp hC dL_law_1231 ?_
      refine j_topV (v' := .int 0) (congrArg Value.int (lg_self)) ?_
      refine j_if_eq (tgt := 1237) hC dL_law_1232 (by decide) (fun c3 => ?_) (fun c3 => ?_)
      · refine j_goto (tgt := 2148) hC dL_law_1237 (by decide) ?_
        exact j_L (jle_s (jle_s (jle_s (jle_s (jle_s (jle_s (jle_n (jle_n (jle_s (jle_0)))))))))) (j_less (by omega) (by omega) (kk _ _ ⟨R2, hI2, hri2⟩))
      · first | exact absurd hr0 (by assumption) | exact absurd rfl (by assumption) | exact absurd hc9 (by assumption) | contradiction
  · first | exact absurd hr0 (by assumption) | exact absurd rfl (by assumption) | exact absurd hc9 (by assumption) | contradiction
set_option maxHeartbeats 4000000 in
set_option maxRecDepth 100000 in
theorem lc_setPolicy {C : jC} {Q : Option Value → jM → Prop} {X : String → jM → Prop} (hC9 : jOK jL_law 20 C Q X) {M : jM} {a n p m c o ol od : Nat} {g : Nat → Int32} {T : aSt} (hF : LF (jCG C) a c o ol od n) (h : LI (jCG C) M a n g c o ol od T) (hp : p + 4 ≤ n) (kk : ∀ M2 T2, LI (jCG C) M2 a n g c o ol od T2 → J C M2 (614 * m) (11457 * m) 2148 [some (.ref (a)), some (.ref (c)), some (.ref (o)), some (.ref (ol)), some (.ref (od)), some (.int (nI (p))), none, none, none] []) : J C M (614 * (m + 1)) (11457 * (m + 1)) 1240 [some (.ref (a)), some (.ref (c)), some (.ref (o)), some (.ref (ol)), some (.ref (od)), some (.int (nI (p))), none, none, none] [] := by
  have hC := hC9.z
  have hs9 := jOK0_tr hC
  obtain ⟨S, P, V, b, e, u⟩ := T
  obtain ⟨R, hI, hri⟩ := h
  obtain ⟨Z, v, hcI, hol, hod, hor, hoz, hA⟩ := id hI
  have hcJ : cJ (jCG C) M Z c v S P V b e u := hcI
  have hn20 : n < 20000 := hF.2.2.2.2.2
  have hBo : gB (jCG C) ≤ o := by have h1 := hF.2.1; have h2 := hF.2.2.2.2.1; omega
  refine j_aload_n hC dL_law_1240 rfl (jrf_ref _) ?_
  refine j_aload_n hC dL_law_1241 rfl (jrf_ref _) ?_
  refine j_iload hC dL_law_1242 rfl ?_
  refine j_iconst (v := nI 1) hC dL_law_1244 (by decide) ?_
  refine n_iadd hC dL_law_1245 ?_
  refine c_iald (i := p + 1) (x := (g (p + 1))) hC dL_law_1246 (hA) (by omega) (by omega) (rfl) ?_
  refine j_aload_n hC dL_law_1247 rfl (jrf_ref _) ?_
  refine j_callSH hC ks_L_191 (0, 9, 12, 13) [] rfl dL_law_1248 (w_setPolicy (q := ((g (p + 1)))) hs9 hcJ hol) rfl rfl (by decide) (by omega) (by omega) (Nat.le_of_ble_eq_true rfl) (fun v9 M1 h9 => ?_)
  obtain ⟨rfl, hlt9, ⟨g1, hg1, hg2⟩, hW⟩ := h9
  have hI1 := lh_o hF hcI hol hod hor hoz hA hW ⟨g1, hg1⟩
  obtain ⟨Z1, v1, hcI1, hol1, hod1, hor1, hoz1, hA1⟩ := id hI1
  have ho1 : M1.1 o = some (.inr (14, rF o R)) := hor1 0 (by decide)
  refine j_istore_6 hC dL_law_1251 (by decide) rfl ?_
  refine j_aload_n hC dL_law_1253 rfl (jrf_ref _) ?_
  refine j_aload_n hC dL_law_1254 rfl (jrf_ref _) ?_
  refine j_iload hC dL_law_1255 rfl ?_
  refine j_iconst (v := nI 1) hC dL_law_1257 (by decide) ?_
  refine n_iadd hC dL_law_1258 ?_
  refine c_iald (i := p + 1) (x := (g (p + 1))) hC dL_law_1259 (hA1) (by omega) (by omega) (rfl) ?_
  have hcon := o_X10_setPolicy (v := ((g (p + 1)))) R (S, P, V, b, e, u) hri (jCG C) o M1 hs9 hBo
  rw [rM_self hor1] at hcon
  refine c_Pv (kc := (614 * (m + 1) - 1)) (ks := (11457 * (m + 1) - 6)) hC kv_L_193 dL_law_1260 hcon ho1 rfl rfl rfl rfl (by decide) (Nat.le_of_ble_eq_true rfl) ?_
  intro v9 M2 h9
  obtain ⟨R2, ⟨rfl, hr0, hri2⟩, hM2⟩ := h9
  have hI2 := lh_ref hF hI1 hM2
  obtain ⟨Z2, v2, hcI2, hol2, hod2, hor2, hoz2, hA2⟩ := id hI2
  have ho2 : M2.1 o = some (.inr (14, rF o R2)) := hor2 0 (by decide)
  have hl2 : M2.1 ol = _ := (by rw [hM2]; exact rM_out (by have := hF.2.2; omega) : M2.1 ol = M1.1 ol).trans hg1
  refine j_istore_7 hC dL_law_1263 (by decide) rfl ?_
  refine j_aload_n hC dL_law_1265 rfl (jrf_ref _) ?_
  refine c_V hC kv_L_138 dL_law_1266 (m_X10_thrown hs9 ho2) ho2 rfl rfl rfl rfl (by decide) (Nat.le_of_ble_eq_true rfl) ?_
  refine j_iload hC dL_law_1269 rfl ?_
  refine j_icmp_eq (tgt := 1276) hC dL_law_1271 (by decide) (fun c1 => ?_) (fun c1 => ?_)
  · refine j_iload hC dL_law_1276 rfl ?_
    refine n_if_ne (tgt := 1293) hC dL_law_1278 (by decide) (by omega) (fun c2 => ?_) (fun c2 => ?_)
    · refine j_goto (tgt := 2148) hC dL_law_1293 (by decide) ?_
      exact j_L (jle_s (jle_s (jle_s (jle_s (jle_s (jle_s (jle_n (jle_n (jle_s (jle_0)))))))))) (j_less (by omega) (by omega) (kk _ _ ⟨R2, hI2, hri2⟩))
    · refine j_aload_n hC dL_law_1281 rfl (jrf_ref _) ?_
      refine j_iconst (v := nI 0) hC dL_law_1282 (by decide) ?_
      refine j_lald hC dL_law_1283 hl2 (vp_in_nI (by decide) (by decide)) ?_
      refine j_topV (v' := .long (cvL (opSets 2 0 2 ((g (p + 1))) (S, P, V, b, e, u)).2.1)) (congrArg Value.long (by rw [nI_clamp (by decide)]; exact hg2 (by assumption))) ?_
      refine j_iload hC dL_law_1284 rfl ?_
      refine j_i2l hC dL_law_1286 ?_
      refine j_lcmp hC dL_law_1287 ?_
      refine j_topV (v' := .int 0) (congrArg Value.int (lg_self)) ?_
      refine j_if_eq (tgt := 1293) hC dL_law_1288 (by decide) (fun c3 => ?_) (fun c3 => ?_)
      · refine j_goto (tgt := 2148) hC dL_law_1293 (by decide) ?_
        exact j_L (jle_s (jle_s (jle_s (jle_s (jle_s (jle_s (jle_n (jle_n (jle_s (jle_0)))))))))) (j_less (by omega) (by omega) (kk _ _ ⟨R2, hI2, hri2⟩))
      · first | exact absurd hr0 (by assumption) | exact absurd rfl (by assumption) | exact absurd hc9 (by assumption) | contradiction
  · first | exact absurd hr0 (by assumption) | exact absurd rfl (by assumption) | exact absurd hc9 (by assumption) | contradiction
set_option maxHeartbeats 4000000 in
set_option maxRecDepth 100000 in
theorem lc_exclude {C : jC} {Q : Option Value → jM → Prop} {X : String → jM → Prop} (hC9 : jOK jL_law 20 C Q X) {M : jM} {a n p m c o ol od : Nat} {g : Nat → Int32} {T : aSt} (hF : LF (jCG C) a c o ol od n) (h : LI (jCG C) M a n g c o ol od T) (hp : p + 4 ≤ n) (kk : ∀ M2 T2, LI (jCG C) M2 a n g c o ol od T2 → J C M2 (614 * m) (11457 * m) 2148 [some (.ref (a)), some (.ref (c)), some (.ref (o)), some (.ref (ol)), some (.ref (od)), some (.int (nI (p))), none, none, none] []) : J C M (614 * (m + 1)) (11457 * (m + 1)) 1296 [some (.ref (a)), some (.ref (c)), some (.ref (o)), some (.ref (ol)), some (.ref (od)), some (.int (nI (p))), none, none, none] [] := by
  have hC := hC9.z
  have hs9 := jOK0_tr hC
  obtain ⟨S, P, V, b, e, u⟩ := T
  obtain ⟨R, hI, hri⟩ := h
  obtain ⟨Z, v, hcI, hol, hod, hor, hoz, hA⟩ := id hI
  have hcJ : cJ (jCG C) M Z c v S P V b e u := hcI
  have hn20 : n < 20000 := hF.2.2.2.2.2
  have hBo : gB (jCG C) ≤ o := by have h1 := hF.2.1; have h2 := hF.2.2.2.2.1; omega
  refine j_aload_n hC dL_law_1296 rfl (jrf_ref _) ?_
  refine j_aload_n hC dL_law_1297 rfl (jrf_ref _) ?_
  refine j_iload hC dL_law_1298 rfl ?_
  refine j_iconst (v := nI 1) hC dL_law_1300 (by decide) ?_
  refine n_iadd hC dL_law_1301 ?_
  refine c_iald (i := p + 1) (x := (g (p + 1))) hC dL_law_1302 (hA) (by omega) (by omega) (rfl) ?_
  refine j_aload_n hC dL_law_1303 rfl (jrf_ref _) ?_
  refine j_iload hC dL_law_1304 rfl ?_
  refine j_iconst (v := nI 2) hC dL_law_1306 (by decide) ?_
  refine n_iadd hC dL_law_1307 ?_
  refine c_iald (i := p + 2) (x := (g (p + 2))) hC dL_law_1308 (hA) (by omega) (by omega) (rfl) ?_
  suffices K : J C (M) (614 * (m + 1)) (11457 * (m + 1)) 1317 [some (.ref (a)), some (.ref (c)), some (.ref (o)), some (.ref (ol)), some (.ref (od)), some (.int (nI (p))), none, none, none] [.int (jb (decide (¬ (g (p + 2)) = 0) = true)), .int ((g (p + 1))), .ref (c)] by
    refine j_if_eq (tgt := 1316) hC dL_law_1309 (by decide) (fun c1 => ?_) (fun c1 => ?_)
    · refine j_iconst (v := nI 0) hC dL_law_1316 (by decide) ?_
      exact j_top (jb_f0 (fun e9 => (of_decide_eq_true e9) (by assumption))) K
    · refine j_iconst (v := nI 1) hC dL_law_1312 (by decide) ?_
      refine j_goto (tgt := 1317) hC dL_law_1313 (by decide) ?_
      exact j_top (jb_t1 (decide_eq_true (by assumption))) K
  refine j_aload_n hC dL_law_1317 rfl (jrf_ref _) ?_
  refine j_callSH hC ks_L_194 (0, 17, 20, 24) [] rfl dL_law_1318 (w_exclude (q := ((g (p + 1)))) (r := (decide (¬ (g (p + 2)) = 0))) hs9 hcJ hol) rfl rfl (by decide) (by omega) (by omega) (Nat.le_of_ble_eq_true rfl) (fun v9 M1 h9 => ?_)
  obtain ⟨rfl, hlt9, ⟨g1, hg1, hg2⟩, hW⟩ := h9
  have hI1 := lh_o hF hcI hol hod hor hoz hA hW ⟨g1, hg1⟩
  obtain ⟨Z1, v1, hcI1, hol1, hod1, hor1, hoz1, hA1⟩ := id hI1
  have ho1 : M1.1 o = some (.inr (14, rF o R)) := hor1 0 (by decide)
  refine j_istore_6 hC dL_law_1321 (by decide) rfl ?_
  refine j_aload_n hC dL_law_1323 rfl (jrf_ref _) ?_
  refine j_aload_n hC dL_law_1324 rfl (jrf_ref _) ?_
  refine j_iload hC dL_law_1325 rfl ?_
  refine j_iconst (v := nI 1) hC dL_law_1327 (by decide) ?_
  refine n_iadd hC dL_law_1328 ?_
  refine c_iald (i := p + 1) (x := (g (p + 1))) hC dL_law_1329 (hA1) (by omega) (by omega) (rfl) ?_
  refine j_aload_n hC dL_law_1330 rfl (jrf_ref _) ?_
  refine j_iload hC dL_law_1331 rfl ?_
  refine j_iconst (v := nI 2) hC dL_law_1333 (by decide) ?_
  refine n_iadd hC dL_law_1334 ?_
  refine c_iald (i := p + 2) (x := (g (p + 2))) hC dL_law_1335 (hA1) (by omega) (by omega) (rfl) ?_
  suffices K : J C (M1) (614 * (m + 1) - 1) (11457 * (m + 1) - 6) 1344 [some (.ref (a)), some (.ref (c)), some (.ref (o)), some (.ref (ol)), some (.ref (od)), some (.int (nI (p))), some (.int (nI ((opExclude ((g (p + 1))) (decide (¬ (g (p + 2)) = 0)) (S, P, V, b, e, u)).1))), none, none] [.int (jb (decide (¬ (g (p + 2)) = 0) = true)), .int ((g (p + 1))), .ref (o)] by
    refine j_if_eq (tgt := 1343) hC dL_law_1336 (by decide) (fun c2 => ?_) (fun c2 => ?_)
    · refine j_iconst (v := nI 0) hC dL_law_1343 (by decide) ?_
      exact j_top (jb_f0 (fun e9 => (of_decide_eq_true e9) (by assumption))) K
    · refine j_iconst (v := nI 1) hC dL_law_1339 (by decide) ?_
      refine j_goto (tgt := 1344) hC dL_law_1340 (by decide) ?_
      exact j_top (jb_t1 (decide_eq_true (by assumption))) K
  have hcon := o_X10_exclude (g := ((g (p + 1)))) (c := (decide (¬ (g (p + 2)) = 0))) R (S, P, V, b, e, u) hri (jCG C) o M1 hs9 hBo
  rw [rM_self hor1] at hcon
  refine c_Pv (kc := (614 * (m + 1) - 1)) (ks := (11457 * (m + 1) - 6)) hC kv_L_196 dL_law_1344 hcon ho1 rfl rfl rfl rfl (by decide) (Nat.le_of_ble_eq_true rfl) ?_
  intro v9 M2 h9
  obtain ⟨R2, ⟨rfl, hr0, hri2⟩, hM2⟩ := h9
  have hI2 := lh_ref hF hI1 hM2
  obtain ⟨Z2, v2, hcI2, hol2, hod2, hor2, hoz2, hA2⟩ := id hI2
  have ho2 : M2.1 o = some (.inr (14, rF o R2)) := hor2 0 (by decide)
  have hl2 : M2.1 ol = _ := (by rw [hM2]; exact rM_out (by have := hF.2.2; omega) : M2.1 ol = M1.1 ol).trans hg1
  refine j_istore_7 hC dL_law_1347 (by decide) rfl ?_
  refine j_aload_n hC dL_law_1349 rfl (jrf_ref _) ?_
  refine c_V hC kv_L_138 dL_law_1350 (m_X10_thrown hs9 ho2) ho2 rfl rfl rfl rfl (by decide) (Nat.le_of_ble_eq_true rfl) ?_
  refine j_iload hC dL_law_1353 rfl ?_
  refine j_icmp_eq (tgt := 1360) hC dL_law_1355 (by decide) (fun c3 => ?_) (fun c3 => ?_)
  · refine j_iload hC dL_law_1360 rfl ?_
    refine n_if_ne (tgt := 1384) hC dL_law_1362 (by decide) (by omega) (fun c4 => ?_) (fun c4 => ?_)
    · refine j_goto (tgt := 2148) hC dL_law_1384 (by decide) ?_
      exact j_L (jle_s (jle_s (jle_s (jle_s (jle_s (jle_s (jle_n (jle_n (jle_s (jle_0)))))))))) (j_less (by omega) (by omega) (kk _ _ ⟨R2, hI2, hri2⟩))
    · refine j_aload_n hC dL_law_1365 rfl (jrf_ref _) ?_
      refine j_iconst (v := nI 0) hC dL_law_1366 (by decide) ?_
      refine j_lald hC dL_law_1367 hl2 (vp_in_nI (by decide) (by decide)) ?_
      refine j_topV (v' := .long (cvB (opExclude ((g (p + 1))) (decide (¬ (g (p + 2)) = 0)) (S, P, V, b, e, u)).2.1)) (congrArg Value.long (by rw [nI_clamp (by decide)]; exact hg2 (by assumption))) ?_
      refine j_iload hC dL_law_1368 rfl ?_
      refine j_if_eq (tgt := 1377) hC dL_law_1370 (by decide) (fun c5 => ?_) (fun c5 => ?_)
      · refine j_lconst (n := 0) (v := 0) hC dL_law_1377 rfl ?_
        refine j_lcmp hC dL_law_1378 ?_
        refine j_topV (v' := .int 0) (congrArg Value.int (by rw [cvB, if_pos (by assumption)]; exact lg_self)) ?_
        refine j_if_eq (tgt := 1384) hC dL_law_1379 (by decide) (fun c6 => ?_) (fun c6 => ?_)
        · refine j_goto (tgt := 2148) hC dL_law_1384 (by decide) ?_
          exact j_L (jle_s (jle_s (jle_s (jle_s (jle_s (jle_s (jle_n (jle_n (jle_s (jle_0)))))))))) (j_less (by omega) (by omega) (kk _ _ ⟨R2, hI2, hri2⟩))
        · first | exact absurd hr0 (by assumption) | exact absurd rfl (by assumption) | exact absurd hc9 (by assumption) | contradiction
      · refine j_lconst (n := 1) (v := 1) hC dL_law_1373 rfl ?_
        refine j_goto (tgt := 1378) hC dL_law_1374 (by decide) ?_
        refine j_lcmp hC dL_law_1378 ?_
        refine j_topV (v' := .int 0) (congrArg Value.int (by rw [cvB, if_neg (by assumption)]; exact lg_self)) ?_
        refine j_if_eq (tgt := 1384) hC dL_law_1379 (by decide) (fun c7 => ?_) (fun c7 => ?_)
        · refine j_goto (tgt := 2148) hC dL_law_1384 (by decide) ?_
          exact j_L (jle_s (jle_s (jle_s (jle_s (jle_s (jle_s (jle_n (jle_n (jle_s (jle_0)))))))))) (j_less (by omega) (by omega) (kk _ _ ⟨R2, hI2, hri2⟩))
        · first | exact absurd hr0 (by assumption) | exact absurd rfl (by assumption) | exact absurd hc9 (by assumption) | contradiction
  · first | exact absurd hr0 (by assumption) | exact absurd rfl (by assumption) | exact absurd hc9 (by assumption) | contradiction
set_option maxHeartbeats 4000000 in
set_option maxRecDepth 100000 in
theorem lc_setLimit {C : jC} {Q : Option Value → jM → Prop} {X : String → jM → Prop} (hC9 : jOK jL_law 20 C Q X) {M : jM} {a n p m c o ol od : Nat} {g : Nat → Int32} {T : aSt} (hF : LF (jCG C) a c o ol od n) (h : LI (jCG C) M a n g c o ol od T) (hp : p + 4 ≤ n) (kk : ∀ M2 T2, LI (jCG C) M2 a n g c o ol od T2 → J C M2 (614 * m) (11457 * m) 2148 [some (.ref (a)), some (.ref (c)), some (.ref (o)), some (.ref (ol)), some (.ref (od)), some (.int (nI (p))), none, none, none] []) : J C M (614 * (m + 1)) (11457 * (m + 1)) 1387 [some (.ref (a)), some (.ref (c)), some (.ref (o)), some (.ref (ol)), some (.ref (od)), some (.int (nI (p))), none, none, none] [] := by
  have hC := hC9.z
  have hs9 := jOK0_tr hC
  obtain ⟨S, P, V, b, e, u⟩ := T
  obtain ⟨R, hI, hri⟩ := h
  obtain ⟨Z, v, hcI, hol, hod, hor, hoz, hA⟩ := id hI
  have hcJ : cJ (jCG C) M Z c v S P V b e u := hcI
  have hn20 : n < 20000 := hF.2.2.2.2.2
  have hBo : gB (jCG C) ≤ o := by have h1 := hF.2.1; have h2 := hF.2.2.2.2.1; omega
  refine j_aload_n hC dL_law_1387 rfl (jrf_ref _) ?_
  refine j_aload_n hC dL_law_1388 rfl (jrf_ref _) ?_
  refine j_iload hC dL_law_1389 rfl ?_
  refine j_iconst (v := nI 1) hC dL_law_1391 (by decide) ?_
  refine n_iadd hC dL_law_1392 ?_
  refine c_iald (i := p + 1) (x := (g (p + 1))) hC dL_law_1393 (hA) (by omega) (by omega) (rfl) ?_
  refine j_aload_n hC dL_law_1394 rfl (jrf_ref _) ?_
  refine j_callSH hC ks_L_197 (0, 9, 12, 13) [] rfl dL_law_1395 (w_setLimit (q := ((g (p + 1)))) hs9 hcJ hol) rfl rfl (by decide) (by omega) (by omega) (Nat.le_of_ble_eq_true rfl) (fun v9 M1 h9 => ?_)
  obtain ⟨rfl, hlt9, ⟨g1, hg1, hg2⟩, hW⟩ := h9
  have hI1 := lh_o hF hcI hol hod hor hoz hA hW ⟨g1, hg1⟩
  obtain ⟨Z1, v1, hcI1, hol1, hod1, hor1, hoz1, hA1⟩ := id hI1
  have ho1 : M1.1 o = some (.inr (14, rF o R)) := hor1 0 (by decide)
  refine j_istore_6 hC dL_law_1398 (by decide) rfl ?_
  refine j_aload_n hC dL_law_1400 rfl (jrf_ref _) ?_
  refine j_aload_n hC dL_law_1401 rfl (jrf_ref _) ?_
  refine j_iload hC dL_law_1402 rfl ?_
  refine j_iconst (v := nI 1) hC dL_law_1404 (by decide) ?_
  refine n_iadd hC dL_law_1405 ?_
  refine c_iald (i := p + 1) (x := (g (p + 1))) hC dL_law_1406 (hA1) (by omega) (by omega) (rfl) ?_
  have hcon := o_X10_setLimit (v := ((g (p + 1)))) R (S, P, V, b, e, u) hri (jCG C) o M1 hs9 hBo
  rw [rM_self hor1] at hcon
  refine c_Pv (kc := (614 * (m + 1) - 1)) (ks := (11457 * (m + 1) - 6)) hC kv_L_199 dL_law_1407 hcon ho1 rfl rfl rfl rfl (by decide) (Nat.le_of_ble_eq_true rfl) ?_
  intro v9 M2 h9
  obtain ⟨R2, ⟨rfl, hr0, hri2⟩, hM2⟩ := h9
  have hI2 := lh_ref hF hI1 hM2
  obtain ⟨Z2, v2, hcI2, hol2, hod2, hor2, hoz2, hA2⟩ := id hI2
  have ho2 : M2.1 o = some (.inr (14, rF o R2)) := hor2 0 (by decide)
  have hl2 : M2.1 ol = _ := (by rw [hM2]; exact rM_out (by have := hF.2.2; omega) : M2.1 ol = M1.1 ol).trans hg1
  refine j_istore_7 hC dL_law_1410 (by decide) rfl ?_
  refine j_aload_n hC dL_law_1412 rfl (jrf_ref _) ?_
  refine c_V hC kv_L_138 dL_law_1413 (m_X10_thrown hs9 ho2) ho2 rfl rfl rfl rfl (by decide) (Nat.le_of_ble_eq_true rfl) ?_
  refine j_iload hC dL_law_1416 rfl ?_
  refine j_icmp_eq (tgt := 1423) hC dL_law_1418 (by decide) (fun c1 => ?_) (fun c1 => ?_)
  · refine j_iload hC dL_law_1423 rfl ?_
    refine n_if_ne (tgt := 1440) hC dL_law_1425 (by decide) (by omega) (fun c2 => ?_) (fun c2 => ?_)
    · refine j_goto (tgt := 2148) hC dL_law_1440 (by decide) ?_
      exact j_L (jle_s (jle_s (jle_s (jle_s (jle_s (jle_s (jle_n (jle_n (jle_s (jle_0)))))))))) (j_less (by omega) (by omega) (kk _ _ ⟨R2, hI2, hri2⟩))
    · refine j_aload_n hC dL_law_1428 rfl (jrf_ref _) ?_
      refine j_iconst (v := nI 0) hC dL_law_1429 (by decide) ?_
      refine j_lald hC dL_law_1430 hl2 (vp_in_nI (by decide) (by decide)) ?_
      refine j_topV (v' := .long (cvL (opSets 4 1 200 ((g (p + 1))) (S, P, V, b, e, u)).2.1)) (congrArg Value.long (by rw [nI_clamp (by decide)]; exact hg2 (by assumption))) ?_
      refine j_iload hC dL_law_1431 rfl ?_
      refine j_i2l hC dL_law_1433 ?_
      refine j_lcmp hC dL_law_1434 ?_
      refine j_topV (v' := .int 0) (congrArg Value.int (lg_self)) ?_
      refine j_if_eq (tgt := 1440) hC dL_law_1435 (by decide) (fun c3 => ?_) (fun c3 => ?_)
      · refine j_goto (tgt := 2148) hC dL_law_1440 (by decide) ?_
        exact j_L (jle_s (jle_s (jle_s (jle_s (jle_s (jle_s (jle_n (jle_n (jle_s (jle_0)))))))))) (j_less (by omega) (by omega) (kk _ _ ⟨R2, hI2, hri2⟩))
      · first | exact absurd hr0 (by assumption) | exact absurd rfl (by assumption) | exact absurd hc9 (by assumption) | contradiction
  · first | exact absurd hr0 (by assumption) | exact absurd rfl (by assumption) | exact absurd hc9 (by assumption) | contradiction
set_option maxHeartbeats 4000000 in
set_option maxRecDepth 100000 in
theorem lc_setting {C : jC} {Q : Option Value → jM → Prop} {X : String → jM → Prop} (hC9 : jOK jL_law 20 C Q X) {M : jM} {a n p m c o ol od : Nat} {g : Nat → Int32} {T : aSt} (hF : LF (jCG C) a c o ol od n) (h : LI (jCG C) M a n g c o ol od T) (hp : p + 4 ≤ n) (kk : ∀ M2 T2, LI (jCG C) M2 a n g c o ol od T2 → J C M2 (614 * m) (11457 * m) 2148 [some (.ref (a)), some (.ref (c)), some (.ref (o)), some (.ref (ol)), some (.ref (od)), some (.int (nI (p))), none, none, none] []) : J C M (614 * (m + 1)) (11457 * (m + 1)) 1443 [some (.ref (a)), some (.ref (c)), some (.ref (o)), some (.ref (ol)), some (.ref (od)), some (.int (nI (p))), none, none, none] [] := by
  have hC := hC9.z
  have hs9 := jOK0_tr hC
  obtain ⟨S, P, V, b, e, u⟩ := T
  obtain ⟨R, hI, hri⟩ := h
  obtain ⟨Z, v, hcI, hol, hod, hor, hoz, hA⟩ := id hI
  have hcJ : cJ (jCG C) M Z c v S P V b e u := hcI
  have hn20 : n < 20000 := hF.2.2.2.2.2
  have hBo : gB (jCG C) ≤ o := by have h1 := hF.2.1; have h2 := hF.2.2.2.2.1; omega
  refine j_aload_n hC dL_law_1443 rfl (jrf_ref _) ?_
  refine j_aload_n hC dL_law_1444 rfl (jrf_ref _) ?_
  refine j_iload hC dL_law_1445 rfl ?_
  refine j_iconst (v := nI 1) hC dL_law_1447 (by decide) ?_
  refine n_iadd hC dL_law_1448 ?_
  refine c_iald (i := p + 1) (x := (g (p + 1))) hC dL_law_1449 (hA) (by omega) (by omega) (rfl) ?_
  refine j_aload_n hC dL_law_1450 rfl (jrf_ref _) ?_
  refine j_callSH hC ks_L_200 (0, 9, 12, 13) [] rfl dL_law_1451 (w_setting (q := ((g (p + 1)))) hs9 hcJ hol) rfl rfl (by decide) (by omega) (by omega) (Nat.le_of_ble_eq_true rfl) (fun v9 M1 h9 => ?_)
  obtain ⟨rfl, hlt9, ⟨g1, hg1, hg2⟩, hW⟩ := h9
  have hI1 := lh_o hF hcI hol hod hor hoz hA hW ⟨g1, hg1⟩
  obtain ⟨Z1, v1, hcI1, hol1, hod1, hor1, hoz1, hA1⟩ := id hI1
  have ho1 : M1.1 o = some (.inr (14, rF o R)) := hor1 0 (by decide)
  refine j_istore_6 hC dL_law_1454 (by decide) rfl ?_
  refine j_aload_n hC dL_law_1456 rfl (jrf_ref _) ?_
  refine j_aload_n hC dL_law_1457 rfl (jrf_ref _) ?_
  refine j_iload hC dL_law_1458 rfl ?_
  refine j_iconst (v := nI 1) hC dL_law_1460 (by decide) ?_
  refine n_iadd hC dL_law_1461 ?_
  refine c_iald (i := p + 1) (x := (g (p + 1))) hC dL_law_1462 (hA1) (by omega) (by omega) (rfl) ?_
  have hcon := o_X10_setting (w := ((g (p + 1)))) R (S, P, V, b, e, u) hri (jCG C) o M1 hs9 hBo
  rw [rM_self hor1] at hcon
  refine c_Pv (kc := (614 * (m + 1) - 1)) (ks := (11457 * (m + 1) - 6)) hC kv_L_202 dL_law_1463 hcon ho1 rfl rfl rfl rfl (by decide) (Nat.le_of_ble_eq_true rfl) ?_
  intro v9 M2 h9
  obtain ⟨R2, ⟨rfl, hr0, hri2⟩, hM2⟩ := h9
  have hI2 := lh_ref hF hI1 hM2
  obtain ⟨Z2, v2, hcI2, hol2, hod2, hor2, hoz2, hA2⟩ := id hI2
  have ho2 : M2.1 o = some (.inr (14, rF o R2)) := hor2 0 (by decide)
  have hl2 : M2.1 ol = _ := (by rw [hM2]; exact rM_out (by have := hF.2.2; omega) : M2.1 ol = M1.1 ol).trans hg1
  refine j_istore_7 hC dL_law_1466 (by decide) rfl ?_
  refine j_aload_n hC dL_law_1468 rfl (jrf_ref _) ?_
  refine c_V hC kv_L_138 dL_law_1469 (m_X10_thrown hs9 ho2) ho2 rfl rfl rfl rfl (by decide) (Nat.le_of_ble_eq_true rfl) ?_
  refine j_iload hC dL_law_1472 rfl ?_
  refine j_icmp_eq (tgt := 1479) hC dL_law_1474 (by decide) (fun c1 => ?_) (fun c1 => ?_)
  · refine j_iload hC dL_law_1479 rfl ?_
    refine n_if_ne (tgt := 1496) hC dL_law_1481 (by decide) (by omega) (fun c2 => ?_) (fun c2 => ?_)
    · refine j_goto (tgt := 2148) hC dL_law_1496 (by decide) ?_
      exact j_L (jle_s (jle_s (jle_s (jle_s (jle_s (jle_s (jle_n (jle_n (jle_s (jle_0)))))))))) (j_less (by omega) (by omega) (kk _ _ ⟨R2, hI2, hri2⟩))
    · refine j_aload_n hC dL_law_1484 rfl (jrf_ref _) ?_
      refine j_iconst (v := nI 0) hC dL_law_1485 (by decide) ?_
      refine j_lald hC dL_law_1486 hl2 (vp_in_nI (by decide) (by decide)) ?_
      refine j_topV (v' := .long (cvL (opSetting ((g (p + 1))) (S, P, V, b, e, u)).2.1)) (congrArg Value.long (by rw [nI_clamp (by decide)]; exact hg2 (by assumption))) ?_
      refine j_iload hC dL_law_1487 rfl ?_
      refine j_i2l hC dL_law_1489 ?_
      refine j_lcmp hC dL_law_1490 ?_
      refine j_topV (v' := .int 0) (congrArg Value.int (lg_self)) ?_
      refine j_if_eq (tgt := 1496) hC dL_law_1491 (by decide) (fun c3 => ?_) (fun c3 => ?_)
      · refine j_goto (tgt := 2148) hC dL_law_1496 (by decide) ?_
        exact j_L (jle_s (jle_s (jle_s (jle_s (jle_s (jle_s (jle_n (jle_n (jle_s (jle_0)))))))))) (j_less (by omega) (by omega) (kk _ _ ⟨R2, hI2, hri2⟩))
      · first | exact absurd hr0 (by assumption) | exact absurd rfl (by assumption) | exact absurd hc9 (by assumption) | contradiction
  · first | exact absurd hr0 (by assumption) | exact absurd rfl (by assumption) | exact absurd hc9 (by assumption) | contradiction
set_option maxHeartbeats 4000000 in
set_option maxRecDepth 100000 in
theorem lc_run {C : jC} {Q : Option Value → jM → Prop} {X : String → jM → Prop} (hC9 : jOK jL_law 20 C Q X) {M : jM} {a n p m c o ol od : Nat} {g : Nat → Int32} {T : aSt} (hF : LF (jCG C) a c o ol od n) (h : LI (jCG C) M a n g c o ol od T) (hp : p + 4 ≤ n) (kk : ∀ M2 T2, LI (jCG C) M2 a n g c o ol od T2 → J C M2 (614 * m) (11457 * m) 2148 [some (.ref (a)), some (.ref (c)), some (.ref (o)), some (.ref (ol)), some (.ref (od)), some (.int (nI (p))), none, none, none] []) : J C M (614 * (m + 1)) (11457 * (m + 1)) 1499 [some (.ref (a)), some (.ref (c)), some (.ref (o)), some (.ref (ol)), some (.ref (od)), some (.int (nI (p))), none, none, none] [] := by
  have hC := hC9.z
  have hs9 := jOK0_tr hC
  obtain ⟨S, P, V, b, e, u⟩ := T
  obtain ⟨R, hI, hri⟩ := h
  obtain ⟨Z, v, hcI, hol, hod, hor, hoz, hA⟩ := id hI
  have hcJ : cJ (jCG C) M Z c v S P V b e u := hcI
  have hn20 : n < 20000 := hF.2.2.2.2.2
  have hBo : gB (jCG C) ≤ o := by have h1 := hF.2.1; have h2 := hF.2.2.2.2.1; omega
  refine j_aload_n hC dL_law_1499 rfl (jrf_ref _) ?_
  refine j_aload_n hC dL_law_1500 rfl (jrf_ref _) ?_
  refine j_callSH hC ks_L_203 (0, 8, 11, 15) [] rfl dL_law_1501 (w_run hs9 hcJ hol) rfl rfl (by decide) (by omega) (by omega) (Nat.le_of_ble_eq_true rfl) (fun v9 M1 h9 => ?_)
  obtain ⟨rfl, hlt9, ⟨g1, hg1, hg2⟩, hW⟩ := h9
  have hI1 := lh_o hF hcI hol hod hor hoz hA hW ⟨g1, hg1⟩
  obtain ⟨Z1, v1, hcI1, hol1, hod1, hor1, hoz1, hA1⟩ := id hI1
  have ho1 : M1.1 o = some (.inr (14, rF o R)) := hor1 0 (by decide)
  refine j_istore_6 hC dL_law_1504 (by decide) rfl ?_
  refine j_aload_n hC dL_law_1506 rfl (jrf_ref _) ?_
  have hcon := o_X10_run R (S, P, V, b, e, u) hri (jCG C) o M1 hs9 hBo
  rw [rM_self hor1] at hcon
  refine c_Pv (kc := (614 * (m + 1) - 1)) (ks := (11457 * (m + 1) - 6)) hC kv_L_205 dL_law_1507 hcon ho1 rfl rfl rfl rfl (by decide) (Nat.le_of_ble_eq_true rfl) ?_
  intro v9 M2 h9
  obtain ⟨R2, ⟨rfl, hr0, hri2⟩, hM2⟩ := h9
  have hI2 := lh_ref hF hI1 hM2
  obtain ⟨Z2, v2, hcI2, hol2, hod2, hor2, hoz2, hA2⟩ := id hI2
  have ho2 : M2.1 o = some (.inr (14, rF o R2)) := hor2 0 (by decide)
  have hl2 : M2.1 ol = _ := (by rw [hM2]; exact rM_out (by have := hF.2.2; omega) : M2.1 ol = M1.1 ol).trans hg1
  refine j_istore_7 hC dL_law_1510 (by decide) rfl ?_
  refine j_aload_n hC dL_law_1512 rfl (jrf_ref _) ?_
  refine c_V hC kv_L_138 dL_law_1513 (m_X10_thrown hs9 ho2) ho2 rfl rfl rfl rfl (by decide) (Nat.le_of_ble_eq_true rfl) ?_
  refine j_iload hC dL_law_1516 rfl ?_
  refine j_icmp_eq (tgt := 1523) hC dL_law_1518 (by decide) (fun c1 => ?_) (fun c1 => ?_)
  · refine j_iload hC dL_law_1523 rfl ?_
    refine n_if_ne (tgt := 1540) hC dL_law_1525 (by decide) (by omega) (fun c2 => ?_) (fun c2 => ?_)
    · refine j_goto (tgt := 2148) hC dL_law_1540 (by decide) ?_
      exact j_L (jle_s (jle_s (jle_s (jle_s (jle_s (jle_s (jle_n (jle_n (jle_s (jle_0)))))))))) (j_less (by omega) (by omega) (kk _ _ ⟨R2, hI2, hri2⟩))
    · refine j_aload_n hC dL_law_1528 rfl (jrf_ref _) ?_
      refine j_iconst (v := nI 0) hC dL_law_1529 (by decide) ?_
      refine j_lald hC dL_law_1530 hl2 (vp_in_nI (by decide) (by decide)) ?_
      refine j_topV (v' := .long (cvL (opRun (S, P, V, b, e, u)).2.1)) (congrArg Value.long (by rw [nI_clamp (by decide)]; exact hg2 (by assumption))) ?_
      refine j_iload hC dL_law_1531 rfl ?_
      refine j_i2l hC dL_law_1533 ?_
      refine j_lcmp hC dL_law_1534 ?_
      refine j_topV (v' := .int 0) (congrArg Value.int (lg_self)) ?_
      refine j_if_eq (tgt := 1540) hC dL_law_1535 (by decide) (fun c3 => ?_) (fun c3 => ?_)
      · refine j_goto (tgt := 2148) hC dL_law_1540 (by decide) ?_
        exact j_L (jle_s (jle_s (jle_s (jle_s (jle_s (jle_s (jle_n (jle_n (jle_s (jle_0)))))))))) (j_less (by omega) (by omega) (kk _ _ ⟨R2, hI2, hri2⟩))
      · first | exact absurd hr0 (by assumption) | exact absurd rfl (by assumption) | exact absurd hc9 (by assumption) | contradiction
  · first | exact absurd hr0 (by assumption) | exact absurd rfl (by assumption) | exact absurd hc9 (by assumption) | contradiction
set_option maxHeartbeats 4000000 in
set_option maxRecDepth 100000 in
theorem lc_reason {C : jC} {Q : Option Value → jM → Prop} {X : String → jM → Prop} (hC9 : jOK jL_law 20 C Q X) {M : jM} {a n p m c o ol od : Nat} {g : Nat → Int32} {T : aSt} (hF : LF (jCG C) a c o ol od n) (h : LI (jCG C) M a n g c o ol od T) (hp : p + 4 ≤ n) (kk : ∀ M2 T2, LI (jCG C) M2 a n g c o ol od T2 → J C M2 (614 * m) (11457 * m) 2148 [some (.ref (a)), some (.ref (c)), some (.ref (o)), some (.ref (ol)), some (.ref (od)), some (.int (nI (p))), none, none, none] []) : J C M (614 * (m + 1)) (11457 * (m + 1)) 1543 [some (.ref (a)), some (.ref (c)), some (.ref (o)), some (.ref (ol)), some (.ref (od)), some (.int (nI (p))), none, none, none] [] := by
  have hC := hC9.z
  have hs9 := jOK0_tr hC
  obtain ⟨S, P, V, b, e, u⟩ := T
  obtain ⟨R, hI, hri⟩ := h
  obtain ⟨Z, v, hcI, hol, hod, hor, hoz, hA⟩ := id hI
  have hcJ : cJ (jCG C) M Z c v S P V b e u := hcI
  have hn20 : n < 20000 := hF.2.2.2.2.2
  have hBo : gB (jCG C) ≤ o := by have h1 := hF.2.1; have h2 := hF.2.2.2.2.1; omega
  refine j_aload_n hC dL_law_1543 rfl (jrf_ref _) ?_
  refine j_aload_n hC dL_law_1544 rfl (jrf_ref _) ?_
  refine j_iload hC dL_law_1545 rfl ?_
  refine j_iconst (v := nI 1) hC dL_law_1547 (by decide) ?_
  refine n_iadd hC dL_law_1548 ?_
  refine c_iald (i := p + 1) (x := (g (p + 1))) hC dL_law_1549 (hA) (by omega) (by omega) (rfl) ?_
  refine j_aload_n hC dL_law_1550 rfl (jrf_ref _) ?_
  refine j_callSH hC ks_L_206 (0, 9, 12, 15) [(0, 9, 15, 24)] rfl dL_law_1551 (w_reason (q := ((g (p + 1)))) hs9 hcJ hol) rfl rfl (by decide) (by omega) (by omega) (Nat.le_of_ble_eq_true rfl) (fun v9 M1 h9 => ?_)
  obtain ⟨rfl, hlt9, ⟨g1, hg1, hg2⟩, hW⟩ := h9
  have hI1 := lh_o hF hcI hol hod hor hoz hA hW ⟨g1, hg1⟩
  obtain ⟨Z1, v1, hcI1, hol1, hod1, hor1, hoz1, hA1⟩ := id hI1
  have ho1 : M1.1 o = some (.inr (14, rF o R)) := hor1 0 (by decide)
  refine j_istore_6 hC dL_law_1554 (by decide) rfl ?_
  refine j_aload_n hC dL_law_1556 rfl (jrf_ref _) ?_
  refine j_aload_n hC dL_law_1557 rfl (jrf_ref _) ?_
  refine j_iload hC dL_law_1558 rfl ?_
  refine j_iconst (v := nI 1) hC dL_law_1560 (by decide) ?_
  refine n_iadd hC dL_law_1561 ?_
  refine c_iald (i := p + 1) (x := (g (p + 1))) hC dL_law_1562 (hA1) (by omega) (by omega) (rfl) ?_
  have hcon := o_X10_reason (v := ((g (p + 1)))) R (S, P, V, b, e, u) hri (jCG C) o M1 hs9 hBo
  rw [rM_self hor1] at hcon
  refine c_Pv (kc := (614 * (m + 1) - 2)) (ks := (11457 * (m + 1) - 12)) hC kv_L_208 dL_law_1563 hcon ho1 rfl rfl rfl rfl (by decide) (Nat.le_of_ble_eq_true rfl) ?_
  intro v9 M2 h9
  obtain ⟨R2, ⟨rfl, hr0, hri2⟩, hM2⟩ := h9
  have hI2 := lh_ref hF hI1 hM2
  obtain ⟨Z2, v2, hcI2, hol2, hod2, hor2, hoz2, hA2⟩ := id hI2
  have ho2 : M2.1 o = some (.inr (14, rF o R2)) := hor2 0 (by decide)
  have hl2 : M2.1 ol = _ := (by rw [hM2]; exact rM_out (by have := hF.2.2; omega) : M2.1 ol = M1.1 ol).trans hg1
  refine j_istore_7 hC dL_law_1566 (by decide) rfl ?_
  refine j_aload_n hC dL_law_1568 rfl (jrf_ref _) ?_
  refine c_V hC kv_L_138 dL_law_1569 (m_X10_thrown hs9 ho2) ho2 rfl rfl rfl rfl (by decide) (Nat.le_of_ble_eq_true rfl) ?_
  refine j_iload hC dL_law_1572 rfl ?_
  refine j_icmp_eq (tgt := 1579) hC dL_law_1574 (by decide) (fun c1 => ?_) (fun c1 => ?_)
  · refine j_iload hC dL_law_1579 rfl ?_
    refine n_if_ne (tgt := 1596) hC dL_law_1581 (by decide) (by omega) (fun c2 => ?_) (fun c2 => ?_)
    · refine j_goto (tgt := 2148) hC dL_law_1596 (by decide) ?_
      exact j_L (jle_s (jle_s (jle_s (jle_s (jle_s (jle_s (jle_n (jle_n (jle_s (jle_0)))))))))) (j_less (by omega) (by omega) (kk _ _ ⟨R2, hI2, hri2⟩))
    · refine j_aload_n hC dL_law_1584 rfl (jrf_ref _) ?_
      refine j_iconst (v := nI 0) hC dL_law_1585 (by decide) ?_
      refine j_lald hC dL_law_1586 hl2 (vp_in_nI (by decide) (by decide)) ?_
      refine j_topV (v' := .long (cvL (opReason ((g (p + 1))) (S, P, V, b, e, u)).2.1)) (congrArg Value.long (by rw [nI_clamp (by decide)]; exact hg2 (by assumption))) ?_
      refine j_iload hC dL_law_1587 rfl ?_
      refine j_i2l hC dL_law_1589 ?_
      refine j_lcmp hC dL_law_1590 ?_
      refine j_topV (v' := .int 0) (congrArg Value.int (lg_self)) ?_
      refine j_if_eq (tgt := 1596) hC dL_law_1591 (by decide) (fun c3 => ?_) (fun c3 => ?_)
      · refine j_goto (tgt := 2148) hC dL_law_1596 (by decide) ?_
        exact j_L (jle_s (jle_s (jle_s (jle_s (jle_s (jle_s (jle_n (jle_n (jle_s (jle_0)))))))))) (j_less (by omega) (by omega) (kk _ _ ⟨R2, hI2, hri2⟩))
      · first | exact absurd hr0 (by assumption) | exact absurd rfl (by assumption) | exact absurd hc9 (by assumption) | contradiction
  · first | exact absurd hr0 (by assumption) | exact absurd rfl (by assumption) | exact absurd hc9 (by assumption) | contradiction
set_option maxHeartbeats 4000000 in
set_option maxRecDepth 100000 in
theorem lc_reasons {C : jC} {Q : Option Value → jM → Prop} {X : String → jM → Prop} (hC9 : jOK jL_law 20 C Q X) {M : jM} {a n p m c o ol od : Nat} {g : Nat → Int32} {T : aSt} (hF : LF (jCG C) a c o ol od n) (h : LI (jCG C) M a n g c o ol od T) (hp : p + 4 ≤ n) (kk : ∀ M2 T2, LI (jCG C) M2 a n g c o ol od T2 → J C M2 (614 * m) (11457 * m) 2148 [some (.ref (a)), some (.ref (c)), some (.ref (o)), some (.ref (ol)), some (.ref (od)), some (.int (nI (p))), none, none, none] []) : J C M (614 * (m + 1)) (11457 * (m + 1)) 1599 [some (.ref (a)), some (.ref (c)), some (.ref (o)), some (.ref (ol)), some (.ref (od)), some (.int (nI (p))), none, none, none] [] := by
  have hC := hC9.z
  have hs9 := jOK0_tr hC
  obtain ⟨S, P, V, b, e, u⟩ := T
  obtain ⟨R, hI, hri⟩ := h
  obtain ⟨Z, v, hcI, hol, hod, hor, hoz, hA⟩ := id hI
  have hcJ : cJ (jCG C) M Z c v S P V b e u := hcI
  have hn20 : n < 20000 := hF.2.2.2.2.2
  have hBo : gB (jCG C) ≤ o := by have h1 := hF.2.1; have h2 := hF.2.2.2.2.1; omega
  refine j_aload_n hC dL_law_1599 rfl (jrf_ref _) ?_
  refine j_aload_n hC dL_law_1600 rfl (jrf_ref _) ?_
  refine j_iload hC dL_law_1601 rfl ?_
  refine j_iconst (v := nI 1) hC dL_law_1603 (by decide) ?_
  refine n_iadd hC dL_law_1604 ?_
  refine c_iald (i := p + 1) (x := (g (p + 1))) hC dL_law_1605 (hA) (by omega) (by omega) (rfl) ?_
  refine j_aload_n hC dL_law_1606 rfl (jrf_ref _) ?_
  refine j_callSH hC ks_L_209 (0, 9, 12, 15) [(0, 9, 15, 13)] rfl dL_law_1607 (w_reasons (q := ((g (p + 1)))) hs9 hcJ hol) rfl rfl (by decide) (by omega) (by omega) (Nat.le_of_ble_eq_true rfl) (fun v9 M1 h9 => ?_)
  obtain ⟨rfl, hlt9, ⟨g1, hg1, hg2⟩, hW⟩ := h9
  have hI1 := lh_o hF hcI hol hod hor hoz hA hW ⟨g1, hg1⟩
  obtain ⟨Z1, v1, hcI1, hol1, hod1, hor1, hoz1, hA1⟩ := id hI1
  have ho1 : M1.1 o = some (.inr (14, rF o R)) := hor1 0 (by decide)
  refine j_istore_6 hC dL_law_1610 (by decide) rfl ?_
  refine j_aload_n hC dL_law_1612 rfl (jrf_ref _) ?_
  refine j_aload_n hC dL_law_1613 rfl (jrf_ref _) ?_
  refine j_iload hC dL_law_1614 rfl ?_
  refine j_iconst (v := nI 1) hC dL_law_1616 (by decide) ?_
  refine n_iadd hC dL_law_1617 ?_
  refine c_iald (i := p + 1) (x := (g (p + 1))) hC dL_law_1618 (hA1) (by omega) (by omega) (rfl) ?_
  have hcon := o_X10_reasons (v := ((g (p + 1)))) R (S, P, V, b, e, u) hri (jCG C) o M1 hs9 hBo
  rw [rM_self hor1] at hcon
  refine c_Pv (kc := (614 * (m + 1) - 2)) (ks := (11457 * (m + 1) - 12)) hC kv_L_211 dL_law_1619 hcon ho1 rfl rfl rfl rfl (by decide) (Nat.le_of_ble_eq_true rfl) ?_
  intro v9 M2 h9
  obtain ⟨R2, ⟨rfl, hr0, hri2⟩, hM2⟩ := h9
  have hI2 := lh_ref hF hI1 hM2
  obtain ⟨Z2, v2, hcI2, hol2, hod2, hor2, hoz2, hA2⟩ := id hI2
  have ho2 : M2.1 o = some (.inr (14, rF o R2)) := hor2 0 (by decide)
  have hl2 : M2.1 ol = _ := (by rw [hM2]; exact rM_out (by have := hF.2.2; omega) : M2.1 ol = M1.1 ol).trans hg1
  refine j_istore_7 hC dL_law_1622 (by decide) rfl ?_
  refine j_aload_n hC dL_law_1624 rfl (jrf_ref _) ?_
  refine c_V hC kv_L_138 dL_law_1625 (m_X10_thrown hs9 ho2) ho2 rfl rfl rfl rfl (by decide) (Nat.le_of_ble_eq_true rfl) ?_
  refine j_iload hC dL_law_1628 rfl ?_
  refine j_icmp_eq (tgt := 1635) hC dL_law_1630 (by decide) (fun c1 => ?_) (fun c1 => ?_)
  · refine j_iload hC dL_law_1635 rfl ?_
    refine n_if_ne (tgt := 1652) hC dL_law_1637 (by decide) (by omega) (fun c2 => ?_) (fun c2 => ?_)
    · refine j_goto (tgt := 2148) hC dL_law_1652 (by decide) ?_
      exact j_L (jle_s (jle_s (jle_s (jle_s (jle_s (jle_s (jle_n (jle_n (jle_s (jle_0)))))))))) (j_less (by omega) (by omega) (kk _ _ ⟨R2, hI2, hri2⟩))
    · refine j_aload_n hC dL_law_1640 rfl (jrf_ref _) ?_
      refine j_iconst (v := nI 0) hC dL_law_1641 (by decide) ?_
      refine j_lald hC dL_law_1642 hl2 (vp_in_nI (by decide) (by decide)) ?_
      refine j_topV (v' := .long (cvL (opReasons ((g (p + 1))) (S, P, V, b, e, u)).2.1)) (congrArg Value.long (by rw [nI_clamp (by decide)]; exact hg2 (by assumption))) ?_
      refine j_iload hC dL_law_1643 rfl ?_
      refine j_i2l hC dL_law_1645 ?_
      refine j_lcmp hC dL_law_1646 ?_
      refine j_topV (v' := .int 0) (congrArg Value.int (lg_self)) ?_
      refine j_if_eq (tgt := 1652) hC dL_law_1647 (by decide) (fun c3 => ?_) (fun c3 => ?_)
      · refine j_goto (tgt := 2148) hC dL_law_1652 (by decide) ?_
        exact j_L (jle_s (jle_s (jle_s (jle_s (jle_s (jle_s (jle_n (jle_n (jle_s (jle_0)))))))))) (j_less (by omega) (by omega) (kk _ _ ⟨R2, hI2, hri2⟩))
      · first | exact absurd hr0 (by assumption) | exact absurd rfl (by assumption) | exact absurd hc9 (by assumption) | contradiction
  · first | exact absurd hr0 (by assumption) | exact absurd rfl (by assumption) | exact absurd hc9 (by assumption) | contradiction
set_option maxHeartbeats 4000000 in
set_option maxRecDepth 100000 in
theorem lc_letter {C : jC} {Q : Option Value → jM → Prop} {X : String → jM → Prop} (hC9 : jOK jL_law 20 C Q X) {M : jM} {a n p m c o ol od : Nat} {g : Nat → Int32} {T : aSt} (hF : LF (jCG C) a c o ol od n) (h : LI (jCG C) M a n g c o ol od T) (hp : p + 4 ≤ n) (kk : ∀ M2 T2, LI (jCG C) M2 a n g c o ol od T2 → J C M2 (614 * m) (11457 * m) 2148 [some (.ref (a)), some (.ref (c)), some (.ref (o)), some (.ref (ol)), some (.ref (od)), some (.int (nI (p))), none, none, none] []) : J C M (614 * (m + 1)) (11457 * (m + 1)) 1655 [some (.ref (a)), some (.ref (c)), some (.ref (o)), some (.ref (ol)), some (.ref (od)), some (.int (nI (p))), none, none, none] [] := by
  have hC := hC9.z
  have hs9 := jOK0_tr hC
  obtain ⟨S, P, V, b, e, u⟩ := T
  obtain ⟨R, hI, hri⟩ := h
  obtain ⟨Z, v, hcI, hol, hod, hor, hoz, hA⟩ := id hI
  have hcJ : cJ (jCG C) M Z c v S P V b e u := hcI
  have hn20 : n < 20000 := hF.2.2.2.2.2
  have hBo : gB (jCG C) ≤ o := by have h1 := hF.2.1; have h2 := hF.2.2.2.2.1; omega
  refine j_aload_n hC dL_law_1655 rfl (jrf_ref _) ?_
  refine j_aload_n hC dL_law_1656 rfl (jrf_ref _) ?_
  refine j_iload hC dL_law_1657 rfl ?_
  refine j_iconst (v := nI 1) hC dL_law_1659 (by decide) ?_
  refine n_iadd hC dL_law_1660 ?_
  refine c_iald (i := p + 1) (x := (g (p + 1))) hC dL_law_1661 (hA) (by omega) (by omega) (rfl) ?_
  refine j_aload_n hC dL_law_1662 rfl (jrf_ref _) ?_
  refine j_iload hC dL_law_1663 rfl ?_
  refine j_iconst (v := nI 2) hC dL_law_1665 (by decide) ?_
  refine n_iadd hC dL_law_1666 ?_
  refine c_iald (i := p + 2) (x := (g (p + 2))) hC dL_law_1667 (hA) (by omega) (by omega) (rfl) ?_
  refine j_aload_n hC dL_law_1668 rfl (jrf_ref _) ?_
  refine j_callSH hC ks_L_212 (0, 10, 13, 15) [(0, 10, 17, 24), (0, 10, 21, 97), (0, 10, 25, 44)] rfl dL_law_1669 (w_letter (q := ((g (p + 1)))) (r := ((g (p + 2)))) hs9 hcJ hol) rfl rfl (by decide) (by omega) (by omega) (Nat.le_of_ble_eq_true rfl) (fun v9 M1 h9 => ?_)
  obtain ⟨rfl, hlt9, ⟨g1, hg1, hg2⟩, hW⟩ := h9
  have hI1 := lh_o hF hcI hol hod hor hoz hA hW ⟨g1, hg1⟩
  obtain ⟨Z1, v1, hcI1, hol1, hod1, hor1, hoz1, hA1⟩ := id hI1
  have ho1 : M1.1 o = some (.inr (14, rF o R)) := hor1 0 (by decide)
  refine j_istore_6 hC dL_law_1672 (by decide) rfl ?_
  refine j_aload_n hC dL_law_1674 rfl (jrf_ref _) ?_
  refine j_aload_n hC dL_law_1675 rfl (jrf_ref _) ?_
  refine j_iload hC dL_law_1676 rfl ?_
  refine j_iconst (v := nI 1) hC dL_law_1678 (by decide) ?_
  refine n_iadd hC dL_law_1679 ?_
  refine c_iald (i := p + 1) (x := (g (p + 1))) hC dL_law_1680 (hA1) (by omega) (by omega) (rfl) ?_
  refine j_aload_n hC dL_law_1681 rfl (jrf_ref _) ?_
  refine j_iload hC dL_law_1682 rfl ?_
  refine j_iconst (v := nI 2) hC dL_law_1684 (by decide) ?_
  refine n_iadd hC dL_law_1685 ?_
  refine c_iald (i := p + 2) (x := (g (p + 2))) hC dL_law_1686 (hA1) (by omega) (by omega) (rfl) ?_
  have hcon := o_X10_letter (v := ((g (p + 1)))) (i := ((g (p + 2)))) R (S, P, V, b, e, u) hri (jCG C) o M1 hs9 hBo
  rw [rM_self hor1] at hcon
  refine c_Pv (kc := (614 * (m + 1) - 3)) (ks := (11457 * (m + 1) - 18)) hC kv_L_214 dL_law_1687 hcon ho1 rfl rfl rfl rfl (by decide) (Nat.le_of_ble_eq_true rfl) ?_
  intro v9 M2 h9
  obtain ⟨R2, ⟨rfl, hr0, hri2⟩, hM2⟩ := h9
  have hI2 := lh_ref hF hI1 hM2
  obtain ⟨Z2, v2, hcI2, hol2, hod2, hor2, hoz2, hA2⟩ := id hI2
  have ho2 : M2.1 o = some (.inr (14, rF o R2)) := hor2 0 (by decide)
  have hl2 : M2.1 ol = _ := (by rw [hM2]; exact rM_out (by have := hF.2.2; omega) : M2.1 ol = M1.1 ol).trans hg1
  refine j_istore_7 hC dL_law_1690 (by decide) rfl ?_
  refine j_aload_n hC dL_law_1692 rfl (jrf_ref _) ?_
  refine c_V hC kv_L_138 dL_law_1693 (m_X10_thrown hs9 ho2) ho2 rfl rfl rfl rfl (by decide) (Nat.le_of_ble_eq_true rfl) ?_
  refine j_iload hC dL_law_1696 rfl ?_
  refine j_icmp_eq (tgt := 1703) hC dL_law_1698 (by decide) (fun c1 => ?_) (fun c1 => ?_)
  · refine j_iload hC dL_law_1703 rfl ?_
    refine n_if_ne (tgt := 1720) hC dL_law_1705 (by decide) (by omega) (fun c2 => ?_) (fun c2 => ?_)
    · refine j_goto (tgt := 2148) hC dL_law_1720 (by decide) ?_
      exact j_L (jle_s (jle_s (jle_s (jle_s (jle_s (jle_s (jle_n (jle_n (jle_s (jle_0)))))))))) (j_less (by omega) (by omega) (kk _ _ ⟨R2, hI2, hri2⟩))
    · refine j_aload_n hC dL_law_1708 rfl (jrf_ref _) ?_
      refine j_iconst (v := nI 0) hC dL_law_1709 (by decide) ?_
      refine j_lald hC dL_law_1710 hl2 (vp_in_nI (by decide) (by decide)) ?_
      refine j_topV (v' := .long (cvL (opLetter ((g (p + 1))) ((g (p + 2))) (S, P, V, b, e, u)).2.1)) (congrArg Value.long (by rw [nI_clamp (by decide)]; exact hg2 (by assumption))) ?_
      refine j_iload hC dL_law_1711 rfl ?_
      refine j_i2l hC dL_law_1713 ?_
      refine j_lcmp hC dL_law_1714 ?_
      refine j_topV (v' := .int 0) (congrArg Value.int (lg_self)) ?_
      refine j_if_eq (tgt := 1720) hC dL_law_1715 (by decide) (fun c3 => ?_) (fun c3 => ?_)
      · refine j_goto (tgt := 2148) hC dL_law_1720 (by decide) ?_
        exact j_L (jle_s (jle_s (jle_s (jle_s (jle_s (jle_s (jle_n (jle_n (jle_s (jle_0)))))))))) (j_less (by omega) (by omega) (kk _ _ ⟨R2, hI2, hri2⟩))
      · first | exact absurd hr0 (by assumption) | exact absurd rfl (by assumption) | exact absurd hc9 (by assumption) | contradiction
  · first | exact absurd hr0 (by assumption) | exact absurd rfl (by assumption) | exact absurd hc9 (by assumption) | contradiction
set_option maxHeartbeats 4000000 in
set_option maxRecDepth 100000 in
theorem lc_chain {C : jC} {Q : Option Value → jM → Prop} {X : String → jM → Prop} (hC9 : jOK jL_law 20 C Q X) {M : jM} {a n p m c o ol od : Nat} {g : Nat → Int32} {T : aSt} (hF : LF (jCG C) a c o ol od n) (h : LI (jCG C) M a n g c o ol od T) (hp : p + 4 ≤ n) (kk : ∀ M2 T2, LI (jCG C) M2 a n g c o ol od T2 → J C M2 (614 * m) (11457 * m) 2148 [some (.ref (a)), some (.ref (c)), some (.ref (o)), some (.ref (ol)), some (.ref (od)), some (.int (nI (p))), none, none, none] []) : J C M (614 * (m + 1)) (11457 * (m + 1)) 1723 [some (.ref (a)), some (.ref (c)), some (.ref (o)), some (.ref (ol)), some (.ref (od)), some (.int (nI (p))), none, none, none] [] := by
  have hC := hC9.z
  have hs9 := jOK0_tr hC
  obtain ⟨S, P, V, b, e, u⟩ := T
  obtain ⟨R, hI, hri⟩ := h
  obtain ⟨Z, v, hcI, hol, hod, hor, hoz, hA⟩ := id hI
  have hcJ : cJ (jCG C) M Z c v S P V b e u := hcI
  have hn20 : n < 20000 := hF.2.2.2.2.2
  have hBo : gB (jCG C) ≤ o := by have h1 := hF.2.1; have h2 := hF.2.2.2.2.1; omega
  refine j_aload_n hC dL_law_1723 rfl (jrf_ref _) ?_
  refine j_aload_n hC dL_law_1724 rfl (jrf_ref _) ?_
  refine j_iload hC dL_law_1725 rfl ?_
  refine j_iconst (v := nI 1) hC dL_law_1727 (by decide) ?_
  refine n_iadd hC dL_law_1728 ?_
  refine c_iald (i := p + 1) (x := (g (p + 1))) hC dL_law_1729 (hA) (by omega) (by omega) (rfl) ?_
  refine j_aload_n hC dL_law_1730 rfl (jrf_ref _) ?_
  refine j_iload hC dL_law_1731 rfl ?_
  refine j_iconst (v := nI 2) hC dL_law_1733 (by decide) ?_
  refine n_iadd hC dL_law_1734 ?_
  refine c_iald (i := p + 2) (x := (g (p + 2))) hC dL_law_1735 (hA) (by omega) (by omega) (rfl) ?_
  refine j_aload_n hC dL_law_1736 rfl (jrf_ref _) ?_
  refine j_callSH hC ks_L_215 (0, 10, 13, 15) [(0, 10, 17, 24), (0, 10, 21, 97), (0, 10, 25, 44)] rfl dL_law_1737 (w_chain (q := ((g (p + 1)))) (r := ((g (p + 2)))) hs9 hcJ hol) rfl rfl (by decide) (by omega) (by omega) (Nat.le_of_ble_eq_true rfl) (fun v9 M1 h9 => ?_)
  obtain ⟨rfl, hlt9, ⟨g1, hg1, hg2⟩, hW⟩ := h9
  have hI1 := lh_o hF hcI hol hod hor hoz hA hW ⟨g1, hg1⟩
  obtain ⟨Z1, v1, hcI1, hol1, hod1, hor1, hoz1, hA1⟩ := id hI1
  have ho1 : M1.1 o = some (.inr (14, rF o R)) := hor1 0 (by decide)
  refine j_istore_6 hC dL_law_1740 (by decide) rfl ?_
  refine j_aload_n hC dL_law_1742 rfl (jrf_ref _) ?_
  refine j_aload_n hC dL_law_1743 rfl (jrf_ref _) ?_
  refine j_iload hC dL_law_1744 rfl ?_
  refine j_iconst (v := nI 1) hC dL_law_1746 (by decide) ?_
  refine n_iadd hC dL_law_1747 ?_
  refine c_iald (i := p + 1) (x := (g (p + 1))) hC dL_law_1748 (hA1) (by omega) (by omega) (rfl) ?_
  refine j_aload_n hC dL_law_1749 rfl (jrf_ref _) ?_
  refine j_iload hC dL_law_1750 rfl ?_
  refine j_iconst (v := nI 2) hC dL_law_1752 (by decide) ?_
  refine n_iadd hC dL_law_1753 ?_
  refine c_iald (i := p + 2) (x := (g (p + 2))) hC dL_law_1754 (hA1) (by omega) (by omega) (rfl) ?_
  have hcon := o_X10_chain (v := ((g (p + 1)))) (i := ((g (p + 2)))) R (S, P, V, b, e, u) hri (jCG C) o M1 hs9 hBo
  rw [rM_self hor1] at hcon
  refine c_Pv (kc := (614 * (m + 1) - 3)) (ks := (11457 * (m + 1) - 18)) hC kv_L_217 dL_law_1755 hcon ho1 rfl rfl rfl rfl (by decide) (Nat.le_of_ble_eq_true rfl) ?_
  intro v9 M2 h9
  obtain ⟨R2, ⟨rfl, hr0, hri2⟩, hM2⟩ := h9
  have hI2 := lh_ref hF hI1 hM2
  obtain ⟨Z2, v2, hcI2, hol2, hod2, hor2, hoz2, hA2⟩ := id hI2
  have ho2 : M2.1 o = some (.inr (14, rF o R2)) := hor2 0 (by decide)
  have hl2 : M2.1 ol = _ := (by rw [hM2]; exact rM_out (by have := hF.2.2; omega) : M2.1 ol = M1.1 ol).trans hg1
  refine j_istore_7 hC dL_law_1758 (by decide) rfl ?_
  refine j_aload_n hC dL_law_1760 rfl (jrf_ref _) ?_
  refine c_V hC kv_L_138 dL_law_1761 (m_X10_thrown hs9 ho2) ho2 rfl rfl rfl rfl (by decide) (Nat.le_of_ble_eq_true rfl) ?_
  refine j_iload hC dL_law_1764 rfl ?_
  refine j_icmp_eq (tgt := 1771) hC dL_law_1766 (by decide) (fun c1 => ?_) (fun c1 => ?_)
  · refine j_iload hC dL_law_1771 rfl ?_
    refine n_if_ne (tgt := 1788) hC dL_law_1773 (by decide) (by omega) (fun c2 => ?_) (fun c2 => ?_)
    · refine j_goto (tgt := 2148) hC dL_law_1788 (by decide) ?_
      exact j_L (jle_s (jle_s (jle_s (jle_s (jle_s (jle_s (jle_n (jle_n (jle_s (jle_0)))))))))) (j_less (by omega) (by omega) (kk _ _ ⟨R2, hI2, hri2⟩))
    · refine j_aload_n hC dL_law_1776 rfl (jrf_ref _) ?_
      refine j_iconst (v := nI 0) hC dL_law_1777 (by decide) ?_
      refine j_lald hC dL_law_1778 hl2 (vp_in_nI (by decide) (by decide)) ?_
      refine j_topV (v' := .long (cvL (opChain ((g (p + 1))) ((g (p + 2))) (S, P, V, b, e, u)).2.1)) (congrArg Value.long (by rw [nI_clamp (by decide)]; exact hg2 (by assumption))) ?_
      refine j_iload hC dL_law_1779 rfl ?_
      refine j_i2l hC dL_law_1781 ?_
      refine j_lcmp hC dL_law_1782 ?_
      refine j_topV (v' := .int 0) (congrArg Value.int (lg_self)) ?_
      refine j_if_eq (tgt := 1788) hC dL_law_1783 (by decide) (fun c3 => ?_) (fun c3 => ?_)
      · refine j_goto (tgt := 2148) hC dL_law_1788 (by decide) ?_
        exact j_L (jle_s (jle_s (jle_s (jle_s (jle_s (jle_s (jle_n (jle_n (jle_s (jle_0)))))))))) (j_less (by omega) (by omega) (kk _ _ ⟨R2, hI2, hri2⟩))
      · first | exact absurd hr0 (by assumption) | exact absurd rfl (by assumption) | exact absurd hc9 (by assumption) | contradiction
  · first | exact absurd hr0 (by assumption) | exact absurd rfl (by assumption) | exact absurd hc9 (by assumption) | contradiction
set_option maxHeartbeats 4000000 in
set_option maxRecDepth 100000 in
theorem lc_kept {C : jC} {Q : Option Value → jM → Prop} {X : String → jM → Prop} (hC9 : jOK jL_law 20 C Q X) {M : jM} {a n p m c o ol od : Nat} {g : Nat → Int32} {T : aSt} (hF : LF (jCG C) a c o ol od n) (h : LI (jCG C) M a n g c o ol od T) (hp : p + 4 ≤ n) (kk : ∀ M2 T2, LI (jCG C) M2 a n g c o ol od T2 → J C M2 (614 * m) (11457 * m) 2148 [some (.ref (a)), some (.ref (c)), some (.ref (o)), some (.ref (ol)), some (.ref (od)), some (.int (nI (p))), none, none, none] []) : J C M (614 * (m + 1)) (11457 * (m + 1)) 1791 [some (.ref (a)), some (.ref (c)), some (.ref (o)), some (.ref (ol)), some (.ref (od)), some (.int (nI (p))), none, none, none] [] := by
  have hC := hC9.z
  have hs9 := jOK0_tr hC
  obtain ⟨S, P, V, b, e, u⟩ := T
  obtain ⟨R, hI, hri⟩ := h
  obtain ⟨Z, v, hcI, hol, hod, hor, hoz, hA⟩ := id hI
  have hcJ : cJ (jCG C) M Z c v S P V b e u := hcI
  have hn20 : n < 20000 := hF.2.2.2.2.2
  have hBo : gB (jCG C) ≤ o := by have h1 := hF.2.1; have h2 := hF.2.2.2.2.1; omega
  refine j_aload_n hC dL_law_1791 rfl (jrf_ref _) ?_
  refine j_aload_n hC dL_law_1792 rfl (jrf_ref _) ?_
  refine j_iload hC dL_law_1793 rfl ?_
  refine j_iconst (v := nI 1) hC dL_law_1795 (by decide) ?_
  refine n_iadd hC dL_law_1796 ?_
  refine c_iald (i := p + 1) (x := (g (p + 1))) hC dL_law_1797 (hA) (by omega) (by omega) (rfl) ?_
  refine j_aload_n hC dL_law_1798 rfl (jrf_ref _) ?_
  refine j_callSH hC ks_L_218 (0, 9, 12, 24) [(0, 9, 15, 97)] rfl dL_law_1799 (w_kept (q := ((g (p + 1)))) hs9 hcJ hol) rfl rfl (by decide) (by omega) (by omega) (Nat.le_of_ble_eq_true rfl) (fun v9 M1 h9 => ?_)
  obtain ⟨rfl, hlt9, ⟨g1, hg1, hg2⟩, hW⟩ := h9
  have hI1 := lh_o hF hcI hol hod hor hoz hA hW ⟨g1, hg1⟩
  obtain ⟨Z1, v1, hcI1, hol1, hod1, hor1, hoz1, hA1⟩ := id hI1
  have ho1 : M1.1 o = some (.inr (14, rF o R)) := hor1 0 (by decide)
  refine j_istore_6 hC dL_law_1802 (by decide) rfl ?_
  refine j_aload_n hC dL_law_1804 rfl (jrf_ref _) ?_
  refine j_aload_n hC dL_law_1805 rfl (jrf_ref _) ?_
  refine j_iload hC dL_law_1806 rfl ?_
  refine j_iconst (v := nI 1) hC dL_law_1808 (by decide) ?_
  refine n_iadd hC dL_law_1809 ?_
  refine c_iald (i := p + 1) (x := (g (p + 1))) hC dL_law_1810 (hA1) (by omega) (by omega) (rfl) ?_
  have hcon := o_X10_kept (r := ((g (p + 1)))) R (S, P, V, b, e, u) hri (jCG C) o M1 hs9 hBo
  rw [rM_self hor1] at hcon
  refine c_Pv (kc := (614 * (m + 1) - 2)) (ks := (11457 * (m + 1) - 12)) hC kv_L_220 dL_law_1811 hcon ho1 rfl rfl rfl rfl (by decide) (Nat.le_of_ble_eq_true rfl) ?_
  intro v9 M2 h9
  obtain ⟨R2, ⟨rfl, hr0, hri2⟩, hM2⟩ := h9
  have hI2 := lh_ref hF hI1 hM2
  obtain ⟨Z2, v2, hcI2, hol2, hod2, hor2, hoz2, hA2⟩ := id hI2
  have ho2 : M2.1 o = some (.inr (14, rF o R2)) := hor2 0 (by decide)
  have hl2 : M2.1 ol = _ := (by rw [hM2]; exact rM_out (by have := hF.2.2; omega) : M2.1 ol = M1.1 ol).trans hg1
  refine j_istore_7 hC dL_law_1814 (by decide) rfl ?_
  refine j_aload_n hC dL_law_1816 rfl (jrf_ref _) ?_
  refine c_V hC kv_L_138 dL_law_1817 (m_X10_thrown hs9 ho2) ho2 rfl rfl rfl rfl (by decide) (Nat.le_of_ble_eq_true rfl) ?_
  refine j_iload hC dL_law_1820 rfl ?_
  refine j_icmp_eq (tgt := 1827) hC dL_law_1822 (by decide) (fun c1 => ?_) (fun c1 => ?_)
  · refine j_iload hC dL_law_1827 rfl ?_
    refine n_if_ne (tgt := 1844) hC dL_law_1829 (by decide) (by omega) (fun c2 => ?_) (fun c2 => ?_)
    · refine j_goto (tgt := 2148) hC dL_law_1844 (by decide) ?_
      exact j_L (jle_s (jle_s (jle_s (jle_s (jle_s (jle_s (jle_n (jle_n (jle_s (jle_0)))))))))) (j_less (by omega) (by omega) (kk _ _ ⟨R2, hI2, hri2⟩))
    · refine j_aload_n hC dL_law_1832 rfl (jrf_ref _) ?_
      refine j_iconst (v := nI 0) hC dL_law_1833 (by decide) ?_
      refine j_lald hC dL_law_1834 hl2 (vp_in_nI (by decide) (by decide)) ?_
      refine j_topV (v' := .long (cvL (opKept ((g (p + 1))) (S, P, V, b, e, u)).2.1)) (congrArg Value.long (by rw [nI_clamp (by decide)]; exact hg2 (by assumption))) ?_
      refine j_iload hC dL_law_1835 rfl ?_
      refine j_i2l hC dL_law_1837 ?_
      refine j_lcmp hC dL_law_1838 ?_
      refine j_topV (v' := .int 0) (congrArg Value.int (lg_self)) ?_
      refine j_if_eq (tgt := 1844) hC dL_law_1839 (by decide) (fun c3 => ?_) (fun c3 => ?_)
      · refine j_goto (tgt := 2148) hC dL_law_1844 (by decide) ?_
        exact j_L (jle_s (jle_s (jle_s (jle_s (jle_s (jle_s (jle_n (jle_n (jle_s (jle_0)))))))))) (j_less (by omega) (by omega) (kk _ _ ⟨R2, hI2, hri2⟩))
      · first | exact absurd hr0 (by assumption) | exact absurd rfl (by assumption) | exact absurd hc9 (by assumption) | contradiction
  · first | exact absurd hr0 (by assumption) | exact absurd rfl (by assumption) | exact absurd hc9 (by assumption) | contradiction
set_option maxHeartbeats 4000000 in
set_option maxRecDepth 100000 in
theorem lc_preview {C : jC} {Q : Option Value → jM → Prop} {X : String → jM → Prop} (hC9 : jOK jL_law 20 C Q X) {M : jM} {a n p m c o ol od : Nat} {g : Nat → Int32} {T : aSt} (hF : LF (jCG C) a c o ol od n) (h : LI (jCG C) M a n g c o ol od T) (hp : p + 4 ≤ n) (kk : ∀ M2 T2, LI (jCG C) M2 a n g c o ol od T2 → J C M2 (614 * m) (11457 * m) 2148 [some (.ref (a)), some (.ref (c)), some (.ref (o)), some (.ref (ol)), some (.ref (od)), some (.int (nI (p))), none, none, none] []) : J C M (614 * (m + 1)) (11457 * (m + 1)) 1847 [some (.ref (a)), some (.ref (c)), some (.ref (o)), some (.ref (ol)), some (.ref (od)), some (.int (nI (p))), none, none, none] [] := by
  have hC := hC9.z
  have hs9 := jOK0_tr hC
  obtain ⟨S, P, V, b, e, u⟩ := T
  obtain ⟨R, hI, hri⟩ := h
  obtain ⟨Z, v, hcI, hol, hod, hor, hoz, hA⟩ := id hI
  have hcJ : cJ (jCG C) M Z c v S P V b e u := hcI
  have hn20 : n < 20000 := hF.2.2.2.2.2
  have hBo : gB (jCG C) ≤ o := by have h1 := hF.2.1; have h2 := hF.2.2.2.2.1; omega
  refine j_aload_n hC dL_law_1847 rfl (jrf_ref _) ?_
  refine j_aload_n hC dL_law_1848 rfl (jrf_ref _) ?_
  refine j_iload hC dL_law_1849 rfl ?_
  refine j_iconst (v := nI 1) hC dL_law_1851 (by decide) ?_
  refine n_iadd hC dL_law_1852 ?_
  refine c_iald (i := p + 1) (x := (g (p + 1))) hC dL_law_1853 (hA) (by omega) (by omega) (rfl) ?_
  refine j_aload_n hC dL_law_1854 rfl (jrf_ref _) ?_
  refine j_callSH hC ks_L_221 (0, 9, 12, 24) [] rfl dL_law_1855 (w_preview (q := ((g (p + 1)))) hs9 hcJ hol) rfl rfl (by decide) (by omega) (by omega) (Nat.le_of_ble_eq_true rfl) (fun v9 M1 h9 => ?_)
  obtain ⟨rfl, hlt9, ⟨g1, hg1, hg2⟩, hW⟩ := h9
  have hI1 := lh_o hF hcI hol hod hor hoz hA hW ⟨g1, hg1⟩
  obtain ⟨Z1, v1, hcI1, hol1, hod1, hor1, hoz1, hA1⟩ := id hI1
  have ho1 : M1.1 o = some (.inr (14, rF o R)) := hor1 0 (by decide)
  refine j_istore_6 hC dL_law_1858 (by decide) rfl ?_
  refine j_aload_n hC dL_law_1860 rfl (jrf_ref _) ?_
  refine j_aload_n hC dL_law_1861 rfl (jrf_ref _) ?_
  refine j_iload hC dL_law_1862 rfl ?_
  refine j_iconst (v := nI 1) hC dL_law_1864 (by decide) ?_
  refine n_iadd hC dL_law_1865 ?_
  refine c_iald (i := p + 1) (x := (g (p + 1))) hC dL_law_1866 (hA1) (by omega) (by omega) (rfl) ?_
  have hcon := o_X10_preview (r := ((g (p + 1)))) R (S, P, V, b, e, u) hri (jCG C) o M1 hs9 hBo
  rw [rM_self hor1] at hcon
  refine c_Pv (kc := (614 * (m + 1) - 1)) (ks := (11457 * (m + 1) - 6)) hC kv_L_223 dL_law_1867 hcon ho1 rfl rfl rfl rfl (by decide) (Nat.le_of_ble_eq_true rfl) ?_
  intro v9 M2 h9
  obtain ⟨R2, ⟨rfl, hr0, hri2⟩, hM2⟩ := h9
  have hI2 := lh_ref hF hI1 hM2
  obtain ⟨Z2, v2, hcI2, hol2, hod2, hor2, hoz2, hA2⟩ := id hI2
  have ho2 : M2.1 o = some (.inr (14, rF o R2)) := hor2 0 (by decide)
  have hl2 : M2.1 ol = _ := (by rw [hM2]; exact rM_out (by have := hF.2.2; omega) : M2.1 ol = M1.1 ol).trans hg1
  refine j_istore_7 hC dL_law_1870 (by decide) rfl ?_
  refine j_aload_n hC dL_law_1872 rfl (jrf_ref _) ?_
  refine c_V hC kv_L_138 dL_law_1873 (m_X10_thrown hs9 ho2) ho2 rfl rfl rfl rfl (by decide) (Nat.le_of_ble_eq_true rfl) ?_
  refine j_iload hC dL_law_1876 rfl ?_
  refine j_icmp_eq (tgt := 1883) hC dL_law_1878 (by decide) (fun c1 => ?_) (fun c1 => ?_)
  · refine j_iload hC dL_law_1883 rfl ?_
    refine n_if_ne (tgt := 1900) hC dL_law_1885 (by decide) (by omega) (fun c2 => ?_) (fun c2 => ?_)
    · refine j_goto (tgt := 2148) hC dL_law_1900 (by decide) ?_
      exact j_L (jle_s (jle_s (jle_s (jle_s (jle_s (jle_s (jle_n (jle_n (jle_s (jle_0)))))))))) (j_less (by omega) (by omega) (kk _ _ ⟨R2, hI2, hri2⟩))
    · refine j_aload_n hC dL_law_1888 rfl (jrf_ref _) ?_
      refine j_iconst (v := nI 0) hC dL_law_1889 (by decide) ?_
      refine j_lald hC dL_law_1890 hl2 (vp_in_nI (by decide) (by decide)) ?_
      refine j_topV (v' := .long (cvL (opPreview ((g (p + 1))) (S, P, V, b, e, u)).2.1)) (congrArg Value.long (by rw [nI_clamp (by decide)]; exact hg2 (by assumption))) ?_
      refine j_iload hC dL_law_1891 rfl ?_
      refine j_i2l hC dL_law_1893 ?_
      refine j_lcmp hC dL_law_1894 ?_
      refine j_topV (v' := .int 0) (congrArg Value.int (lg_self)) ?_
      refine j_if_eq (tgt := 1900) hC dL_law_1895 (by decide) (fun c3 => ?_) (fun c3 => ?_)
      · refine j_goto (tgt := 2148) hC dL_law_1900 (by decide) ?_
        exact j_L (jle_s (jle_s (jle_s (jle_s (jle_s (jle_s (jle_n (jle_n (jle_s (jle_0)))))))))) (j_less (by omega) (by omega) (kk _ _ ⟨R2, hI2, hri2⟩))
      · first | exact absurd hr0 (by assumption) | exact absurd rfl (by assumption) | exact absurd hc9 (by assumption) | contradiction
  · first | exact absurd hr0 (by assumption) | exact absurd rfl (by assumption) | exact absurd hc9 (by assumption) | contradiction
set_option maxHeartbeats 4000000 in
set_option maxRecDepth 100000 in
theorem lc_meanLength {C : jC} {Q : Option Value → jM → Prop} {X : String → jM → Prop} (hC9 : jOK jL_law 20 C Q X) {M : jM} {a n p m c o ol od : Nat} {g : Nat → Int32} {T : aSt} (hF : LF (jCG C) a c o ol od n) (h : LI (jCG C) M a n g c o ol od T) (hp : p + 4 ≤ n) (kk : ∀ M2 T2, LI (jCG C) M2 a n g c o ol od T2 → J C M2 (614 * m) (11457 * m) 2148 [some (.ref (a)), some (.ref (c)), some (.ref (o)), some (.ref (ol)), some (.ref (od)), some (.int (nI (p))), none, none, none] []) : J C M (614 * (m + 1)) (11457 * (m + 1)) 1903 [some (.ref (a)), some (.ref (c)), some (.ref (o)), some (.ref (ol)), some (.ref (od)), some (.int (nI (p))), none, none, none] [] := by
  have hC := hC9.z
  have hs9 := jOK0_tr hC
  obtain ⟨S, P, V, b, e, u⟩ := T
  obtain ⟨R, hI, hri⟩ := h
  obtain ⟨Z, v, hcI, hol, hod, hor, hoz, hA⟩ := id hI
  have hcJ : cJ (jCG C) M Z c v S P V b e u := hcI
  have hn20 : n < 20000 := hF.2.2.2.2.2
  have hBo : gB (jCG C) ≤ o := by have h1 := hF.2.1; have h2 := hF.2.2.2.2.1; omega
  refine j_aload_n hC dL_law_1903 rfl (jrf_ref _) ?_
  refine j_aload hC dL_law_1904 rfl (jrf_ref _) ?_
  refine j_callSH hC ks_L_224 (0, 7, 10, 15) [(0, 7, 13, 112)] rfl dL_law_1906 (w_meanLength hs9 hcJ hod) rfl rfl (by decide) (by omega) (by omega) (Nat.le_of_ble_eq_true rfl) (fun v9 M1 h9 => ?_)
  obtain ⟨rfl, hlt9, ⟨g1, hg1, hg2⟩, hW⟩ := h9
  have hI1 := lh_d hF hcI hol hod hor hoz hA hW ⟨g1, hg1⟩
  obtain ⟨Z1, v1, hcI1, hol1, hod1, hor1, hoz1, hA1⟩ := id hI1
  have ho1 : M1.1 o = some (.inr (14, rF o R)) := hor1 0 (by decide)
  refine j_istore_6 hC dL_law_1909 (by decide) rfl ?_
  refine j_aload_n hC dL_law_1911 rfl (jrf_ref _) ?_
  have hcon := o_X10_meanLength R (S, P, V, b, e, u) hri (jCG C) o M1 hs9 hBo
  rw [rM_self hor1] at hcon
  refine c_Pv (kc := (614 * (m + 1) - 2)) (ks := (11457 * (m + 1) - 12)) hC kv_L_227 dL_law_1912 hcon ho1 rfl rfl rfl rfl (by decide) (Nat.le_of_ble_eq_true rfl) ?_
  intro v9 M2 h9
  obtain ⟨R2, ⟨rfl, hr0, hri2⟩, hM2⟩ := h9
  have hI2 := lh_ref hF hI1 hM2
  obtain ⟨Z2, v2, hcI2, hol2, hod2, hor2, hoz2, hA2⟩ := id hI2
  have ho2 : M2.1 o = some (.inr (14, rF o R2)) := hor2 0 (by decide)
  have hl2 : M2.1 od = _ := (by rw [hM2]; exact rM_out (by have := hF.2.2; omega) : M2.1 od = M1.1 od).trans hg1
  obtain ⟨x9, hx9⟩ := mean_d (T := (S, P, V, b, e, u))
  refine j_topV hx9 ?_
  refine j_dstore_7 hC dL_law_1915 (by decide) rfl ?_
  refine j_aload_n hC dL_law_1917 rfl (jrf_ref _) ?_
  refine c_V hC kv_L_138 dL_law_1918 (m_X10_thrown hs9 ho2) ho2 rfl rfl rfl rfl (by decide) (Nat.le_of_ble_eq_true rfl) ?_
  refine j_iload hC dL_law_1921 rfl ?_
  refine j_icmp_eq (tgt := 1928) hC dL_law_1923 (by decide) (fun c1 => ?_) (fun c1 => ?_)
  · refine j_iload hC dL_law_1928 rfl ?_
    refine n_if_ne (tgt := 1965) hC dL_law_1930 (by decide) (by omega) (fun c2 => ?_) (fun c2 => ?_)
    · refine j_goto (tgt := 2148) hC dL_law_1965 (by decide) ?_
      exact j_L (jle_s (jle_s (jle_s (jle_s (jle_s (jle_s (jle_n (jle_n (jle_s (jle_0)))))))))) (j_less (by omega) (by omega) (kk _ _ ⟨R2, hI2, hri2⟩))
    · refine j_aload hC dL_law_1933 rfl (jrf_ref _) ?_
      refine j_iconst (v := nI 0) hC dL_law_1935 (by decide) ?_
      have hg3 : g1 0 = x9 := by
        have h9 : (opMean (S, P, V, b, e, u)).2 = .double (g1 0) := hg2 (by assumption)
        rw [hx9] at h9
        injection h9 with h9
        exact h9.symm
      refine j_dald hC dL_law_1936 hl2 (vp_in_nI (by decide) (by decide)) ?_
      refine j_topV (v' := .double x9) (congrArg Value.double (by rw [nI_clamp (by decide)]; exact hg3)) ?_
      refine j_dload hC dL_law_1937 rfl ?_
      refine j_dcmp hC dL_law_1939 ?_
      refine j_if_eq (tgt := 1965) hC dL_law_1940 (by decide) (fun c3 => ?_) (fun c3 => ?_)
      · refine j_goto (tgt := 2148) hC dL_law_1965 (by decide) ?_
        exact j_L (jle_s (jle_s (jle_s (jle_s (jle_s (jle_s (jle_n (jle_n (jle_s (jle_0)))))))))) (j_less (by omega) (by omega) (kk _ _ ⟨R2, hI2, hri2⟩))
      · refine j_aload hC dL_law_1943 rfl (jrf_ref _) ?_
        refine j_iconst (v := nI 0) hC dL_law_1945 (by decide) ?_
        refine j_dald hC dL_law_1946 hl2 (vp_in_nI (by decide) (by decide)) ?_
        refine j_topV (v' := .double x9) (congrArg Value.double (by rw [nI_clamp (by decide)]; exact hg3)) ?_
        refine j_aload hC dL_law_1947 rfl (jrf_ref _) ?_
        refine j_iconst (v := nI 0) hC dL_law_1949 (by decide) ?_
        refine j_dald hC dL_law_1950 hl2 (vp_in_nI (by decide) (by decide)) ?_
        refine j_topV (v' := .double x9) (congrArg Value.double (by rw [nI_clamp (by decide)]; exact hg3)) ?_
        refine j_dcmp hC dL_law_1951 ?_
        refine j_if_eq (tgt := 1963) hC dL_law_1952 (by decide) (fun c4 => ?_) (fun c4 => ?_)
        · first | exact absurd hr0 (by assumption) | exact absurd rfl (by assumption) | exact absurd hc9 (by assumption) | contradiction
        · refine j_dload hC dL_law_1955 rfl ?_
          refine j_dload hC dL_law_1957 rfl ?_
          refine j_dcmp hC dL_law_1959 ?_
          refine j_if_ne (tgt := 1965) hC dL_law_1960 (by decide) (fun c5 => ?_) (fun c5 => ?_)
          · refine j_goto (tgt := 2148) hC dL_law_1965 (by decide) ?_
            exact j_L (jle_s (jle_s (jle_s (jle_s (jle_s (jle_s (jle_n (jle_n (jle_s (jle_0)))))))))) (j_less (by omega) (by omega) (kk _ _ ⟨R2, hI2, hri2⟩))
          · first | exact absurd hr0 (by assumption) | exact absurd rfl (by assumption) | exact absurd hc9 (by assumption) | contradiction
  · first | exact absurd hr0 (by assumption) | exact absurd rfl (by assumption) | exact absurd hc9 (by assumption) | contradiction
set_option maxHeartbeats 4000000 in
set_option maxRecDepth 100000 in
theorem lc_share {C : jC} {Q : Option Value → jM → Prop} {X : String → jM → Prop} (hC9 : jOK jL_law 20 C Q X) {M : jM} {a n p m c o ol od : Nat} {g : Nat → Int32} {T : aSt} (hF : LF (jCG C) a c o ol od n) (h : LI (jCG C) M a n g c o ol od T) (hp : p + 4 ≤ n) (kk : ∀ M2 T2, LI (jCG C) M2 a n g c o ol od T2 → J C M2 (614 * m) (11457 * m) 2148 [some (.ref (a)), some (.ref (c)), some (.ref (o)), some (.ref (ol)), some (.ref (od)), some (.int (nI (p))), none, none, none] []) : J C M (614 * (m + 1)) (11457 * (m + 1)) 1968 [some (.ref (a)), some (.ref (c)), some (.ref (o)), some (.ref (ol)), some (.ref (od)), some (.int (nI (p))), none, none, none] [] := by
  have hC := hC9.z
  have hs9 := jOK0_tr hC
  obtain ⟨S, P, V, b, e, u⟩ := T
  obtain ⟨R, hI, hri⟩ := h
  obtain ⟨Z, v, hcI, hol, hod, hor, hoz, hA⟩ := id hI
  have hcJ : cJ (jCG C) M Z c v S P V b e u := hcI
  have hn20 : n < 20000 := hF.2.2.2.2.2
  have hBo : gB (jCG C) ≤ o := by have h1 := hF.2.1; have h2 := hF.2.2.2.2.1; omega
  refine j_aload_n hC dL_law_1968 rfl (jrf_ref _) ?_
  refine j_aload hC dL_law_1969 rfl (jrf_ref _) ?_
  refine j_callSH hC ks_L_228 (0, 8, 11, 15) [] rfl dL_law_1971 (w_share hs9 hcJ hod) rfl rfl (by decide) (by omega) (by omega) (Nat.le_of_ble_eq_true rfl) (fun v9 M1 h9 => ?_)
  obtain ⟨rfl, hlt9, ⟨g1, hg1, hg2⟩, hW⟩ := h9
  have hI1 := lh_d hF hcI hol hod hor hoz hA hW ⟨g1, hg1⟩
  obtain ⟨Z1, v1, hcI1, hol1, hod1, hor1, hoz1, hA1⟩ := id hI1
  have ho1 : M1.1 o = some (.inr (14, rF o R)) := hor1 0 (by decide)
  refine j_istore_6 hC dL_law_1974 (by decide) rfl ?_
  refine j_aload_n hC dL_law_1976 rfl (jrf_ref _) ?_
  have hcon := o_X10_share R (S, P, V, b, e, u) hri (jCG C) o M1 hs9 hBo
  rw [rM_self hor1] at hcon
  refine c_Pv (kc := (614 * (m + 1) - 1)) (ks := (11457 * (m + 1) - 6)) hC kv_L_230 dL_law_1977 hcon ho1 rfl rfl rfl rfl (by decide) (Nat.le_of_ble_eq_true rfl) ?_
  intro v9 M2 h9
  obtain ⟨R2, ⟨rfl, hr0, hri2⟩, hM2⟩ := h9
  have hI2 := lh_ref hF hI1 hM2
  obtain ⟨Z2, v2, hcI2, hol2, hod2, hor2, hoz2, hA2⟩ := id hI2
  have ho2 : M2.1 o = some (.inr (14, rF o R2)) := hor2 0 (by decide)
  have hl2 : M2.1 od = _ := (by rw [hM2]; exact rM_out (by have := hF.2.2; omega) : M2.1 od = M1.1 od).trans hg1
  obtain ⟨x9, hx9, hn9, hc9⟩ := share_f hcI
  refine j_topV hx9 ?_
  refine j_fstore_7 hC dL_law_1980 (by decide) rfl ?_
  refine j_aload_n hC dL_law_1982 rfl (jrf_ref _) ?_
  refine c_V hC kv_L_138 dL_law_1983 (m_X10_thrown hs9 ho2) ho2 rfl rfl rfl rfl (by decide) (Nat.le_of_ble_eq_true rfl) ?_
  refine j_iload hC dL_law_1986 rfl ?_
  refine j_icmp_eq (tgt := 1993) hC dL_law_1988 (by decide) (fun c1 => ?_) (fun c1 => ?_)
  · refine j_iload hC dL_law_1993 rfl ?_
    refine n_if_ne (tgt := 2031) hC dL_law_1995 (by decide) (by omega) (fun c2 => ?_) (fun c2 => ?_)
    · refine j_goto (tgt := 2148) hC dL_law_2031 (by decide) ?_
      exact j_L (jle_s (jle_s (jle_s (jle_s (jle_s (jle_s (jle_n (jle_n (jle_s (jle_0)))))))))) (j_less (by omega) (by omega) (kk _ _ ⟨R2, hI2, hri2⟩))
    · refine j_aload hC dL_law_1998 rfl (jrf_ref _) ?_
      refine j_iconst (v := nI 0) hC dL_law_2000 (by decide) ?_
      have hg3 : g1 0 = FP.f2d x9 := by
        obtain ⟨f9, h9, h8⟩ : relF (g1 0) (opShare (S, P, V, b, e, u)).2 := hg2 (by assumption)
        rw [hx9] at h9
        injection h9 with h9
        rw [h8, h9]
      refine j_dald hC dL_law_2001 hl2 (vp_in_nI (by decide) (by decide)) ?_
      refine j_topV (v' := .double (FP.f2d x9)) (congrArg Value.double (by rw [nI_clamp (by decide)]; exact hg3)) ?_
      refine j_fload hC dL_law_2002 rfl ?_
      refine j_f2d hC dL_law_2004 hn9 ?_
      refine j_dcmp hC dL_law_2005 ?_
      refine j_if_eq (tgt := 2031) hC dL_law_2006 (by decide) (fun c3 => ?_) (fun c3 => ?_)
      · refine j_goto (tgt := 2148) hC dL_law_2031 (by decide) ?_
        exact j_L (jle_s (jle_s (jle_s (jle_s (jle_s (jle_s (jle_n (jle_n (jle_s (jle_0)))))))))) (j_less (by omega) (by omega) (kk _ _ ⟨R2, hI2, hri2⟩))
      · refine j_aload hC dL_law_2009 rfl (jrf_ref _) ?_
        refine j_iconst (v := nI 0) hC dL_law_2011 (by decide) ?_
        refine j_dald hC dL_law_2012 hl2 (vp_in_nI (by decide) (by decide)) ?_
        refine j_topV (v' := .double (FP.f2d x9)) (congrArg Value.double (by rw [nI_clamp (by decide)]; exact hg3)) ?_
        refine j_aload hC dL_law_2013 rfl (jrf_ref _) ?_
        refine j_iconst (v := nI 0) hC dL_law_2015 (by decide) ?_
        refine j_dald hC dL_law_2016 hl2 (vp_in_nI (by decide) (by decide)) ?_
        refine j_topV (v' := .double (FP.f2d x9)) (congrArg Value.double (by rw [nI_clamp (by decide)]; exact hg3)) ?_
        refine j_dcmp hC dL_law_2017 ?_
        refine j_if_eq (tgt := 2029) hC dL_law_2018 (by decide) (fun c4 => ?_) (fun c4 => ?_)
        · first | exact absurd hr0 (by assumption) | exact absurd rfl (by assumption) | exact absurd hc9 (by assumption) | contradiction
        · refine j_fload hC dL_law_2021 rfl ?_
          refine j_fload hC dL_law_2023 rfl ?_
          refine j_fcmp hC dL_law_2025 ?_
          refine j_if_ne (tgt := 2031) hC dL_law_2026 (by decide) (fun c5 => ?_) (fun c5 => ?_)
          · refine j_goto (tgt := 2148) hC dL_law_2031 (by decide) ?_
            exact j_L (jle_s (jle_s (jle_s (jle_s (jle_s (jle_s (jle_n (jle_n (jle_s (jle_0)))))))))) (j_less (by omega) (by omega) (kk _ _ ⟨R2, hI2, hri2⟩))
          · first | exact absurd hr0 (by assumption) | exact absurd rfl (by assumption) | exact absurd hc9 (by assumption) | contradiction
  · first | exact absurd hr0 (by assumption) | exact absurd rfl (by assumption) | exact absurd hc9 (by assumption) | contradiction
set_option maxHeartbeats 4000000 in
set_option maxRecDepth 100000 in
theorem lc_isOrderFree {C : jC} {Q : Option Value → jM → Prop} {X : String → jM → Prop} (hC9 : jOK jL_law 20 C Q X) {M : jM} {a n p m c o ol od : Nat} {g : Nat → Int32} {T : aSt} (hF : LF (jCG C) a c o ol od n) (h : LI (jCG C) M a n g c o ol od T) (hp : p + 4 ≤ n) (kk : ∀ M2 T2, LI (jCG C) M2 a n g c o ol od T2 → J C M2 (614 * m) (11457 * m) 2148 [some (.ref (a)), some (.ref (c)), some (.ref (o)), some (.ref (ol)), some (.ref (od)), some (.int (nI (p))), none, none, none] []) : J C M (614 * (m + 1)) (11457 * (m + 1)) 2034 [some (.ref (a)), some (.ref (c)), some (.ref (o)), some (.ref (ol)), some (.ref (od)), some (.int (nI (p))), none, none, none] [] := by
  have hC := hC9.z
  have hs9 := jOK0_tr hC
  obtain ⟨S, P, V, b, e, u⟩ := T
  obtain ⟨R, hI, hri⟩ := h
  obtain ⟨Z, v, hcI, hol, hod, hor, hoz, hA⟩ := id hI
  have hcJ : cJ (jCG C) M Z c v S P V b e u := hcI
  have hn20 : n < 20000 := hF.2.2.2.2.2
  have hBo : gB (jCG C) ≤ o := by have h1 := hF.2.1; have h2 := hF.2.2.2.2.1; omega
  refine j_aload_n hC dL_law_2034 rfl (jrf_ref _) ?_
  refine j_less (kc' := 614 * m + 0) (ks' := 11457 * m + 0) (by omega) (by omega) ?_
  refine c_Pv (kc := 614 * m) (ks := 11457 * m) hC kv_L_231 dL_law_2035 (m_X9_isOrderFree hs9 hcJ) hcJ.1.1 rfl rfl rfl rfl (by decide) (Nat.le_of_ble_eq_true rfl) ?_
  intro v9 M1 h9
  obtain ⟨h90, rfl, hQ⟩ := h9
  obtain ⟨g1, hg1⟩ := hol.2.2.2.2
  have hW := lw_same (ol := ol) hQ
  have hI1 := lh_o hF hcI hol hod hor hoz hA hW ⟨g1, lw_row hQ hg1 hol.2.1 hol.2.2.1⟩
  obtain ⟨Z1, v1, hcI1, hol1, hod1, hor1, hoz1, hA1⟩ := id hI1
  have ho1 : M1.1 o = some (.inr (14, rF o R)) := hor1 0 (by decide)
  refine j_aload_n hC dL_law_2038 rfl (jrf_ref _) ?_
  have hcon := o_X10_isOrderFree R (S, P, V, b, e, u) hri (jCG C) o M1 hs9 hBo
  rw [rM_self hor1] at hcon
  refine c_Pv (kc := (614 * m)) (ks := (11457 * m)) hC kv_L_235 dL_law_2039 hcon ho1 rfl rfl rfl rfl (by decide) (Nat.le_of_ble_eq_true rfl) ?_
  intro v9 M2 h9
  obtain ⟨R2, ⟨rfl, hr0, hri2⟩, hM2⟩ := h9
  have hI2 := lh_ref hF hI1 hM2
  obtain ⟨Z2, v2, hcI2, hol2, hod2, hor2, hoz2, hA2⟩ := id hI2
  have ho2 : M2.1 o = some (.inr (14, rF o R2)) := hor2 0 (by decide)
  refine j_icmp_eq (tgt := 2148) hC dL_law_2042 (by decide) (fun c1 => ?_) (fun c1 => ?_)
  · exact j_less (by omega) (by omega) (kk _ _ ⟨R2, hI2, hri2⟩)
  · first | exact absurd hr0 (by assumption) | exact absurd rfl (by assumption) | exact absurd hc9 (by assumption) | contradiction
set_option maxHeartbeats 4000000 in
set_option maxRecDepth 100000 in
theorem lc_undo {C : jC} {Q : Option Value → jM → Prop} {X : String → jM → Prop} (hC9 : jOK jL_law 20 C Q X) {M : jM} {a n p m c o ol od : Nat} {g : Nat → Int32} {T : aSt} (hF : LF (jCG C) a c o ol od n) (h : LI (jCG C) M a n g c o ol od T) (hp : p + 4 ≤ n) (kk : ∀ M2 T2, LI (jCG C) M2 a n g c o ol od T2 → J C M2 (614 * m) (11457 * m) 2148 [some (.ref (a)), some (.ref (c)), some (.ref (o)), some (.ref (ol)), some (.ref (od)), some (.int (nI (p))), none, none, none] []) : J C M (614 * (m + 1)) (11457 * (m + 1)) 2047 [some (.ref (a)), some (.ref (c)), some (.ref (o)), some (.ref (ol)), some (.ref (od)), some (.int (nI (p))), none, none, none] [] := by
  have hC := hC9.z
  have hs9 := jOK0_tr hC
  obtain ⟨S, P, V, b, e, u⟩ := T
  obtain ⟨R, hI, hri⟩ := h
  obtain ⟨Z, v, hcI, hol, hod, hor, hoz, hA⟩ := id hI
  have hcJ : cJ (jCG C) M Z c v S P V b e u := hcI
  have hn20 : n < 20000 := hF.2.2.2.2.2
  have hBo : gB (jCG C) ≤ o := by have h1 := hF.2.1; have h2 := hF.2.2.2.2.1; omega
  refine j_aload_n hC dL_law_2047 rfl (jrf_ref _) ?_
  refine j_aload_n hC dL_law_2048 rfl (jrf_ref _) ?_
  refine j_callSH hC ks_L_236 (0, 8, 11, 15) [] rfl dL_law_2049 (w_undo hs9 hcJ hol) rfl rfl (by decide) (by omega) (by omega) (Nat.le_of_ble_eq_true rfl) (fun v9 M1 h9 => ?_)
  obtain ⟨rfl, hlt9, ⟨g1, hg1, hg2⟩, hW⟩ := h9
  have hI1 := lh_o hF hcI hol hod hor hoz hA hW ⟨g1, hg1⟩
  obtain ⟨Z1, v1, hcI1, hol1, hod1, hor1, hoz1, hA1⟩ := id hI1
  have ho1 : M1.1 o = some (.inr (14, rF o R)) := hor1 0 (by decide)
  refine j_istore_6 hC dL_law_2052 (by decide) rfl ?_
  refine j_aload_n hC dL_law_2054 rfl (jrf_ref _) ?_
  have hcon := o_X10_undo R (S, P, V, b, e, u) hri (jCG C) o M1 hs9 hBo
  rw [rM_self hor1] at hcon
  refine c_Pv (kc := (614 * (m + 1) - 1)) (ks := (11457 * (m + 1) - 6)) hC kv_L_238 dL_law_2055 hcon ho1 rfl rfl rfl rfl (by decide) (Nat.le_of_ble_eq_true rfl) ?_
  intro v9 M2 h9
  obtain ⟨R2, ⟨rfl, hr0, hri2⟩, hM2⟩ := h9
  have hI2 := lh_ref hF hI1 hM2
  obtain ⟨Z2, v2, hcI2, hol2, hod2, hor2, hoz2, hA2⟩ := id hI2
  have ho2 : M2.1 o = some (.inr (14, rF o R2)) := hor2 0 (by decide)
  have hl2 : M2.1 ol = _ := (by rw [hM2]; exact rM_out (by have := hF.2.2; omega) : M2.1 ol = M1.1 ol).trans hg1
  refine j_istore_7 hC dL_law_2058 (by decide) rfl ?_
  refine j_aload_n hC dL_law_2060 rfl (jrf_ref _) ?_
  refine c_V hC kv_L_138 dL_law_2061 (m_X10_thrown hs9 ho2) ho2 rfl rfl rfl rfl (by decide) (Nat.le_of_ble_eq_true rfl) ?_
  refine j_iload hC dL_law_2064 rfl ?_
  refine j_icmp_eq (tgt := 2071) hC dL_law_2066 (by decide) (fun c1 => ?_) (fun c1 => ?_)
  · refine j_iload hC dL_law_2071 rfl ?_
    refine n_if_ne (tgt := 2088) hC dL_law_2073 (by decide) (by omega) (fun c2 => ?_) (fun c2 => ?_)
    · refine j_goto (tgt := 2148) hC dL_law_2088 (by decide) ?_
      exact j_L (jle_s (jle_s (jle_s (jle_s (jle_s (jle_s (jle_n (jle_n (jle_s (jle_0)))))))))) (j_less (by omega) (by omega) (kk _ _ ⟨R2, hI2, hri2⟩))
    · refine j_aload_n hC dL_law_2076 rfl (jrf_ref _) ?_
      refine j_iconst (v := nI 0) hC dL_law_2077 (by decide) ?_
      refine j_lald hC dL_law_2078 hl2 (vp_in_nI (by decide) (by decide)) ?_
      refine j_topV (v' := .long (cvL (opUndo (S, P, V, b, e, u)).2.1)) (congrArg Value.long (by rw [nI_clamp (by decide)]; exact hg2 (by assumption))) ?_
      refine j_iload hC dL_law_2079 rfl ?_
      refine j_i2l hC dL_law_2081 ?_
      refine j_lcmp hC dL_law_2082 ?_
      refine j_topV (v' := .int 0) (congrArg Value.int (lg_self)) ?_
      refine j_if_eq (tgt := 2088) hC dL_law_2083 (by decide) (fun c3 => ?_) (fun c3 => ?_)
      · refine j_goto (tgt := 2148) hC dL_law_2088 (by decide) ?_
        exact j_L (jle_s (jle_s (jle_s (jle_s (jle_s (jle_s (jle_n (jle_n (jle_s (jle_0)))))))))) (j_less (by omega) (by omega) (kk _ _ ⟨R2, hI2, hri2⟩))
      · first | exact absurd hr0 (by assumption) | exact absurd rfl (by assumption) | exact absurd hc9 (by assumption) | contradiction
  · first | exact absurd hr0 (by assumption) | exact absurd rfl (by assumption) | exact absurd hc9 (by assumption) | contradiction
set_option maxHeartbeats 4000000 in
set_option maxRecDepth 100000 in
theorem lc_snapshot {C : jC} {Q : Option Value → jM → Prop} {X : String → jM → Prop} (hC9 : jOK jL_law 20 C Q X) {M : jM} {a n p m c o ol od : Nat} {g : Nat → Int32} {T : aSt} (hF : LF (jCG C) a c o ol od n) (h : LI (jCG C) M a n g c o ol od T) (hp : p + 4 ≤ n) (kk : ∀ M2 T2, LI (jCG C) M2 a n g c o ol od T2 → J C M2 (614 * m) (11457 * m) 2148 [some (.ref (a)), some (.ref (c)), some (.ref (o)), some (.ref (ol)), some (.ref (od)), some (.int (nI (p))), none, none, none] []) : J C M (614 * (m + 1)) (11457 * (m + 1)) 2091 [some (.ref (a)), some (.ref (c)), some (.ref (o)), some (.ref (ol)), some (.ref (od)), some (.int (nI (p))), none, none, none] [] := by
  have hC := hC9.z
  have hs9 := jOK0_tr hC
  obtain ⟨S, P, V, b, e, u⟩ := T
  obtain ⟨R, hI, hri⟩ := h
  obtain ⟨Z, v, hcI, hol, hod, hor, hoz, hA⟩ := id hI
  have hcJ : cJ (jCG C) M Z c v S P V b e u := hcI
  have hn20 : n < 20000 := hF.2.2.2.2.2
  have hBo : gB (jCG C) ≤ o := by have h1 := hF.2.1; have h2 := hF.2.2.2.2.1; omega
  refine j_aload_n hC dL_law_2091 rfl (jrf_ref _) ?_
  refine j_less (kc' := 614 * m + 0) (ks' := 11457 * m + 0) (by omega) (by omega) ?_
  refine c_Pv (kc := 614 * m) (ks := 11457 * m) hC kv_L_239 dL_law_2092 (m_X9_snapshot hs9 hcJ) hcJ.1.1 rfl rfl rfl rfl (by decide) (Nat.le_of_ble_eq_true rfl) ?_
  intro v9 M1 h9
  obtain ⟨h90, rfl, hQ⟩ := h9
  obtain ⟨g1, hg1⟩ := hol.2.2.2.2
  have hW := lw_same (ol := ol) hQ
  have hI1 := lh_o hF hcI hol hod hor hoz hA hW ⟨g1, lw_row hQ hg1 hol.2.1 hol.2.2.1⟩
  obtain ⟨Z1, v1, hcI1, hol1, hod1, hor1, hoz1, hA1⟩ := id hI1
  have ho1 : M1.1 o = some (.inr (14, rF o R)) := hor1 0 (by decide)
  refine j_aload_n hC dL_law_2095 rfl (jrf_ref _) ?_
  have hcon := o_X10_snapshot R (S, P, V, b, e, u) hri (jCG C) o M1 hs9 hBo
  rw [rM_self hor1] at hcon
  refine c_Pv (kc := (614 * m)) (ks := (11457 * m)) hC kv_L_242 dL_law_2096 hcon ho1 rfl rfl rfl rfl (by decide) (Nat.le_of_ble_eq_true rfl) ?_
  intro v9 M2 h9
  obtain ⟨R2, ⟨rfl, hr0, hri2⟩, hM2⟩ := h9
  have hI2 := lh_ref hF hI1 hM2
  obtain ⟨Z2, v2, hcI2, hol2, hod2, hor2, hoz2, hA2⟩ := id hI2
  have ho2 : M2.1 o = some (.inr (14, rF o R2)) := hor2 0 (by decide)
  refine j_icmp_eq (tgt := 2148) hC dL_law_2099 (by decide) (fun c1 => ?_) (fun c1 => ?_)
  · exact j_less (by omega) (by omega) (kk _ _ ⟨R2, hI2, hri2⟩)
  · first | exact absurd hr0 (by assumption) | exact absurd rfl (by assumption) | exact absurd hc9 (by assumption) | contradiction
set_option maxHeartbeats 4000000 in
set_option maxRecDepth 100000 in
theorem lc_restore {C : jC} {Q : Option Value → jM → Prop} {X : String → jM → Prop} (hC9 : jOK jL_law 20 C Q X) {M : jM} {a n p m c o ol od : Nat} {g : Nat → Int32} {T : aSt} (hF : LF (jCG C) a c o ol od n) (h : LI (jCG C) M a n g c o ol od T) (hp : p + 4 ≤ n) (kk : ∀ M2 T2, LI (jCG C) M2 a n g c o ol od T2 → J C M2 (614 * m) (11457 * m) 2148 [some (.ref (a)), some (.ref (c)), some (.ref (o)), some (.ref (ol)), some (.ref (od)), some (.int (nI (p))), none, none, none] []) : J C M (614 * (m + 1)) (11457 * (m + 1)) 2104 [some (.ref (a)), some (.ref (c)), some (.ref (o)), some (.ref (ol)), some (.ref (od)), some (.int (nI (p))), none, none, none] [] := by
  have hC := hC9.z
  have hs9 := jOK0_tr hC
  obtain ⟨S, P, V, b, e, u⟩ := T
  obtain ⟨R, hI, hri⟩ := h
  obtain ⟨Z, v, hcI, hol, hod, hor, hoz, hA⟩ := id hI
  have hcJ : cJ (jCG C) M Z c v S P V b e u := hcI
  have hn20 : n < 20000 := hF.2.2.2.2.2
  have hBo : gB (jCG C) ≤ o := by have h1 := hF.2.1; have h2 := hF.2.2.2.2.1; omega
  refine j_aload_n hC dL_law_2104 rfl (jrf_ref _) ?_
  refine j_aload_n hC dL_law_2105 rfl (jrf_ref _) ?_
  refine j_callSH hC ks_L_243 (0, 8, 11, 15) [] rfl dL_law_2106 (w_restore hs9 hcJ hol) rfl rfl (by decide) (by omega) (by omega) (Nat.le_of_ble_eq_true rfl) (fun v9 M1 h9 => ?_)
  obtain ⟨rfl, hlt9, ⟨g1, hg1, hg2⟩, hW⟩ := h9
  have hI1 := lh_o hF hcI hol hod hor hoz hA hW ⟨g1, hg1⟩
  obtain ⟨Z1, v1, hcI1, hol1, hod1, hor1, hoz1, hA1⟩ := id hI1
  have ho1 : M1.1 o = some (.inr (14, rF o R)) := hor1 0 (by decide)
  refine j_istore_6 hC dL_law_2109 (by decide) rfl ?_
  refine j_aload_n hC dL_law_2111 rfl (jrf_ref _) ?_
  have hcon := o_X10_restore R (S, P, V, b, e, u) hri (jCG C) o M1 hs9 hBo
  rw [rM_self hor1] at hcon
  refine c_Pv (kc := (614 * (m + 1) - 1)) (ks := (11457 * (m + 1) - 6)) hC kv_L_245 dL_law_2112 hcon ho1 rfl rfl rfl rfl (by decide) (Nat.le_of_ble_eq_true rfl) ?_
  intro v9 M2 h9
  obtain ⟨R2, ⟨rfl, hr0, hri2⟩, hM2⟩ := h9
  have hI2 := lh_ref hF hI1 hM2
  obtain ⟨Z2, v2, hcI2, hol2, hod2, hor2, hoz2, hA2⟩ := id hI2
  have ho2 : M2.1 o = some (.inr (14, rF o R2)) := hor2 0 (by decide)
  have hl2 : M2.1 ol = _ := (by rw [hM2]; exact rM_out (by have := hF.2.2; omega) : M2.1 ol = M1.1 ol).trans hg1
  refine j_istore_7 hC dL_law_2115 (by decide) rfl ?_
  refine j_aload_n hC dL_law_2117 rfl (jrf_ref _) ?_
  refine c_V hC kv_L_138 dL_law_2118 (m_X10_thrown hs9 ho2) ho2 rfl rfl rfl rfl (by decide) (Nat.le_of_ble_eq_true rfl) ?_
  refine j_iload hC dL_law_2121 rfl ?_
  refine j_icmp_eq (tgt := 2128) hC dL_law_2123 (by decide) (fun c1 => ?_) (fun c1 => ?_)
  · refine j_iload hC dL_law_2128 rfl ?_
    refine n_if_ne (tgt := 2145) hC dL_law_2130 (by decide) (by omega) (fun c2 => ?_) (fun c2 => ?_)
    · refine j_goto (tgt := 2148) hC dL_law_2145 (by decide) ?_
      exact j_L (jle_s (jle_s (jle_s (jle_s (jle_s (jle_s (jle_n (jle_n (jle_s (jle_0)))))))))) (j_less (by omega) (by omega) (kk _ _ ⟨R2, hI2, hri2⟩))
    · refine j_aload_n hC dL_law_2133 rfl (jrf_ref _) ?_
      refine j_iconst (v := nI 0) hC dL_law_2134 (by decide) ?_
      refine j_lald hC dL_law_2135 hl2 (vp_in_nI (by decide) (by decide)) ?_
      refine j_topV (v' := .long (cvL (opRestore (S, P, V, b, e, u)).2.1)) (congrArg Value.long (by rw [nI_clamp (by decide)]; exact hg2 (by assumption))) ?_
      refine j_iload hC dL_law_2136 rfl ?_
      refine j_i2l hC dL_law_2138 ?_
      refine j_lcmp hC dL_law_2139 ?_
      refine j_topV (v' := .int 0) (congrArg Value.int (lg_self)) ?_
      refine j_if_eq (tgt := 2145) hC dL_law_2140 (by decide) (fun c3 => ?_) (fun c3 => ?_)
      · refine j_goto (tgt := 2148) hC dL_law_2145 (by decide) ?_
        exact j_L (jle_s (jle_s (jle_s (jle_s (jle_s (jle_s (jle_n (jle_n (jle_s (jle_0)))))))))) (j_less (by omega) (by omega) (kk _ _ ⟨R2, hI2, hri2⟩))
      · first | exact absurd hr0 (by assumption) | exact absurd rfl (by assumption) | exact absurd hc9 (by assumption) | contradiction
  · first | exact absurd hr0 (by assumption) | exact absurd rfl (by assumption) | exact absurd hc9 (by assumption) | contradiction
