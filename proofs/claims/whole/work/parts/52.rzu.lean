/-! ===== the reference's constructor ===== -/
def r00 : rR := (fun j => if j = 6 ∨ j = 30 then zI (-1) else 0, fun _ _ => 0)
def iM (o : Nat) (M0 : jM) (k : Nat) (fs : List Value) : jM := (fun a => if a = o then some (.inr (14, fs)) else if o < a ∧ a ≤ o + k then some (rO o r00 (a - o)) else M0.1 a, o + 1 + k)
theorem iM_at {o : Nat} {M0 : jM} {k : Nat} {fs : List Value} : (iM o M0 k fs).1 o = some (.inr (14, fs)) := if_pos rfl
theorem iM_put {o : Nat} {M0 : jM} {k : Nat} {fs fs' : List Value} : jput (iM o M0 k fs) o (.inr (14, fs')) = iM o M0 k fs' := by
  refine Prod.ext (funext fun a => ?_) rfl
  simp only [jput, iM]
  split <;> rfl
theorem iM_new {o : Nat} {M0 : jM} {k : Nat} {fs : List Value} {x : jO} (h : rO o r00 (k + 1) = x) : jnew (iM o M0 k fs) x = iM o M0 (k + 1) fs := by
  refine Prod.ext (funext fun a => ?_) rfl
  by_cases ha : a = o + 1 + k
  · subst ha
    have h1 : (jnew (iM o M0 k fs) x).1 (o + 1 + k) = some x := if_pos rfl
    rw [h1]
    refine ((if_neg (by omega)).trans ((if_pos (by omega)).trans ?_)).symm
    rw [show o + 1 + k - o = k + 1 by omega, h]
  · have h1 : (jnew (iM o M0 k fs) x).1 a = (iM o M0 k fs).1 a := if_neg ha
    rw [h1]
    simp only [iM]
    by_cases h1 : a = o
    · rw [if_pos h1, if_pos h1]
    · rw [if_neg h1, if_neg h1]
      by_cases h2 : o < a ∧ a ≤ o + k
      · rw [if_pos h2, if_pos (by omega)]
      · rw [if_neg h2, if_neg (by omega)]
theorem iM_0 {o : Nat} {M : jM} {fs : List Value} (h : M.1 o = some (.inr (14, fs))) (h2 : M.2 = o + 1) : M = iM o M 0 fs := by
  refine Prod.ext (funext fun a => ?_) h2
  simp only [iM]
  by_cases h1 : a = o
  · rw [if_pos h1, h1, h]
  · rw [if_neg h1, if_neg (by omega)]
theorem iM_end {o : Nat} {M0 : jM} : iM o M0 20 (rF o r00) = rM o (M0.1, o + 21) r00 := by
  refine Prod.ext (funext fun a => ?_) rfl
  simp only [iM, rM]
  by_cases h1 : a = o
  · rw [if_pos h1, if_pos (by omega), h1, Nat.sub_self]
    rfl
  · rw [if_neg h1]
    by_cases h2 : o < a ∧ a ≤ o + 20
    · rw [if_pos h2, if_pos (by omega)]
    · rw [if_neg h2, if_neg (by omega)]
section IN
variable {C : jC} {y : jY} {d : Nat} {M0 : jM} {kc ks pc o k : Nat} {l : List (Option Value)} {st : List Value} {fs : List Value}
theorem j_M {M M' : jM} (h : M = M') (kk : J C M' kc ks pc l st) : J C M kc ks pc l st := h ▸ kk
theorem i_putF (hC : jOK0 y d C) {idx i : Nat} {ty : FieldType} {v : Value} (hf : jFl y.1.cls idx 14 i ty 2) (hini : y.1.name = "<init>") (hd : decode y.2.1 pc = .ok (.putfield idx, 3)) (hB : jB C ≤ o) (hn : narrow ty v = v) (hfit : fits ty v = true) {fs' : List Value} (hfs : fs.set i v = fs') (kk : J C (iM o M0 k fs') kc ks (pc + 3) l st) : J C (iM o M0 k fs) kc ks pc l (v :: .ref o :: st) :=
  j_putF hC hf hini hd iM_at hB hn hfit (j_M (by rw [hfs]; exact iM_put) kk)
theorem i_put (hC : jOK0 y d C) {idx i : Nat} {ty : FieldType} {v : Value} (hf : jFl y.1.cls idx 14 i ty 1) (hd : decode y.2.1 pc = .ok (.putfield idx, 3)) (hB : jB C ≤ o) (hn : narrow ty v = v) (hfit : fits ty v = true) {fs' : List Value} (hfs : fs.set i v = fs') (kk : J C (iM o M0 k fs') kc ks (pc + 3) l st) : J C (iM o M0 k fs) kc ks pc l (v :: .ref o :: st) :=
  j_put hC hf hd iM_at hB hn hfit (j_M (by rw [hfs]; exact iM_put) kk)
theorem i_newI (hC : jOK0 y d C) {N : Nat} (hd : decode y.2.1 pc = .ok (.newarray .int, 2)) (hk : rO o r00 (k + 1) = .inl (.int, N, fun _ => .int 0)) (hN : N < 20000) (kk : J C (iM o M0 (k + 1) fs) kc ks (pc + 2) l (.ref (o + (k + 1)) :: st)) : J C (iM o M0 k fs) (kc + 1) (ks + N) pc l (.int (nI N) :: st) := by
  refine j_newa_int hC kr_int hd (nI_pos (by omega)) (nI_clamp (by omega)) (by omega) (by omega) (by omega) ?_
  refine j_M (iM_new hk) ?_
  rw [show (iM o M0 k fs).2 = o + (k + 1) by show o + 1 + k = o + (k + 1); omega, Nat.add_sub_cancel, Nat.add_sub_cancel]
  exact kk
theorem i_newZ (hC : jOK0 y d C) {N : Nat} (hd : decode y.2.1 pc = .ok (.newarray .boolean, 2)) (hk : rO o r00 (k + 1) = .inl (.boolean, N, fun _ => .int 0)) (hN : N < 20000) (kk : J C (iM o M0 (k + 1) fs) kc ks (pc + 2) l (.ref (o + (k + 1)) :: st)) : J C (iM o M0 k fs) (kc + 1) (ks + N) pc l (.int (nI N) :: st) := by
  refine j_newa_boolean hC kr_boolean hd (nI_pos (by omega)) (nI_clamp (by omega)) (by omega) (by omega) (by omega) ?_
  refine j_M (iM_new hk) ?_
  rw [show (iM o M0 k fs).2 = o + (k + 1) by show o + 1 + k = o + (k + 1); omega, Nat.add_sub_cancel, Nat.add_sub_cancel]
  exact kk
end IN
def r01 : rR := ra r00 1 4 (nI 100)
theorem ri_st0 : rInv r01 st0 := by
  have e : ∀ j, j ≠ 4 → r01.2 1 j = 0 := fun j hj => if_neg hj
  refine ⟨⟨e 0 (by decide), e 1 (by decide), e 2 (by decide), e 3 (by decide), ra_s (R := r00) (k := 1) (i := 4), e 5 (by decide), fun i hi => absurd hi (Nat.not_lt_zero i), e 18 (by decide), fun i hi => absurd hi (Nat.not_lt_zero i), fun r hr => absurd hr (Nat.not_lt_zero r)⟩, ⟨⟨Nat.zero_le _, by decide, by decide, by decide, by decide, ⟨Nat.zero_le _, fun c hc => absurd hc List.not_mem_nil⟩, ⟨Nat.zero_le _, fun c hc => absurd hc List.not_mem_nil⟩, fun q hq => absurd hq List.not_mem_nil⟩, by decide +kernel⟩, Nat.zero_le _, rfl, (fun k S h => by have h2 : ([] : List aSet)[k]? = some S := h; simp at h2), rfl, (fun S h => by cases h), Nat.zero_le _, rfl, fun i hi => absurd hi (Nat.not_lt_zero i), fun c hc => absurd hc List.not_mem_nil, by decide +kernel, (fun k h => by cases h), by decide +kernel, (fun L h => by cases h)⟩
set_option maxHeartbeats 4000000 in
set_option maxRecDepth 100000 in
theorem m_X10_init {G : jG} {o : Nat} {M : jM} (hs : (gL G).stackTraces = false) (hBo : gB G ≤ o) (hM0 : M.1 o = some (.inr (14, [.int 0, .null, .int 0, .int 0, .null, .int 0, .int 0, .null, .null, .null, .null, .int 0, .int 0, .int 0, .int 0, .int 0, .int 0, .null, .null, .null, .null, .null, .int 0, .null, .null, .null, .int 0, .null, .int 0, .int 0, .int 0, .null, .null, .null, .null, .null]))) (hM2 : M.2 = o + 1) : JMet G jX10_init [.ref o] M 20 21777 1 (fun v M' => v = none ∧ M' = rM o (M.1, o + 21) r01) jNo := by
  refine jMet_of [some (.ref o)] (by decide) rfl (Nat.le_of_ble_eq_true rfl) rfl hs ?_
  intro C hC9 hG
  have hC := hC9.z
  have hB : jB C ≤ o := by rw [jB, hG]; exact hBo
  refine j_aload_n hC dX10_init_0 rfl (jrf_ref _) ?_
  refine j_obj hC ko_X10_1 ko_i ko_c dX10_init_1 (by decide) (Nat.le_of_ble_eq_true rfl) ?_
  refine j_M (iM_0 hM0 hM2) ?_
  refine j_aload_n hC dX10_init_4 rfl (jrf_ref _) ?_
  refine j_sipush (v := nI 14790) hC dX10_init_5 (by decide) ?_
  refine i_newI (N := 14790) (kc := 19) (ks := 6987) (k := 0) hC dX10_init_8 rfl (by decide) ?_
  refine i_putF (fs' := [.int 0, .ref (o + 1), .int 0, .int 0, .null, .int 0, .int 0, .null, .null, .null, .null, .int 0, .int 0, .int 0, .int 0, .int 0, .int 0, .null, .null, .null, .null, .null, .int 0, .null, .null, .null, .int 0, .null, .int 0, .int 0, .int 0, .null, .null, .null, .null, .null]) hC kp_X10_9 rfl dX10_init_10 hB rfl rfl rfl ?_
  refine j_aload_n hC dX10_init_13 rfl (jrf_ref _) ?_
  refine j_bipush (v := nI 120) hC dX10_init_14 (by decide) ?_
  refine i_newI (N := 120) (kc := 18) (ks := 6867) (k := 1) hC dX10_init_16 rfl (by decide) ?_
  refine i_putF (fs' := [.int 0, .ref (o + 1), .int 0, .int 0, .ref (o + 2), .int 0, .int 0, .null, .null, .null, .null, .int 0, .int 0, .int 0, .int 0, .int 0, .int 0, .null, .null, .null, .null, .null, .int 0, .null, .null, .null, .int 0, .null, .int 0, .int 0, .int 0, .null, .null, .null, .null, .null]) hC kp_X10_13 rfl dX10_init_18 hB rfl rfl rfl ?_
  refine j_aload_n hC dX10_init_21 rfl (jrf_ref _) ?_
  refine j_iconst (v := zI (-1)) hC dX10_init_22 (by decide) ?_
  refine i_put (fs' := [.int 0, .ref (o + 1), .int 0, .int 0, .ref (o + 2), .int 0, .int (zI (-1)), .null, .null, .null, .null, .int 0, .int 0, .int 0, .int 0, .int 0, .int 0, .null, .null, .null, .null, .null, .int 0, .null, .null, .null, .int 0, .null, .int 0, .int 0, .int 0, .null, .null, .null, .null, .null]) hC kp_X10_16 dX10_init_23 hB rfl rfl rfl ?_
  refine j_aload_n hC dX10_init_26 rfl (jrf_ref _) ?_
  refine j_bipush (v := nI 67) hC dX10_init_27 (by decide) ?_
  refine i_newI (N := 67) (kc := 17) (ks := 6800) (k := 2) hC dX10_init_29 rfl (by decide) ?_
  refine i_putF (fs' := [.int 0, .ref (o + 1), .int 0, .int 0, .ref (o + 2), .int 0, .int (zI (-1)), .ref (o + 3), .null, .null, .null, .int 0, .int 0, .int 0, .int 0, .int 0, .int 0, .null, .null, .null, .null, .null, .int 0, .null, .null, .null, .int 0, .null, .int 0, .int 0, .int 0, .null, .null, .null, .null, .null]) hC kp_X10_20 rfl dX10_init_31 hB rfl rfl rfl ?_
  refine j_aload_n hC dX10_init_34 rfl (jrf_ref _) ?_
  refine j_bipush (v := nI 20) hC dX10_init_35 (by decide) ?_
  refine i_newI (N := 20) (kc := 16) (ks := 6780) (k := 3) hC dX10_init_37 rfl (by decide) ?_
  refine i_putF (fs' := [.int 0, .ref (o + 1), .int 0, .int 0, .ref (o + 2), .int 0, .int (zI (-1)), .ref (o + 3), .ref (o + 4), .null, .null, .int 0, .int 0, .int 0, .int 0, .int 0, .int 0, .null, .null, .null, .null, .null, .int 0, .null, .null, .null, .int 0, .null, .int 0, .int 0, .int 0, .null, .null, .null, .null, .null]) hC kp_X10_23 rfl dX10_init_39 hB rfl rfl rfl ?_
  refine j_aload_n hC dX10_init_42 rfl (jrf_ref _) ?_
  refine j_sipush (v := nI 1340) hC dX10_init_43 (by decide) ?_
  refine i_newI (N := 1340) (kc := 15) (ks := 5440) (k := 4) hC dX10_init_46 rfl (by decide) ?_
  refine i_putF (fs' := [.int 0, .ref (o + 1), .int 0, .int 0, .ref (o + 2), .int 0, .int (zI (-1)), .ref (o + 3), .ref (o + 4), .ref (o + 5), .null, .int 0, .int 0, .int 0, .int 0, .int 0, .int 0, .null, .null, .null, .null, .null, .int 0, .null, .null, .null, .int 0, .null, .int 0, .int 0, .int 0, .null, .null, .null, .null, .null]) hC kp_X10_26 rfl dX10_init_48 hB rfl rfl rfl ?_
  refine j_aload_n hC dX10_init_51 rfl (jrf_ref _) ?_
  refine j_bipush (v := nI 120) hC dX10_init_52 (by decide) ?_
  refine i_newI (N := 120) (kc := 14) (ks := 5320) (k := 5) hC dX10_init_54 rfl (by decide) ?_
  refine i_putF (fs' := [.int 0, .ref (o + 1), .int 0, .int 0, .ref (o + 2), .int 0, .int (zI (-1)), .ref (o + 3), .ref (o + 4), .ref (o + 5), .ref (o + 6), .int 0, .int 0, .int 0, .int 0, .int 0, .int 0, .null, .null, .null, .null, .null, .int 0, .null, .null, .null, .int 0, .null, .int 0, .int 0, .int 0, .null, .null, .null, .null, .null]) hC kp_X10_29 rfl dX10_init_56 hB rfl rfl rfl ?_
  refine j_aload_n hC dX10_init_59 rfl (jrf_ref _) ?_
  refine j_bipush (v := nI 120) hC dX10_init_60 (by decide) ?_
  refine i_newI (N := 120) (kc := 13) (ks := 5200) (k := 6) hC dX10_init_62 rfl (by decide) ?_
  refine i_putF (fs' := [.int 0, .ref (o + 1), .int 0, .int 0, .ref (o + 2), .int 0, .int (zI (-1)), .ref (o + 3), .ref (o + 4), .ref (o + 5), .ref (o + 6), .int 0, .int 0, .int 0, .int 0, .int 0, .int 0, .ref (o + 7), .null, .null, .null, .null, .int 0, .null, .null, .null, .int 0, .null, .int 0, .int 0, .int 0, .null, .null, .null, .null, .null]) hC kp_X10_32 rfl dX10_init_64 hB rfl rfl rfl ?_
  refine j_aload_n hC dX10_init_67 rfl (jrf_ref _) ?_
  refine j_bipush (v := nI 120) hC dX10_init_68 (by decide) ?_
  refine i_newI (N := 120) (kc := 12) (ks := 5080) (k := 7) hC dX10_init_70 rfl (by decide) ?_
  refine i_putF (fs' := [.int 0, .ref (o + 1), .int 0, .int 0, .ref (o + 2), .int 0, .int (zI (-1)), .ref (o + 3), .ref (o + 4), .ref (o + 5), .ref (o + 6), .int 0, .int 0, .int 0, .int 0, .int 0, .int 0, .ref (o + 7), .ref (o + 8), .null, .null, .null, .int 0, .null, .null, .null, .int 0, .null, .int 0, .int 0, .int 0, .null, .null, .null, .null, .null]) hC kp_X10_35 rfl dX10_init_72 hB rfl rfl rfl ?_
  refine j_aload_n hC dX10_init_75 rfl (jrf_ref _) ?_
  refine j_bipush (v := nI 120) hC dX10_init_76 (by decide) ?_
  refine i_newI (N := 120) (kc := 11) (ks := 4960) (k := 8) hC dX10_init_78 rfl (by decide) ?_
  refine i_putF (fs' := [.int 0, .ref (o + 1), .int 0, .int 0, .ref (o + 2), .int 0, .int (zI (-1)), .ref (o + 3), .ref (o + 4), .ref (o + 5), .ref (o + 6), .int 0, .int 0, .int 0, .int 0, .int 0, .int 0, .ref (o + 7), .ref (o + 8), .ref (o + 9), .null, .null, .int 0, .null, .null, .null, .int 0, .null, .int 0, .int 0, .int 0, .null, .null, .null, .null, .null]) hC kp_X10_38 rfl dX10_init_80 hB rfl rfl rfl ?_
  refine j_aload_n hC dX10_init_83 rfl (jrf_ref _) ?_
  refine j_bipush (v := nI 120) hC dX10_init_84 (by decide) ?_
  refine i_newI (N := 120) (kc := 10) (ks := 4840) (k := 9) hC dX10_init_86 rfl (by decide) ?_
  refine i_putF (fs' := [.int 0, .ref (o + 1), .int 0, .int 0, .ref (o + 2), .int 0, .int (zI (-1)), .ref (o + 3), .ref (o + 4), .ref (o + 5), .ref (o + 6), .int 0, .int 0, .int 0, .int 0, .int 0, .int 0, .ref (o + 7), .ref (o + 8), .ref (o + 9), .ref (o + 10), .null, .int 0, .null, .null, .null, .int 0, .null, .int 0, .int 0, .int 0, .null, .null, .null, .null, .null]) hC kp_X10_41 rfl dX10_init_88 hB rfl rfl rfl ?_
  refine j_aload_n hC dX10_init_91 rfl (jrf_ref _) ?_
  refine j_bipush (v := nI 120) hC dX10_init_92 (by decide) ?_
  refine i_newI (N := 120) (kc := 9) (ks := 4720) (k := 10) hC dX10_init_94 rfl (by decide) ?_
  refine i_putF (fs' := [.int 0, .ref (o + 1), .int 0, .int 0, .ref (o + 2), .int 0, .int (zI (-1)), .ref (o + 3), .ref (o + 4), .ref (o + 5), .ref (o + 6), .int 0, .int 0, .int 0, .int 0, .int 0, .int 0, .ref (o + 7), .ref (o + 8), .ref (o + 9), .ref (o + 10), .ref (o + 11), .int 0, .null, .null, .null, .int 0, .null, .int 0, .int 0, .int 0, .null, .null, .null, .null, .null]) hC kp_X10_44 rfl dX10_init_96 hB rfl rfl rfl ?_
  refine j_aload_n hC dX10_init_99 rfl (jrf_ref _) ?_
  refine j_bipush (v := nI 120) hC dX10_init_100 (by decide) ?_
  refine i_newI (N := 120) (kc := 8) (ks := 4600) (k := 11) hC dX10_init_102 rfl (by decide) ?_
  refine i_putF (fs' := [.int 0, .ref (o + 1), .int 0, .int 0, .ref (o + 2), .int 0, .int (zI (-1)), .ref (o + 3), .ref (o + 4), .ref (o + 5), .ref (o + 6), .int 0, .int 0, .int 0, .int 0, .int 0, .int 0, .ref (o + 7), .ref (o + 8), .ref (o + 9), .ref (o + 10), .ref (o + 11), .int 0, .ref (o + 12), .null, .null, .int 0, .null, .int 0, .int 0, .int 0, .null, .null, .null, .null, .null]) hC kp_X10_47 rfl dX10_init_104 hB rfl rfl rfl ?_
  refine j_aload_n hC dX10_init_107 rfl (jrf_ref _) ?_
  refine j_bipush (v := nI 120) hC dX10_init_108 (by decide) ?_
  refine i_newI (N := 120) (kc := 7) (ks := 4480) (k := 12) hC dX10_init_110 rfl (by decide) ?_
  refine i_putF (fs' := [.int 0, .ref (o + 1), .int 0, .int 0, .ref (o + 2), .int 0, .int (zI (-1)), .ref (o + 3), .ref (o + 4), .ref (o + 5), .ref (o + 6), .int 0, .int 0, .int 0, .int 0, .int 0, .int 0, .ref (o + 7), .ref (o + 8), .ref (o + 9), .ref (o + 10), .ref (o + 11), .int 0, .ref (o + 12), .ref (o + 13), .null, .int 0, .null, .int 0, .int 0, .int 0, .null, .null, .null, .null, .null]) hC kp_X10_50 rfl dX10_init_112 hB rfl rfl rfl ?_
  refine j_aload_n hC dX10_init_115 rfl (jrf_ref _) ?_
  refine j_bipush (v := nI 120) hC dX10_init_116 (by decide) ?_
  refine i_newZ (N := 120) (kc := 6) (ks := 4360) (k := 13) hC dX10_init_118 rfl (by decide) ?_
  refine i_putF (fs' := [.int 0, .ref (o + 1), .int 0, .int 0, .ref (o + 2), .int 0, .int (zI (-1)), .ref (o + 3), .ref (o + 4), .ref (o + 5), .ref (o + 6), .int 0, .int 0, .int 0, .int 0, .int 0, .int 0, .ref (o + 7), .ref (o + 8), .ref (o + 9), .ref (o + 10), .ref (o + 11), .int 0, .ref (o + 12), .ref (o + 13), .ref (o + 14), .int 0, .null, .int 0, .int 0, .int 0, .null, .null, .null, .null, .null]) hC kp_X10_53 rfl dX10_init_120 hB rfl rfl rfl ?_
  refine j_aload_n hC dX10_init_123 rfl (jrf_ref _) ?_
  refine j_sipush (v := nI 200) hC dX10_init_124 (by decide) ?_
  refine i_newI (N := 200) (kc := 5) (ks := 4160) (k := 14) hC dX10_init_127 rfl (by decide) ?_
  refine i_putF (fs' := [.int 0, .ref (o + 1), .int 0, .int 0, .ref (o + 2), .int 0, .int (zI (-1)), .ref (o + 3), .ref (o + 4), .ref (o + 5), .ref (o + 6), .int 0, .int 0, .int 0, .int 0, .int 0, .int 0, .ref (o + 7), .ref (o + 8), .ref (o + 9), .ref (o + 10), .ref (o + 11), .int 0, .ref (o + 12), .ref (o + 13), .ref (o + 14), .int 0, .ref (o + 15), .int 0, .int 0, .int 0, .null, .null, .null, .null, .null]) hC kp_X10_57 rfl dX10_init_129 hB rfl rfl rfl ?_
  refine j_aload_n hC dX10_init_132 rfl (jrf_ref _) ?_
  refine j_iconst (v := zI (-1)) hC dX10_init_133 (by decide) ?_
  refine i_put (fs' := [.int 0, .ref (o + 1), .int 0, .int 0, .ref (o + 2), .int 0, .int (zI (-1)), .ref (o + 3), .ref (o + 4), .ref (o + 5), .ref (o + 6), .int 0, .int 0, .int 0, .int 0, .int 0, .int 0, .ref (o + 7), .ref (o + 8), .ref (o + 9), .ref (o + 10), .ref (o + 11), .int 0, .ref (o + 12), .ref (o + 13), .ref (o + 14), .int 0, .ref (o + 15), .int 0, .int 0, .int (zI (-1)), .null, .null, .null, .null, .null]) hC kp_X10_60 dX10_init_134 hB rfl rfl rfl ?_
  refine j_aload_n hC dX10_init_137 rfl (jrf_ref _) ?_
  refine j_bipush (v := nI 20) hC dX10_init_138 (by decide) ?_
  refine i_newI (N := 20) (kc := 4) (ks := 4140) (k := 15) hC dX10_init_140 rfl (by decide) ?_
  refine i_putF (fs' := [.int 0, .ref (o + 1), .int 0, .int 0, .ref (o + 2), .int 0, .int (zI (-1)), .ref (o + 3), .ref (o + 4), .ref (o + 5), .ref (o + 6), .int 0, .int 0, .int 0, .int 0, .int 0, .int 0, .ref (o + 7), .ref (o + 8), .ref (o + 9), .ref (o + 10), .ref (o + 11), .int 0, .ref (o + 12), .ref (o + 13), .ref (o + 14), .int 0, .ref (o + 15), .int 0, .int 0, .int (zI (-1)), .ref (o + 16), .null, .null, .null, .null]) hC kp_X10_63 rfl dX10_init_142 hB rfl rfl rfl ?_
  refine j_aload_n hC dX10_init_145 rfl (jrf_ref _) ?_
  refine j_bipush (v := nI 20) hC dX10_init_146 (by decide) ?_
  refine i_newI (N := 20) (kc := 3) (ks := 4120) (k := 16) hC dX10_init_148 rfl (by decide) ?_
  refine i_putF (fs' := [.int 0, .ref (o + 1), .int 0, .int 0, .ref (o + 2), .int 0, .int (zI (-1)), .ref (o + 3), .ref (o + 4), .ref (o + 5), .ref (o + 6), .int 0, .int 0, .int 0, .int 0, .int 0, .int 0, .ref (o + 7), .ref (o + 8), .ref (o + 9), .ref (o + 10), .ref (o + 11), .int 0, .ref (o + 12), .ref (o + 13), .ref (o + 14), .int 0, .ref (o + 15), .int 0, .int 0, .int (zI (-1)), .ref (o + 16), .ref (o + 17), .null, .null, .null]) hC kp_X10_66 rfl dX10_init_150 hB rfl rfl rfl ?_
  refine j_aload_n hC dX10_init_153 rfl (jrf_ref _) ?_
  refine j_sipush (v := nI 4000) hC dX10_init_154 (by decide) ?_
  refine i_newI (N := 4000) (kc := 2) (ks := 120) (k := 17) hC dX10_init_157 rfl (by decide) ?_
  refine i_putF (fs' := [.int 0, .ref (o + 1), .int 0, .int 0, .ref (o + 2), .int 0, .int (zI (-1)), .ref (o + 3), .ref (o + 4), .ref (o + 5), .ref (o + 6), .int 0, .int 0, .int 0, .int 0, .int 0, .int 0, .ref (o + 7), .ref (o + 8), .ref (o + 9), .ref (o + 10), .ref (o + 11), .int 0, .ref (o + 12), .ref (o + 13), .ref (o + 14), .int 0, .ref (o + 15), .int 0, .int 0, .int (zI (-1)), .ref (o + 16), .ref (o + 17), .ref (o + 18), .null, .null]) hC kp_X10_69 rfl dX10_init_159 hB rfl rfl rfl ?_
  refine j_aload_n hC dX10_init_162 rfl (jrf_ref _) ?_
  refine j_bipush (v := nI 20) hC dX10_init_163 (by decide) ?_
  refine i_newI (N := 20) (kc := 1) (ks := 100) (k := 18) hC dX10_init_165 rfl (by decide) ?_
  refine i_putF (fs' := [.int 0, .ref (o + 1), .int 0, .int 0, .ref (o + 2), .int 0, .int (zI (-1)), .ref (o + 3), .ref (o + 4), .ref (o + 5), .ref (o + 6), .int 0, .int 0, .int 0, .int 0, .int 0, .int 0, .ref (o + 7), .ref (o + 8), .ref (o + 9), .ref (o + 10), .ref (o + 11), .int 0, .ref (o + 12), .ref (o + 13), .ref (o + 14), .int 0, .ref (o + 15), .int 0, .int 0, .int (zI (-1)), .ref (o + 16), .ref (o + 17), .ref (o + 18), .ref (o + 19), .null]) hC kp_X10_72 rfl dX10_init_167 hB rfl rfl rfl ?_
  refine j_aload_n hC dX10_init_170 rfl (jrf_ref _) ?_
  refine j_bipush (v := nI 100) hC dX10_init_171 (by decide) ?_
  refine i_newI (N := 100) (kc := 0) (ks := 0) (k := 19) hC dX10_init_173 rfl (by decide) ?_
  refine i_putF (fs' := [.int 0, .ref (o + 1), .int 0, .int 0, .ref (o + 2), .int 0, .int (zI (-1)), .ref (o + 3), .ref (o + 4), .ref (o + 5), .ref (o + 6), .int 0, .int 0, .int 0, .int 0, .int 0, .int 0, .ref (o + 7), .ref (o + 8), .ref (o + 9), .ref (o + 10), .ref (o + 11), .int 0, .ref (o + 12), .ref (o + 13), .ref (o + 14), .int 0, .ref (o + 15), .int 0, .int 0, .int (zI (-1)), .ref (o + 16), .ref (o + 17), .ref (o + 18), .ref (o + 19), .ref (o + 20)]) hC kp_X10_75 rfl dX10_init_175 hB rfl rfl rfl ?_
  refine j_M iM_end ?_
  refine j_aload_n hC dX10_init_178 rfl (jrf_ref _) ?_
  refine r_get hC kf_X10_9 dX10_init_179 rfl ?_
  refine j_iconst (v := nI 4) hC dX10_init_182 (by decide) ?_
  refine j_bipush (v := nI 100) hC dX10_init_183 (by decide) ?_
  refine r_ast (k := 1) (j := 4) hC dX10_init_185 (c := 1) (n := 14790) (by decide) (fun _ => rfl) (rO_k1) hB rfl (by omega) (by decide) ?_
  exact j_vret hC9 rfl dX10_init_186 ⟨rfl, rfl⟩
