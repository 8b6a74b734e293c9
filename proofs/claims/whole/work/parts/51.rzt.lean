/-! a quotient of finite numbers is a number -/
def okD : FP.Core.Datum → Prop
  | .nan => False
  | .inf _ => True
  | .fin _ c q => c < 9007199254740992 ∧ q ≤ 971
theorem okD_le {n : Nat} (h : n % 9223372036854775808 ≤ 9218868437227405312) : UInt64.ofNat n &&& 0x7fffffffffffffff ≤ 0x7ff0000000000000 := by
  rw [UInt64.le_iff_toNat_le, UInt64.toNat_and, UInt64.toNat_ofNat']
  show (n % 2 ^ 64) &&& (2 ^ 63 - 1) ≤ 9218868437227405312
  rw [Nat.and_two_pow_sub_one_eq_mod]
  have e : n % 2 ^ 64 % 2 ^ 63 = n % 9223372036854775808 := by omega
  rw [e]
  exact h
theorem okD_enc {d : FP.Core.Datum} (h : okD d) : UInt64.ofNat (FP.Core.encode FP.Core.b64 d) &&& 0x7fffffffffffffff ≤ 0x7ff0000000000000 := by
  refine okD_le ?_
  match d, h with
  | .inf s, _ => cases s <;> decide +kernel
  | .fin s c q, h =>
    have h1 : c < 9007199254740992 := h.1
    have h2 : q ≤ 971 := h.2
    have e : FP.Core.encode FP.Core.b64 (.fin s c q) = if c < 4503599627370496 then (s.toNat * 2048 + 0) * 4503599627370496 + c else (s.toNat * 2048 + ((q - (-1074)).toNat + 1)) * 4503599627370496 + (c - 4503599627370496) := rfl
    have hk : s.toNat ≤ 1 := by cases s <;> decide
    rw [e]
    generalize s.toNat = k at hk
    split <;> omega
theorem okD_q {s t : Bool} {c d : Nat} {q r : Int} (hd : ¬ d = 0) : okD (FP.Core.quotient FP.Core.b64 (.fin s c q) (.fin t d r)) := by
  show okD (if d = 0 then (if c = 0 then .nan else .inf (s != t)) else FP.Core.roundRatio FP.Core.b64 (s != t) c d (q - r))
  rw [if_neg hd]
  unfold FP.Core.roundRatio
  split
  · exact ⟨by decide, by decide⟩
  · unfold FP.Core.roundAt FP.Core.settle
    split
    · rename_i h1
      unfold FP.Core.bound
      split
      · rename_i h2
        exact ⟨h1, h2⟩
      · trivial
    · unfold FP.Core.bound
      split
      · rename_i h2
        exact ⟨by decide, h2⟩
      · trivial
def isF : FP.Core.Datum → Bool
  | .fin _ _ _ => true
  | _ => false
def isFn : FP.Core.Datum → Bool
  | .fin _ c _ => decide (¬ c = 0)
  | _ => false
theorem fin_a : ∀ a1, a1 < 41 → ∀ a0, a0 < 100 → isF (FP.Core.decode FP.Core.b64 (FP.i2d (nI (100 * a1 + a0))).toNat) = true := by decide +kernel
theorem fin_b : ∀ b, b < 21 → ¬ b = 0 → isFn (FP.Core.decode FP.Core.b64 (FP.i2d (nI b)).toNat) = true := by decide +kernel
theorem fd_ok : ∀ a, a < 21 → ∀ b, b < 21 → ¬ b = 0 → FP.fdiv (FP.i2f (nI a)) (FP.i2f (nI b)) &&& 0x7fffffff ≤ 0x7f800000 := by decide +kernel
theorem dd_n {a b : Nat} (ha : a ≤ 4000) (hb : b ≤ 20) (h : ¬ b = 0) : vf_n64 (FP.ddiv (FP.i2d (nI a)) (FP.i2d (nI b))) := by
  have e : 100 * (a / 100) + a % 100 = a := Nat.div_add_mod a 100
  have h1 := fin_a (a / 100) (by omega) (a % 100) (by omega)
  rw [e] at h1
  have h2 := fin_b b (by omega) h
  show UInt64.ofNat (FP.Core.encode FP.Core.b64 (FP.Core.quotient FP.Core.b64 (FP.Core.decode FP.Core.b64 (FP.i2d (nI a)).toNat) (FP.Core.decode FP.Core.b64 (FP.i2d (nI b)).toNat))) &&& 0x7fffffffffffffff ≤ 0x7ff0000000000000
  generalize FP.Core.decode FP.Core.b64 (FP.i2d (nI a)).toNat = x at h1
  generalize FP.Core.decode FP.Core.b64 (FP.i2d (nI b)).toNat = z at h2
  refine okD_enc ?_
  cases x with
  | fin s c q =>
    cases z with
    | fin t d r => exact okD_q (of_decide_eq_true h2)
    | _ => exact absurd h2 Bool.false_ne_true
  | _ => exact absurd h1 Bool.false_ne_true
theorem fd_n {a b : Nat} (ha : a ≤ 20) (hb : b ≤ 20) (h : ¬ b = 0) : vf_n32 (FP.fdiv (FP.i2f (nI a)) (FP.i2f (nI b))) := fd_ok a (by omega) b (by omega) h
/-- the contract of a call that answers a double or a float -/
def ROpD (y : jY) (d : Nat) (args : List Value) (op : aSt → Nat × Value) : Prop := ∀ R T, rInv R T → RMet y d args R (fun v R' => v = some (op T).2 ∧ R'.1 0 = nI (op T).1 ∧ rInv R' T)
def sumL (L : aRun) : Nat → Nat := sumTo (fun r => (ranAt L r).2.1.length)
def opMean (T : aSt) : Nat × Value := match tRun T with
  | none => (1, .double FP.dconst0)
  | some L => if ranN L 0 = 0 then (2, .double FP.dconst0) else (0, .double (FP.ddiv (FP.i2d (nI (sumL L L.length))) (FP.i2d (nI (ranN L 0)))))
def opShare (T : aSt) : Nat × Value := match tRun T with
  | none => (1, .float FP.fconst0)
  | some L => (0, .float (FP.fdiv (FP.i2f (nI (ranN L 0))) (FP.i2f (nI L.length))))
section OD
variable {T : aSt} {L : aRun} {n : Nat}
theorem mea_1 (h : tRun T = none) : opMean T = (1, .double FP.dconst0) := by
  unfold opMean
  rw [h]
theorem mea_2 (hu : tRun T = some L) (h : ranN L 0 = 0) : opMean T = (2, .double FP.dconst0) := by
  unfold opMean
  rw [hu]
  exact if_pos h
theorem mea_0 (hu : tRun T = some L) (h : ¬ ranN L 0 = 0) (hn : n = L.length) : opMean T = (0, .double (FP.ddiv (FP.i2d (nI (sumL L n))) (FP.i2d (nI (ranN L 0))))) := by
  unfold opMean
  rw [hu, hn]
  exact if_neg h
theorem shr_1 (h : tRun T = none) : opShare T = (1, .float FP.fconst0) := by
  unfold opShare
  rw [h]
theorem shr_0 (hu : tRun T = some L) : opShare T = (0, .float (FP.fdiv (FP.i2f (nI (ranN L 0))) (FP.i2f (nI L.length)))) := by
  unfold opShare
  rw [hu]
theorem ranN_le : ranN L n ≤ L.length := cntTo_le _
theorem sumL_le (h : ∀ r, r < L.length → (ranAt L r).2.1.length ≤ 200) : ∀ k, k ≤ L.length → sumL L k ≤ 200 * k
  | 0, _ => Nat.le_refl _
  | k + 1, hk => by
    have h1 := sumL_le h k (by omega)
    have h2 := h k (by omega)
    have e : sumL L (k + 1) = sumL L k + (ranAt L k).2.1.length := rfl
    omega
theorem rod {R' : rR} {op : aSt → Nat × Value} {c : Nat} {x : Value} (e : op T = (c, x)) (h0 : R'.1 0 = nI c) (hi : rInv R' T) : some x = some (op T).2 ∧ R'.1 0 = nI (op T).1 ∧ rInv R' T := by
  rw [e]
  exact ⟨rfl, h0, hi⟩
end OD
set_option maxHeartbeats 4000000 in
set_option maxRecDepth 100000 in
theorem o_X10_meanLength : ROpD jX10_meanLength 2 [] opMean := by
  intro R T hi
  obtain ⟨S, P, V, b, e, u⟩ := T
  intro G o M0 hs hBo
  refine jMet_of [some (.ref o), none, none] (by decide) rfl (Nat.le_of_ble_eq_true rfl) rfl hs ?_
  intro C hC9 hG
  have hC := hC9.z
  have hB : jB C ≤ o := by rw [jB, hG]; exact hBo
  have hrz : -1 ≤ ranZ u ∧ ranZ u ≤ 20 := ri_rz hi
  refine j_aload_n hC dX10_meanLength_0 rfl (jrf_ref _) ?_
  refine j_aload_n hC dX10_meanLength_1 rfl (jrf_ref _) ?_
  refine r_getN (x := zI (ranZ u)) hC kf_X10_60 dX10_meanLength_2 rfl (ri_rm hi) ?_
  refine z_if_ge (a := (ranZ u)) (tgt := 12) hC dX10_meanLength_5 (by decide) (by unfold zB; omega) (fun c1 => ?_) (fun c1 => ?_)
  · obtain ⟨L9, hu⟩ := ran_some (u := u) (by assumption)
    have hrr := ri_rr hi L9 hu
    have hL20 := hrr.2.1
    have hL0 := hrr.1
    have hrn : R.1 30 = nI L9.length := by rw [ri_rm hi]; show zI (ranZ u) = zI (L9.length : Nat); rw [show u = some L9 from hu]; rfl
    have hN9 := ranN_le (L := L9) (n := 0)
    refine j_aload_n hC dX10_meanLength_12 rfl (jrf_ref _) ?_
    refine j_iconst (v := nI 0) hC dX10_meanLength_13 (by decide) ?_
    refine r_ci1 hC kv_X10_265 dX10_meanLength_14 (m_X10_ranWith (R := R) (T := (S, P, V, b, e, u)) (L := L9) (k := 0) hi hu (by omega)) hB rfl (by decide) (Nat.le_of_ble_eq_true rfl) ?_
    refine n_if_ne (tgt := 24) hC dX10_meanLength_17 (by decide) (by omega) (fun c2 => ?_) (fun c2 => ?_)
    · refine j_iconst (v := nI 0) hC dX10_meanLength_24 (by decide) ?_
      refine r_put hC kp_X10_78 dX10_meanLength_25 hB rfl rfl rF_set_0 ?_
      refine j_aload_n hC dX10_meanLength_28 rfl (jrf_ref _) ?_
      refine r_getN (x := nI (0)) hC kf_X10_78 dX10_meanLength_29 rfl (rfl) ?_
      refine n_if_eq (tgt := 37) hC dX10_meanLength_32 (by decide) (by omega) (fun c3 => ?_) (fun c3 => ?_)
      · have hN0 : ¬ ranN L9 (0) = 0 := by assumption
        have hsl := sumL_le (L := L9) (fun r hr => (hrr.2.2 r hr).2.1)
        refine j_iconst (v := nI 0) hC dX10_meanLength_37 (by decide) ?_
        refine j_istore_n1 hC dX10_meanLength_38 (by decide) rfl ?_
        refine j_iconst (v := nI 0) hC dX10_meanLength_39 (by decide) ?_
        refine j_istore_n2 hC dX10_meanLength_40 (by decide) rfl ?_
        suffices K : ∀ (n9 : Nat) (r : Nat), L9.length - r < n9 → (r ≤ L9.length) → J C (rM o M0 ((rs R 0 (nI 0)))) 0 0 41 [some (.ref o), some (.int (nI (sumL L9 r))), some (.int (nI (r)))] [] from j_R (rfl) (K _ (0) (Nat.lt_succ_self _) (Nat.zero_le _))
        intro n9
        induction n9 with
        | zero => intro r hm; omega
        | succ n9 ih =>
          intro r hm hr
          refine j_iload_n hC dX10_meanLength_41 rfl ?_
          refine j_aload_n hC dX10_meanLength_42 rfl (jrf_ref _) ?_
          refine r_getN (x := nI (L9.length)) hC kf_X10_60 dX10_meanLength_43 rfl (hrn) ?_
          refine n_icmp_ge (tgt := 64) hC dX10_meanLength_46 (by decide) (by omega) (by omega) (fun c4 => ?_) (fun c4 => ?_)
          · have hs9 := hsl r (by omega)
            refine j_iload_n hC dX10_meanLength_64 rfl ?_
            refine j_i2d hC dX10_meanLength_65 ?_
            refine j_aload_n hC dX10_meanLength_66 rfl (jrf_ref _) ?_
            refine j_iconst (v := nI 0) hC dX10_meanLength_67 (by decide) ?_
            refine r_ci1 hC kv_X10_265 dX10_meanLength_68 (m_X10_ranWith (R := ((rs R 0 (nI 0)))) (T := (S, P, V, b, e, u)) (L := L9) (k := 0) hi hu (by omega)) hB rfl (by decide) (Nat.le_of_ble_eq_true rfl) ?_
            refine j_i2d hC dX10_meanLength_71 ?_
            refine j_ddiv hC dX10_meanLength_72 (dd_n (by omega) (by omega) hN0) ?_
            have e9 : opMean (S, P, V, b, e, u) = (0, .double (FP.ddiv (FP.i2d (nI (sumL L9 r))) (FP.i2d (nI (ranN L9 (0)))))) := mea_0 (T := (S, P, V, b, e, u)) hu hN0 (by omega)
            exact j_dret hC9 rfl dX10_meanLength_73 ⟨((rs R 0 (nI 0))), rod e9 rfl (ri_thr hi), rfl⟩
          · refine j_iload_n hC dX10_meanLength_49 rfl ?_
            refine j_aload_n hC dX10_meanLength_50 rfl (jrf_ref _) ?_
            refine r_get hC kf_X10_66 dX10_meanLength_51 rfl ?_
            refine j_iload_n hC dX10_meanLength_54 rfl ?_
            refine r_aldN (k := 32) (j := r) (x := nI ((ranAt L9 (r)).2.1.length)) hC dX10_meanLength_55 (c := 17) (n := 20) (by decide) rfl rfl (by omega) (by decide) ((hrr.2.2 _ (by omega)).2.2.2.2.1) ?_
            refine n_iadd hC dX10_meanLength_56 ?_
            refine j_istore_n1 hC dX10_meanLength_57 (by decide) rfl ?_
            refine j_iinc_2 (v := nI (r + 1)) hC dX10_meanLength_58 (nI_add _ _) (by decide) rfl ?_
            refine j_goto (tgt := 41) hC dX10_meanLength_61 (by decide) ?_
            exact j_R (rfl) (ih (r + 1) (by omega) (by omega))
      · exact absurd c3 (by decide)
    · refine j_iconst (v := nI 2) hC dX10_meanLength_20 (by decide) ?_
      refine j_goto (tgt := 25) hC dX10_meanLength_21 (by decide) ?_
      refine r_put hC kp_X10_78 dX10_meanLength_25 hB rfl rfl rF_set_0 ?_
      refine j_aload_n hC dX10_meanLength_28 rfl (jrf_ref _) ?_
      refine r_getN (x := nI (2)) hC kf_X10_78 dX10_meanLength_29 rfl (rfl) ?_
      refine n_if_eq (tgt := 37) hC dX10_meanLength_32 (by decide) (by omega) (fun c5 => ?_) (fun c5 => ?_)
      · exact absurd c5 (by decide)
      · refine j_dconst0 hC dX10_meanLength_35 ?_
        have e9 : opMean (S, P, V, b, e, u) = (2, .double FP.dconst0) := mea_2 (T := (S, P, V, b, e, u)) hu (by assumption)
        exact j_dret hC9 rfl dX10_meanLength_36 ⟨(rs R 0 (nI (2))), rod e9 rfl (ri_thr hi), rfl⟩
  · refine j_iconst (v := nI 1) hC dX10_meanLength_8 (by decide) ?_
    refine j_goto (tgt := 25) hC dX10_meanLength_9 (by decide) ?_
    refine r_put hC kp_X10_78 dX10_meanLength_25 hB rfl rfl rF_set_0 ?_
    refine j_aload_n hC dX10_meanLength_28 rfl (jrf_ref _) ?_
    refine r_getN (x := nI (1)) hC kf_X10_78 dX10_meanLength_29 rfl (rfl) ?_
    refine n_if_eq (tgt := 37) hC dX10_meanLength_32 (by decide) (by omega) (fun c6 => ?_) (fun c6 => ?_)
    · exact absurd c6 (by decide)
    · refine j_dconst0 hC dX10_meanLength_35 ?_
      have e9 : opMean (S, P, V, b, e, u) = (1, .double FP.dconst0) := mea_1 (T := (S, P, V, b, e, u)) (ran_none (by assumption))
      exact j_dret hC9 rfl dX10_meanLength_36 ⟨(rs R 0 (nI (1))), rod e9 rfl (ri_thr hi), rfl⟩
set_option maxHeartbeats 4000000 in
set_option maxRecDepth 100000 in
theorem o_X10_share : ROpD jX10_share 2 [] opShare := by
  intro R T hi
  obtain ⟨S, P, V, b, e, u⟩ := T
  intro G o M0 hs hBo
  refine jMet_of [some (.ref o)] (by decide) rfl (Nat.le_of_ble_eq_true rfl) rfl hs ?_
  intro C hC9 hG
  have hC := hC9.z
  have hB : jB C ≤ o := by rw [jB, hG]; exact hBo
  have hrz : -1 ≤ ranZ u ∧ ranZ u ≤ 20 := ri_rz hi
  refine j_aload_n hC dX10_share_0 rfl (jrf_ref _) ?_
  refine j_aload_n hC dX10_share_1 rfl (jrf_ref _) ?_
  refine r_getN (x := zI (ranZ u)) hC kf_X10_60 dX10_share_2 rfl (ri_rm hi) ?_
  refine z_if_ge (a := (ranZ u)) (tgt := 12) hC dX10_share_5 (by decide) (by unfold zB; omega) (fun c1 => ?_) (fun c1 => ?_)
  · obtain ⟨L9, hu⟩ := ran_some (u := u) (by assumption)
    have hrr := ri_rr hi L9 hu
    have hL20 := hrr.2.1
    have hL0 := hrr.1
    have hrn : R.1 30 = nI L9.length := by rw [ri_rm hi]; show zI (ranZ u) = zI (L9.length : Nat); rw [show u = some L9 from hu]; rfl
    have hN9 := ranN_le (L := L9) (n := 0)
    refine j_iconst (v := nI 0) hC dX10_share_12 (by decide) ?_
    refine r_put hC kp_X10_78 dX10_share_13 hB rfl rfl rF_set_0 ?_
    refine j_aload_n hC dX10_share_16 rfl (jrf_ref _) ?_
    refine r_getN (x := nI (0)) hC kf_X10_78 dX10_share_17 rfl (rfl) ?_
    refine n_if_ne (tgt := 38) hC dX10_share_20 (by decide) (by omega) (fun c2 => ?_) (fun c2 => ?_)
    · exact absurd c2 (by decide)
    · refine j_aload_n hC dX10_share_23 rfl (jrf_ref _) ?_
      refine j_iconst (v := nI 0) hC dX10_share_24 (by decide) ?_
      refine r_ci1 hC kv_X10_265 dX10_share_25 (m_X10_ranWith (R := (rs R 0 (nI (0)))) (T := (S, P, V, b, e, u)) (L := L9) (k := 0) hi hu (by omega)) hB rfl (by decide) (Nat.le_of_ble_eq_true rfl) ?_
      refine j_i2f hC dX10_share_28 ?_
      refine j_aload_n hC dX10_share_29 rfl (jrf_ref _) ?_
      refine r_getN (x := nI (L9.length)) hC kf_X10_60 dX10_share_30 rfl (hrn) ?_
      refine j_i2f hC dX10_share_33 ?_
      refine j_fdiv hC dX10_share_34 (fd_n (by omega) (by omega) (by omega)) ?_
      refine j_goto (tgt := 39) hC dX10_share_35 (by decide) ?_
      have e9 : opShare (S, P, V, b, e, u) = (0, .float (FP.fdiv (FP.i2f (nI (ranN L9 (0)))) (FP.i2f (nI (L9.length))))) := shr_0 (T := (S, P, V, b, e, u)) hu
      exact j_fret hC9 rfl dX10_share_39 ⟨(rs R 0 (nI (0))), rod e9 rfl (ri_thr hi), rfl⟩
  · refine j_iconst (v := nI 1) hC dX10_share_8 (by decide) ?_
    refine j_goto (tgt := 13) hC dX10_share_9 (by decide) ?_
    refine r_put hC kp_X10_78 dX10_share_13 hB rfl rfl rF_set_0 ?_
    refine j_aload_n hC dX10_share_16 rfl (jrf_ref _) ?_
    refine r_getN (x := nI (1)) hC kf_X10_78 dX10_share_17 rfl (rfl) ?_
    refine n_if_ne (tgt := 38) hC dX10_share_20 (by decide) (by omega) (fun c3 => ?_) (fun c3 => ?_)
    · refine j_fconst0 hC dX10_share_38 ?_
      have e9 : opShare (S, P, V, b, e, u) = (1, .float FP.fconst0) := shr_1 (T := (S, P, V, b, e, u)) (ran_none (by assumption))
      exact j_fret hC9 rfl dX10_share_39 ⟨(rs R 0 (nI (1))), rod e9 rfl (ri_thr hi), rfl⟩
    · exact absurd c3 (by decide)
