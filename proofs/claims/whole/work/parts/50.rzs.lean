/-- a text in a row from place b on, as far as k -/
def txA (D : Nat → Int32) (b : Nat) (t : List Nat) (k : Nat) : Nat → Int32 := fun j => if b ≤ j ∧ j < b + k then nI (t.getD (j - b) 0) else D j
section TX
variable {D : Nat → Int32} {b k n : Nat} {t : List Nat} {c : Nat}
theorem txA_0 : txA D b t 0 = D := by
  funext j
  simp only [txA]
  rw [if_neg (by omega)]
theorem txA_s : upd (txA D b t k) (b + k) (nI (t.getD k 0)) = txA D b t (k + 1) := by
  funext j
  simp only [txA, upd]
  by_cases h : j = b + k
  · subst h
    rw [if_pos rfl, if_pos (by omega), show b + k - b = k by omega]
  · rw [if_neg h]
    by_cases h2 : b ≤ j ∧ j < b + k
    · rw [if_pos h2, if_pos (by omega)]
    · rw [if_neg h2, if_neg (by omega)]
theorem txA_app (hn : n = t.length) : upd (txA D b t n) (b + n) (nI c) = txA D b (t ++ [c]) (n + 1) := by
  subst hn
  funext j
  simp only [txA, upd]
  by_cases h : j = b + t.length
  · subst h
    rw [if_pos rfl, if_pos (by omega), show b + t.length - b = t.length by omega, getD_appN]
  · rw [if_neg h]
    by_cases h2 : b ≤ j ∧ j < b + t.length
    · rw [if_pos h2, if_pos (by omega), getD_app (by omega)]
    · rw [if_neg h2, if_neg (by omega)]
theorem txA_in {i : Nat} (h : i < k) : txA D b t k (b + i) = nI (t.getD i 0) := by
  simp only [txA]
  rw [if_pos (by omega), show b + i - b = i by omega]
theorem txA_out {j : Nat} (h : j < b ∨ b + k ≤ j) : txA D b t k j = D j := by
  simp only [txA]
  rw [if_neg (by omega)]
end TX
/-- the chain of a failure at item f -/
def chnA (its : List pIt) (f : Nat) : List Nat := (iPath (pAtI its f)).reverse.map (fun j => iPlace (pAtI its j)) ++ [iPlace (pAtI its f)]
def chR (R : rR) (r : Nat) (t : List Nat) : rR := ra (rA R 35 (txA (R.2 35) (5 * r) t t.length)) 34 r (nI t.length)
def cpx (its : List pIt) (x : pIt) (k : Nat) : List Nat := (pfx x k).reverse.map (fun j => iPlace (pAtI its j))
def kcI (its : List pIt) (f i : Nat) (t : List Nat) : Prop := (i ≤ f → t = cpx its (pAtI its f) i) ∧ (f < i → t = chnA its f)
section KC
variable {its : List pIt} {f i : Nat} {t : List Nat}
theorem kc_0 : kcI its f 0 [] := ⟨fun _ => by rw [cpx, pfx_0]; rfl, fun h => absurd h (by omega)⟩
theorem kc_no (h : kcI its f i t) (hi : i < f) (hn : i ∉ iPath (pAtI its f)) : kcI its f (i + 1) t := ⟨fun _ => by rw [h.1 (by omega), cpx, cpx, pfx_no hn], fun h2 => absurd h2 (by omega)⟩
theorem kc_in (h : kcI its f i t) (hi : i < f) (hp : (iPath (pAtI its f)).Pairwise (fun a b => b < a)) (hm : i ∈ iPath (pAtI its f)) : kcI its f (i + 1) (t ++ [iPlace (pAtI its i)]) :=
  ⟨fun _ => by rw [h.1 (by omega), cpx, cpx, pfx_s hp hm, List.reverse_cons, List.map_append]; rfl, fun h2 => absurd h2 (by omega)⟩
theorem kc_f (h : kcI its f i t) (hi : i = f) (ha : ∀ a ∈ iPath (pAtI its f), a < f) : kcI its f (i + 1) (t ++ [iPlace (pAtI its i)]) := by
  subst hi
  exact ⟨fun h2 => absurd h2 (by omega), fun _ => by rw [h.1 (Nat.le_refl _), cpx, pfx_all ha]; rfl⟩
theorem kc_len (h : kcI its f i t) (hi : i ≤ f) (h4 : (iPath (pAtI its f)).length ≤ 4) : t.length ≤ 4 := by
  rw [h.1 hi, cpx, List.length_map, List.length_reverse]
  exact Nat.le_trans (List.length_filter_le _ _) h4
end KC
set_option maxHeartbeats 4000000 in
set_option maxRecDepth 100000 in
theorem m_X10_keepsChain {R : rR} {S : aSet} {r f : Nat} (h : rdW R S) (hr : r < 20) (hf : R.1 29 = nI f) (hfl : f < (pIts (pEnd (sTmpl S))).length) : RV jX10_keepsChain 0 [.int (nI r)] R (chR R r (chnA (pIts (pEnd (sTmpl S))) f)) := by
  intro G o M0 hs hBo
  refine jMet_of [some (.ref o), some (.int (nI r)), none, none] (by decide) rfl (Nat.le_of_ble_eq_true rfl) rfl hs ?_
  intro C hC9 hG
  have hC := hC9.z
  have hB : jB C ≤ o := by rw [jB, hG]; exact hBo
  have hwk := h.2.2.2.1
  have hil := h.2.2.2.2.1
  have hwf := wf_end h.2.1.2
  have hop := op_end h.2.2.1.2.2.1 h.2.1.2
  have hwt := rd_hwt h
  obtain ⟨c1, c2, c3, c4, c5, c6, c7, c8, c9, c10, c11, c12⟩ := hwf.1 f hfl
  have hkb : ∀ i, i < (pIts (pEnd (sTmpl S))).length → iKind (pAtI (pIts (pEnd (sTmpl S))) (i)) ≤ 5 := fun i hi => (hwf.1 i hi).1
  have htb : ∀ i, i < (pIts (pEnd (sTmpl S))).length → iTill (pAtI (pIts (pEnd (sTmpl S))) (i)) ≤ 121 := fun i hi => by
    have w := hwf.1 i hi
    by_cases e : iKind (pAtI (pIts (pEnd (sTmpl S))) (i)) = 5
    · have := (w.2.2.2.2.2.2.1 e (by rw [hop]; exact List.not_mem_nil)).2; omega
    · have := w.2.2.2.2.2.2.2.1 e; omega
  refine j_iconst (v := nI 0) hC dX10_keepsChain_0 (by decide) ?_
  refine j_istore_n2 hC dX10_keepsChain_1 (by decide) rfl ?_
  refine j_iconst (v := nI 0) hC dX10_keepsChain_2 (by decide) ?_
  refine j_istore_n3 hC dX10_keepsChain_3 (by decide) rfl ?_
  suffices K : ∀ (n9 : Nat) (i : Nat) (t : List Nat) (n : Nat), f + 1 - i < n9 → (i ≤ f + 1) → (n = t.length) → (kcI (pIts (pEnd (sTmpl S))) f i t) → J C (rM o M0 (rA R 35 (txA (R.2 35) (5 * r) t n))) 0 0 4 [some (.ref o), some (.int (nI (r))), some (.int (nI (n))), some (.int (nI (i)))] [] from j_R (by rw [txA_0]; exact rA_self.symm) (K _ (0) ([]) (0) (Nat.lt_succ_self _) (Nat.zero_le _) (rfl) (kc_0))
  intro n9
  induction n9 with
  | zero => intro i t n hm; omega
  | succ n9 ih =>
    intro i t n hm hi hn hk
    refine j_iload_n hC dX10_keepsChain_4 rfl ?_
    refine j_aload_n hC dX10_keepsChain_5 rfl (jrf_ref _) ?_
    refine r_getN (x := nI (f)) hC kf_X10_237 dX10_keepsChain_6 rfl (hf) ?_
    refine n_icmp_gt (tgt := 71) hC dX10_keepsChain_9 (by decide) (by omega) (by omega) (fun c1 => ?_) (fun c1 => ?_)
    · refine j_aload_n hC dX10_keepsChain_71 rfl (jrf_ref _) ?_
      refine r_get hC kf_X10_72 dX10_keepsChain_72 rfl ?_
      refine j_iload_n hC dX10_keepsChain_75 rfl ?_
      refine j_iload_n hC dX10_keepsChain_76 rfl ?_
      refine r_ast (k := 34) (j := r) hC dX10_keepsChain_77 (c := 19) (n := 20) (by decide) (fun _ => rfl) (rO_k34) hB rfl (by omega) (by decide) ?_
      exact j_vret hC9 rfl dX10_keepsChain_78 ⟨_, ⟨rfl, (by rw [hn, hk.2 (by omega)]; rfl)⟩, rfl⟩
    · have hk5 := hkb i (by omega)
      have ht5 := htb i (by omega)
      refine j_iload_n hC dX10_keepsChain_12 rfl ?_
      refine j_aload_n hC dX10_keepsChain_13 rfl (jrf_ref _) ?_
      refine r_getN (x := nI (f)) hC kf_X10_237 dX10_keepsChain_14 rfl (hf) ?_
      refine n_icmp_ge (tgt := 46) hC dX10_keepsChain_17 (by decide) (by omega) (by omega) (fun c2 => ?_) (fun c2 => ?_)
      · have hn4 := kc_len hk (by omega) c12
        refine j_aload_n hC dX10_keepsChain_46 rfl (jrf_ref _) ?_
        refine r_get hC kf_X10_75 dX10_keepsChain_47 rfl ?_
        refine j_iconst (v := nI 5) hC dX10_keepsChain_50 (by decide) ?_
        refine j_iload_n hC dX10_keepsChain_51 rfl ?_
        refine n_imul hC dX10_keepsChain_52 ?_
        refine j_iload_n hC dX10_keepsChain_53 rfl ?_
        refine n_iadd hC dX10_keepsChain_54 ?_
        refine j_aload_n hC dX10_keepsChain_55 rfl (jrf_ref _) ?_
        refine r_get hC kf_X10_35 dX10_keepsChain_56 rfl ?_
        refine j_iload_n hC dX10_keepsChain_59 rfl ?_
        refine r_aldN (k := 18) (j := i) (x := nI (iPlace (pAtI (pIts (pEnd (sTmpl S))) (i)))) hC dX10_keepsChain_60 (c := 8) (n := 120) (by decide) rfl rfl (by omega) (by decide) ((hwk.2.2.2.2.1 _ (by omega)).2.1) ?_
        refine r_ast (k := 35) (j := (5 * r) + (n)) hC dX10_keepsChain_61 (c := 20) (n := 100) (by decide) (fun _ => rfl) (rO_k35) hB rfl (by omega) (by decide) ?_
        refine j_iinc_2 (v := nI (n + 1)) hC dX10_keepsChain_62 (nI_add _ _) (by decide) rfl ?_
        refine j_iinc_3 (v := nI (i + 1)) hC dX10_keepsChain_65 (nI_add _ _) (by decide) rfl ?_
        refine j_goto (tgt := 4) hC dX10_keepsChain_68 (by decide) ?_
        exact j_R (rA_ra.trans (rA_eq (txA_app hn))) (ih (i + 1) ((t ++ [iPlace (pAtI (pIts (pEnd (sTmpl S))) (i))])) (n + 1) (by omega) (by omega) (by first | exact hn | (rw [List.length_append, hn]; rfl)) (by first | exact kc_no hk (by omega) (fun q => (show ¬ iKind (pAtI (pIts (pEnd (sTmpl S))) (i)) = 5 by assumption) ((c9 i).mp q).2.1) | exact kc_no hk (by omega) (fun q => pfx_t hop ((c9 i).mp q).2.2 (by assumption)) | exact kc_in hk (by omega) c11 ((c9 i).mpr ⟨by omega, by assumption, Or.inr (by assumption)⟩) | exact kc_f hk (by omega) (fun a ha => ((c9 a).mp ha).1)))
      · refine j_aload_n hC dX10_keepsChain_20 rfl (jrf_ref _) ?_
        refine r_get hC kf_X10_32 dX10_keepsChain_21 rfl ?_
        refine j_iload_n hC dX10_keepsChain_24 rfl ?_
        refine r_aldN (k := 17) (j := i) (x := nI (iKind (pAtI (pIts (pEnd (sTmpl S))) (i)))) hC dX10_keepsChain_25 (c := 7) (n := 120) (by decide) rfl rfl (by omega) (by decide) ((hwk.2.2.2.2.1 _ (by omega)).1) ?_
        refine j_iconst (v := nI 5) hC dX10_keepsChain_26 (by decide) ?_
        refine n_icmp_ne (tgt := 65) hC dX10_keepsChain_27 (by decide) (by omega) (by omega) (fun c3 => ?_) (fun c3 => ?_)
        · refine j_iinc_3 (v := nI (i + 1)) hC dX10_keepsChain_65 (nI_add _ _) (by decide) rfl ?_
          refine j_goto (tgt := 4) hC dX10_keepsChain_68 (by decide) ?_
          exact j_R (rfl) (ih (i + 1) (t) (n) (by omega) (by omega) (by first | exact hn | (rw [List.length_append, hn]; rfl)) (by first | exact kc_no hk (by omega) (fun q => (show ¬ iKind (pAtI (pIts (pEnd (sTmpl S))) (i)) = 5 by assumption) ((c9 i).mp q).2.1) | exact kc_no hk (by omega) (fun q => pfx_t hop ((c9 i).mp q).2.2 (by assumption)) | exact kc_in hk (by omega) c11 ((c9 i).mpr ⟨by omega, by assumption, Or.inr (by assumption)⟩) | exact kc_f hk (by omega) (fun a ha => ((c9 a).mp ha).1)))
        · refine j_aload_n hC dX10_keepsChain_30 rfl (jrf_ref _) ?_
          refine r_get hC kf_X10_44 dX10_keepsChain_31 rfl ?_
          refine j_iload_n hC dX10_keepsChain_34 rfl ?_
          refine r_aldN (k := 21) (j := i) (x := nI (iTill (pAtI (pIts (pEnd (sTmpl S))) (i)))) hC dX10_keepsChain_35 (c := 11) (n := 120) (by decide) rfl rfl (by omega) (by decide) (hwt _ (by omega)) ?_
          refine j_aload_n hC dX10_keepsChain_36 rfl (jrf_ref _) ?_
          refine r_getN (x := nI (f)) hC kf_X10_237 dX10_keepsChain_37 rfl (hf) ?_
          refine n_icmp_gt (tgt := 46) hC dX10_keepsChain_40 (by decide) (by omega) (by omega) (fun c4 => ?_) (fun c4 => ?_)
          · have hn4 := kc_len hk (by omega) c12
            refine j_aload_n hC dX10_keepsChain_46 rfl (jrf_ref _) ?_
            refine r_get hC kf_X10_75 dX10_keepsChain_47 rfl ?_
            refine j_iconst (v := nI 5) hC dX10_keepsChain_50 (by decide) ?_
            refine j_iload_n hC dX10_keepsChain_51 rfl ?_
            refine n_imul hC dX10_keepsChain_52 ?_
            refine j_iload_n hC dX10_keepsChain_53 rfl ?_
            refine n_iadd hC dX10_keepsChain_54 ?_
            refine j_aload_n hC dX10_keepsChain_55 rfl (jrf_ref _) ?_
            refine r_get hC kf_X10_35 dX10_keepsChain_56 rfl ?_
            refine j_iload_n hC dX10_keepsChain_59 rfl ?_
            refine r_aldN (k := 18) (j := i) (x := nI (iPlace (pAtI (pIts (pEnd (sTmpl S))) (i)))) hC dX10_keepsChain_60 (c := 8) (n := 120) (by decide) rfl rfl (by omega) (by decide) ((hwk.2.2.2.2.1 _ (by omega)).2.1) ?_
            refine r_ast (k := 35) (j := (5 * r) + (n)) hC dX10_keepsChain_61 (c := 20) (n := 100) (by decide) (fun _ => rfl) (rO_k35) hB rfl (by omega) (by decide) ?_
            refine j_iinc_2 (v := nI (n + 1)) hC dX10_keepsChain_62 (nI_add _ _) (by decide) rfl ?_
            refine j_iinc_3 (v := nI (i + 1)) hC dX10_keepsChain_65 (nI_add _ _) (by decide) rfl ?_
            refine j_goto (tgt := 4) hC dX10_keepsChain_68 (by decide) ?_
            exact j_R (rA_ra.trans (rA_eq (txA_app hn))) (ih (i + 1) ((t ++ [iPlace (pAtI (pIts (pEnd (sTmpl S))) (i))])) (n + 1) (by omega) (by omega) (by first | exact hn | (rw [List.length_append, hn]; rfl)) (by first | exact kc_no hk (by omega) (fun q => (show ¬ iKind (pAtI (pIts (pEnd (sTmpl S))) (i)) = 5 by assumption) ((c9 i).mp q).2.1) | exact kc_no hk (by omega) (fun q => pfx_t hop ((c9 i).mp q).2.2 (by assumption)) | exact kc_in hk (by omega) c11 ((c9 i).mpr ⟨by omega, by assumption, Or.inr (by assumption)⟩) | exact kc_f hk (by omega) (fun a ha => ((c9 a).mp ha).1)))
          · refine j_goto (tgt := 65) hC dX10_keepsChain_43 (by decide) ?_
            refine j_iinc_3 (v := nI (i + 1)) hC dX10_keepsChain_65 (nI_add _ _) (by decide) rfl ?_
            refine j_goto (tgt := 4) hC dX10_keepsChain_68 (by decide) ?_
            exact j_R (rfl) (ih (i + 1) (t) (n) (by omega) (by omega) (by first | exact hn | (rw [List.length_append, hn]; rfl)) (by first | exact kc_no hk (by omega) (fun q => (show ¬ iKind (pAtI (pIts (pEnd (sTmpl S))) (i)) = 5 by assumption) ((c9 i).mp q).2.1) | exact kc_no hk (by omega) (fun q => pfx_t hop ((c9 i).mp q).2.2 (by assumption)) | exact kc_in hk (by omega) c11 ((c9 i).mpr ⟨by omega, by assumption, Or.inr (by assumption)⟩) | exact kc_f hk (by omega) (fun a ha => ((c9 a).mp ha).1)))
theorem rsn_3 {S : aSet} {r p : Nat} {b : Bool} (h3 : 3 ≤ rsnA S r p b) : rsnA S r p b = (ltrA S r).1 := by
  unfold rsnA at h3 ⊢
  split at h3
  · omega
  · split at h3
    · rename_i g1 g2
      rw [if_neg g1, if_pos g2]
    · omega
/-- what the latest run finds of record q -/
noncomputable def rnX (S : aSet) (q : Nat) : Nat × List Nat × List Nat := (rsnA S q (sPol S) false, if rsnA S q (sPol S) false = 0 then (ltrA S q).2.1 else [], if 3 ≤ rsnA S q (sPol S) false then chnA (pIts (pEnd (sTmpl S))) (ltrA S q).2.2 else [])
noncomputable def runL (S : aSet) : aRun := (List.range (sRecs S).length).map (rnX S)
theorem runL_len {S : aSet} : (runL S).length = (sRecs S).length := by rw [runL, List.length_map, List.length_range]
theorem runL_at {S : aSet} {r : Nat} (h : r < (sRecs S).length) : ranAt (runL S) r = rnX S r := by
  rw [ranAt, List.getD_eq_getElem?_getD, runL, List.getElem?_map, List.getElem?_range h]
  rfl
noncomputable def lettersN (S : aSet) : Nat → Nat := cntTo (fun q => decide (rsnA S q (sPol S) false = 0))
noncomputable def opRun (T : aSt) : aAns :=
  if (sRecs (tSet T)).length = 0 then (1, 0, T)
  else (0, nI (lettersN (tSet T) (sRecs (tSet T)).length), (tSet T, tPast T, tSave T, tBuf T, tErr T, some (runL (tSet T))))
theorem chnA_b {L : List Nat} {its : List pIt} {cos : List pCo} {op : List Nat} {f : Nat} (hw : wfP L its cos op) (hf : f < its.length) (hl : L.length ≤ 120) : (chnA its f).length ≤ 5 ∧ ∀ c ∈ chnA its f, c ≤ 120 := by
  have h := hw.1 f hf
  have h9 := h.2.2.2.2.2.2.2.2.1
  have h12 := h.2.2.2.2.2.2.2.2.2.2.2
  refine ⟨?_, fun c hc => ?_⟩
  · rw [chnA, List.length_append, List.length_map, List.length_reverse]
    exact Nat.succ_le_succ h12
  · rcases List.mem_append.mp hc with hc | hc
    · obtain ⟨j, hj, rfl⟩ := List.mem_map.mp hc
      have hj2 := ((h9 j).mp (List.mem_reverse.mp hj)).1
      have := (hw.1 j (by omega)).2.1
      omega
    · rw [List.mem_singleton.mp hc]
      have := h.2.1
      omega
/-- the run under way -/
def rnF (R0 R : rR) : Prop := (∀ k, k ≠ 28 → k ≠ 29 → R.1 k = R0.1 k) ∧ ∀ k, k ≠ 27 → k ≠ 31 → k ≠ 32 → k ≠ 33 → k ≠ 34 → k ≠ 35 → R.2 k = R0.2 k
def rnQ (R0 R : rR) (S : aSet) (r : Nat) : Prop := rdW R S ∧ rnF R0 R ∧ ∀ q, q < r → ranRep R q (rnX S q)
def rnS (R1 R2 : rR) (r : Nat) : Prop := R2.1 = R1.1 ∧ (∀ k, k ≠ 31 → k ≠ 32 → k ≠ 33 → k ≠ 34 → k ≠ 35 → R2.2 k = R1.2 k) ∧ (∀ j, j ≠ r → R2.2 31 j = R1.2 31 j ∧ R2.2 32 j = R1.2 32 j ∧ R2.2 34 j = R1.2 34 j) ∧ (∀ j, j < 200 * r ∨ 200 * r + 200 ≤ j → R2.2 33 j = R1.2 33 j) ∧ ∀ j, j < 5 * r ∨ 5 * r + 5 ≤ j → R2.2 35 j = R1.2 35 j
section RS
variable {R0 R R1 R2 R8 : rR} {S : aSet} {r k : Nat} {v : Int32} {t : List Nat} {T : aSt}
theorem rnS_refl : rnS R R r := ⟨rfl, fun _ _ _ _ _ _ => rfl, fun _ _ => ⟨rfl, rfl, rfl⟩, fun _ _ => rfl, fun _ _ => rfl⟩
theorem upd_ne {g : Nat → Int32} {i j : Nat} {x : Int32} (h : j ≠ i) : upd g i x j = g j := if_neg h
theorem rnS_31 (h : rnS R1 R2 r) : rnS R1 (ra R2 31 r v) r := ⟨h.1, fun k a b c d e => (if_neg a).trans (h.2.1 k a b c d e), fun j hj => ⟨(upd_ne hj).trans (h.2.2.1 j hj).1, (h.2.2.1 j hj).2⟩, h.2.2.2.1, h.2.2.2.2⟩
theorem rnS_32 (h : rnS R1 R2 r) : rnS R1 (ra R2 32 r v) r := ⟨h.1, fun k a b c d e => (if_neg b).trans (h.2.1 k a b c d e), fun j hj => ⟨(h.2.2.1 j hj).1, (upd_ne hj).trans (h.2.2.1 j hj).2.1, (h.2.2.1 j hj).2.2⟩, h.2.2.2.1, h.2.2.2.2⟩
theorem rnS_34 (h : rnS R1 R2 r) : rnS R1 (ra R2 34 r v) r := ⟨h.1, fun k a b c d e => (if_neg d).trans (h.2.1 k a b c d e), fun j hj => ⟨(h.2.2.1 j hj).1, (h.2.2.1 j hj).2.1, (upd_ne hj).trans (h.2.2.1 j hj).2.2⟩, h.2.2.2.1, h.2.2.2.2⟩
theorem rnS_33 (h : rnS R1 R2 r) (hk : k ≤ 200) : rnS R1 (rA R2 33 (txA (R2.2 33) (200 * r) t k)) r := ⟨h.1, fun k a b c d e => (if_neg c).trans (h.2.1 k a b c d e), h.2.2.1, fun j hj => (txA_out (by omega)).trans (h.2.2.2.1 j hj), h.2.2.2.2⟩
theorem rnS_35 (h : rnS R1 R2 r) (hk : k ≤ 5) : rnS R1 (rA R2 35 (txA (R2.2 35) (5 * r) t k)) r := ⟨h.1, fun k a b c d e => (if_neg e).trans (h.2.1 k a b c d e), h.2.2.1, h.2.2.2.1, fun j hj => (txA_out (by omega)).trans (h.2.2.2.2 j hj)⟩
theorem rd_rnS (h : rdW R1 S) (hs : rnS R1 R2 r) : rdW R2 S := by
  have g := fun k (hk : k ≠ 31 ∧ k ≠ 32 ∧ k ≠ 33 ∧ k ≠ 34 ∧ k ≠ 35) => hs.2.1 k hk.1 hk.2.1 hk.2.2.1 hk.2.2.2.1 hk.2.2.2.2
  have f := fun k => congrFun hs.1 k
  exact rd_fr h (f 11) (f 14) (f 15) (f 16) (f 22) (g 1 (by decide)) (g 10 (by decide)) (g 17 (by decide)) (g 18 (by decide)) (g 19 (by decide)) (g 20 (by decide)) (g 21 (by decide)) (g 23 (by decide)) (g 24 (by decide)) (g 25 (by decide))
theorem rr_mv {q : Nat} {x : Nat × List Nat × List Nat} (h : ranRep R q x) (e31 : R2.2 31 q = R.2 31 q) (e32 : R2.2 32 q = R.2 32 q) (e33 : ∀ i, i < 200 → R2.2 33 (200 * q + i) = R.2 33 (200 * q + i)) (e34 : R2.2 34 q = R.2 34 q) (e35 : ∀ i, i < 5 → R2.2 35 (5 * q + i) = R.2 35 (5 * q + i)) : ranRep R2 q x := by
  obtain ⟨a1, a2, a3, a4, a5, a6, a7, a8, a9⟩ := h
  exact ⟨a1, a2, a3, e31.trans a4, e32.trans a5, fun i hi => (e33 i (by omega)).trans (a6 i hi), e34.trans a7, fun i hi => (e35 i (by omega)).trans (a8 i hi), a9⟩
theorem rq_step (hq : rnQ R0 R8 S r) (hs : rsP R8 R1 S r (sPol S) false) (h : rnS R1 R2 r) (hx : ranRep R2 r (rnX S r)) : rnQ R0 R2 S (r + 1) := by
  obtain ⟨q1, q2, q3⟩ := hq
  have hm := hs.1
  refine ⟨rd_rnS (rd_mfr q1 hm) h, ⟨fun k a b => (congrFun h.1 k).trans ((hm.1 k a b).trans (q2.1 k a b)), fun k a b c d e f => (h.2.1 k b c d e f).trans ((hm.2 k a).trans (q2.2 k a b c d e f))⟩, fun q hq => ?_⟩
  by_cases e : q = r
  · subst e; exact hx
  · have hl : q < r := by omega
    have g31 := congrFun (hm.2 31 (by decide)) q
    have g32 := congrFun (hm.2 32 (by decide)) q
    have g34 := congrFun (hm.2 34 (by decide)) q
    exact rr_mv (q3 q hl) ((h.2.2.1 q e).1.trans g31) ((h.2.2.1 q e).2.1.trans g32) (fun i hi => (h.2.2.2.1 _ (by omega)).trans (congrFun (hm.2 33 (by decide)) _)) ((h.2.2.1 q e).2.2.trans g34) (fun i hi => (h.2.2.2.2 _ (by omega)).trans (congrFun (hm.2 35 (by decide)) _))
theorem rr_of (hS : setG S) (hr : r < (sRecs S).length) (h31 : R2.2 31 r = nI (rsnA S r (sPol S) false)) (h32 : R2.2 32 r = nI (rnX S r).2.1.length) (h33 : ∀ i, i < (rnX S r).2.1.length → R2.2 33 (200 * r + i) = nI ((rnX S r).2.1.getD i 0)) (h34 : R2.2 34 r = nI (rnX S r).2.2.length) (h35 : ∀ i, i < (rnX S r).2.2.length → R2.2 35 (5 * r + i) = nI ((rnX S r).2.2.getD i 0)) : ranRep R2 r (rnX S r) := by
  have hl := ltr_b hS hr
  have hb := rsn_b (S := S) (r := r) (p := sPol S) (b := false) hS hr
  have hL : (sTmpl S).length ≤ 120 := hS.1.2.2.2.2.2.2.1.1
  have e1 : (rnX S r).2.1.length ≤ 200 ∧ ∀ c ∈ (rnX S r).2.1, c ≤ 126 := by
    simp only [rnX]
    split
    · exact ⟨hl.2.1, hl.2.2.1⟩
    · exact ⟨Nat.zero_le _, fun c hc => absurd hc List.not_mem_nil⟩
  have e2 : (rnX S r).2.2.length ≤ 5 ∧ ∀ c ∈ (rnX S r).2.2, c ≤ 120 := by
    simp only [rnX]
    split
    · rename_i h3
      have hm : rsnA S r (sPol S) false = (ltrA S r).1 := by
        unfold rsnA at h3 ⊢
        split at h3
        · omega
        · split at h3
          · rename_i g1 g2
            rw [if_neg g1, if_pos g2]
          · omega
      exact chnA_b (wf_end hS.2) (hl.2.2.2 (by omega)).2 hL
    · exact ⟨Nat.zero_le _, fun c hc => absurd hc List.not_mem_nil⟩
  refine ⟨hb, e1.1, e2.1, h31, h32, h33, h34, h35, e1.2, e2.2, fun h => if_neg h, fun h => if_neg (by exact Nat.not_le.mpr h)⟩
theorem rnX_no (h : ¬ rsnA S r (sPol S) false = 0) : (rnX S r).2.1 = [] := if_neg h
theorem rnX_yes (h : rsnA S r (sPol S) false = 0) : (rnX S r).2.1 = (ltrA S r).2.1 := if_pos h
theorem rnX_noC (h : rsnA S r (sPol S) false ≤ 2) : (rnX S r).2.2 = [] := if_neg (by omega)
theorem rnX_C (h : 3 ≤ rsnA S r (sPol S) false) : (rnX S r).2.2 = chnA (pIts (pEnd (sTmpl S))) (ltrA S r).2.2 := if_pos h
theorem rq_b (hS : setG S) (hr : r < (sRecs S).length) (hq : rnQ R0 R8 S r) (hs : rsP R8 R1 S r (sPol S) false) (h : ¬ rsnA S r (sPol S) false = 0) (h2 : rsnA S r (sPol S) false ≤ 2) : rnQ R0 (ra (ra (ra R1 31 r (nI (rsnA S r (sPol S) false))) 32 r (nI (0))) 34 r (nI (0))) S (r + 1) :=
  rq_step hq hs (rnS_34 (rnS_32 (rnS_31 rnS_refl))) (rr_of hS hr (ra_s (R := R1) (k := 31)) (by rw [rnX_no h]; exact ra_s (R := ra R1 31 r (nI (rsnA S r (sPol S) false))) (k := 32)) (by rw [rnX_no h]; exact fun i hi => absurd hi (Nat.not_lt_zero i)) (by rw [rnX_noC h2]; exact ra_s) (by rw [rnX_noC h2]; exact fun i hi => absurd hi (Nat.not_lt_zero i)))
theorem rq_c (hS : setG S) (hr : r < (sRecs S).length) (hq : rnQ R0 R8 S r) (hs : rsP R8 R1 S r (sPol S) false) (h : 2 < rsnA S r (sPol S) false) (h5 : (chnA (pIts (pEnd (sTmpl S))) (ltrA S r).2.2).length ≤ 5) : rnQ R0 (chR (ra (ra (ra R1 31 r (nI (rsnA S r (sPol S) false))) 32 r (nI (0))) 34 r (nI (0))) r (chnA (pIts (pEnd (sTmpl S))) (ltrA S r).2.2)) S (r + 1) := by
  refine rq_step hq hs (rnS_34 (rnS_35 (rnS_34 (rnS_32 (rnS_31 rnS_refl))) h5)) (rr_of hS hr (ra_s (R := R1) (k := 31)) (by rw [rnX_no (by omega)]; exact ra_s (R := ra R1 31 r (nI (rsnA S r (sPol S) false))) (k := 32)) (by rw [rnX_no (by omega)]; exact fun i hi => absurd hi (Nat.not_lt_zero i)) (by rw [rnX_C h]; exact ra_s) (fun i hi => ?_))
  rw [rnX_C h] at hi ⊢
  exact txA_in hi
theorem rq_a (hS : setG S) (hr : r < (sRecs S).length) (hq : rnQ R0 R8 S r) (hs : rsP R8 R1 S r (sPol S) false) (h : rsnA S r (sPol S) false = 0) (hk : k = (ltrA S r).2.1.length) (h200 : (ltrA S r).2.1.length ≤ 200) : rnQ R0 (rA (ra (ra (ra (ra R1 31 r (nI (rsnA S r (sPol S) false))) 32 r (nI (0))) 34 r (nI (0))) 32 r (nI ((ltrA S r).2.1.length))) 33 (txA ((ra (ra (ra (ra R1 31 r (nI (rsnA S r (sPol S) false))) 32 r (nI (0))) 34 r (nI (0))) 32 r (nI ((ltrA S r).2.1.length))).2 33) (200 * r) (ltrA S r).2.1 k)) S (r + 1) := by
  subst hk
  refine rq_step hq hs (rnS_33 (rnS_32 (rnS_34 (rnS_32 (rnS_31 rnS_refl)))) h200) (rr_of hS hr (ra_s (R := R1) (k := 31)) (by rw [rnX_yes h]; exact ra_s (R := (ra (ra (ra R1 31 r (nI (rsnA S r (sPol S) false))) 32 r (nI (0))) 34 r (nI (0)))) (k := 32)) (fun i hi => ?_) (by rw [rnX_noC (by omega)]; exact ra_s (R := ra (ra R1 31 r (nI (rsnA S r (sPol S) false))) 32 r (nI 0)) (k := 34)) (by rw [rnX_noC (by omega)]; exact fun i hi => absurd hi (Nat.not_lt_zero i)))
  rw [rnX_yes h] at hi ⊢
  exact txA_in hi
theorem ln_t {m : Nat} (hm : m = lettersN S r) (h : rsnA S r (sPol S) false = 0) : m + 1 = lettersN S (r + 1) := by
  rw [hm]
  exact (congrArg (lettersN S r + ·) (if_pos (decide_eq_true h))).symm
theorem ln_f {m : Nat} (hm : m = lettersN S r) (h : ¬ rsnA S r (sPol S) false = 0) : m = lettersN S (r + 1) := by
  rw [hm]
  show lettersN S r = lettersN S r + (if decide (rsnA S r (sPol S) false = 0) = true then 1 else 0)
  rw [if_neg (by rw [decide_eq_true_eq]; exact h), Nat.add_zero]
theorem run_1 (h : (sRecs (tSet T)).length = 0) : opRun T = (1, nI 0, T) := if_pos h
theorem run_0 (h : ¬ (sRecs (tSet T)).length = 0) : opRun T = (0, nI (lettersN (tSet T) (sRecs (tSet T)).length), (tSet T, tPast T, tSave T, tBuf T, tErr T, some (runL (tSet T)))) := if_neg h
theorem ri_run (hi : rInv R (tSet T, T.2)) (hq : rnQ (rs R 30 (nI (sRecs (tSet T)).length)) R8 (tSet T) (sRecs (tSet T)).length) (hn : ¬ (sRecs (tSet T)).length = 0) : rInv R8 (tSet T, tPast T, tSave T, tBuf T, tErr T, some (runL (tSet T))) := by
  obtain ⟨q1, q2, q3⟩ := hq
  have f := fun k (hk : k ≠ 28 ∧ k ≠ 29 ∧ k ≠ 30) => (q2.1 k hk.1 hk.2.1).trans (if_neg hk.2.2)
  have g := fun k (hk : k ≠ 27 ∧ k ≠ 31 ∧ k ≠ 32 ∧ k ≠ 33 ∧ k ≠ 34 ∧ k ≠ 35) => q2.2 k hk.1 hk.2.1 hk.2.2.1 hk.2.2.2.1 hk.2.2.2.2.1 hk.2.2.2.2.2
  have e1 : R8.2 1 = R.2 1 := g 1 (by decide)
  have e4 : R8.2 4 = R.2 4 := g 4 (by decide)
  obtain ⟨h1, h2, h3, h4, h5, h6, h7, h8, h9, h10, h11, h12, h13, h14, h15⟩ := hi
  refine ⟨by rw [e1]; exact h1, h2, h3, (f 2 (by decide)).trans h4, by rw [e1]; exact h5, (f 3 (by decide)).trans h6, by rw [e1]; exact h7, h8, (f 5 (by decide)).trans h9, by rw [e4]; exact h10, h11, (f 6 (by decide)).trans h12, h13, ?_, fun L hL => ?_⟩
  · rw [q2.1 30 (by decide) (by decide)]
    show nI (sRecs (tSet T)).length = zI ((runL (tSet T)).length : Nat)
    rw [runL_len]
    rfl
  · obtain rfl : runL (tSet T) = L := Option.some.inj hL
    rw [runL_len]
    exact ⟨by omega, h2.1.1, fun r hr => by rw [runL_at hr]; exact q3 r hr⟩
end RS
set_option maxHeartbeats 4000000 in
set_option maxRecDepth 100000 in
theorem o_X10_run  : ROp jX10_run 18 [] (opRun) := by
  intro R T hi
  obtain ⟨S, P, V, b, e, u⟩ := T
  intro G o M0 hs hBo
  refine jMet_of [some (.ref o), none, none, none] (by decide) rfl (Nat.le_of_ble_eq_true rfl) rfl hs ?_
  intro C hC9 hG
  have hC := hC9.z
  have hB : jB C ≤ o := by rw [jB, hG]; exact hBo
  have hp : rPre R S := ri_pre hi
  have h20 := rp_n20 hp
  have hP8 : P.length ≤ 8 := ri_pn hi
  have hb120 : b.length ≤ 120 := ri_bn hi
  refine j_aload_n hC dX10_run_0 rfl (jrf_ref _) ?_
  refine j_aload_n hC dX10_run_1 rfl (jrf_ref _) ?_
  refine r_get hC kf_X10_9 dX10_run_2 rfl ?_
  refine j_iconst (v := nI 0) hC dX10_run_5 (by decide) ?_
  refine r_aldN (k := 1) (j := 0) (x := nI ((sRecs S).length)) hC dX10_run_6 (c := 1) (n := 14790) (by decide) rfl rfl (by omega) (by decide) (rp_many hp) ?_
  refine n_if_ne (tgt := 14) hC dX10_run_7 (by decide) (by omega) (fun c1 => ?_) (fun c1 => ?_)
  · refine j_iconst (v := nI 0) hC dX10_run_14 (by decide) ?_
    refine r_put hC kp_X10_78 dX10_run_15 hB rfl rfl rF_set_0 ?_
    refine j_aload_n hC dX10_run_18 rfl (jrf_ref _) ?_
    refine r_getN (x := nI (0)) hC kf_X10_78 dX10_run_19 rfl (rfl) ?_
    refine n_if_eq (tgt := 27) hC dX10_run_22 (by decide) (by omega) (fun c2 => ?_) (fun c2 => ?_)
    · have hn0 : ¬ (sRecs S).length = 0 := by omega
      have hp3 : sPol S < 3 := hp.2.2.2.1
      refine j_aload_n hC dX10_run_27 rfl (jrf_ref _) ?_
      refine r_call hC kv_X10_199 dX10_run_28 (m_X10_readsTemplate (R := (rs R 0 (nI (0)))) (S := S) hp) rfl rfl hB rfl (by decide) (Nat.le_of_ble_eq_true rfl) ?_
      intro v9 R9 h9
      obtain ⟨rfl, hp9, hf9⟩ := h9
      have hok9 : pOK (sTmpl S) = true := (ri_ok hi).2
      have hwk : prW R9 (pEnd (sTmpl S)) := hp9.2.2.2.2 hok9
      have hwf := wf_end hok9
      have hop9 := op_end hp9.1.2.2.1 hok9
      have hwt : ∀ i, i < (pIts (pEnd (sTmpl S))).length → R9.2 21 i = nI (iTill (pAtI (pIts (pEnd (sTmpl S))) (i))) := fun i hi => hwk.2.2.2.2.2.2.2.2.2.2.2 i hi (by rw [hop9]; exact List.not_mem_nil)
      have hil9 := hwk.2.2.2.2.2.2.1
      have hcl9 := hwk.2.2.2.2.2.2.2.1
      have hat9 := hp9.2.2.2.1
      have hL129 := hp9.1.2.2.1
      have hi1 : rInv R9 (S, P, V, b, e, u) := ri_pfs (R := rs R 0 (nI 0)) hi hf9
      have hp1 : rPre R9 S := ri_pre hi1
      have hrd : rdW R9 S := ⟨hp1, ri_ok hi, hp9.1, hwk, by omega, by omega⟩
      refine j_aload_n hC dX10_run_31 rfl (jrf_ref _) ?_
      refine j_aload_n hC dX10_run_32 rfl (jrf_ref _) ?_
      refine r_get hC kf_X10_9 dX10_run_33 rfl ?_
      refine j_iconst (v := nI 0) hC dX10_run_36 (by decide) ?_
      refine r_aldN (k := 1) (j := 0) (x := nI ((sRecs S).length)) hC dX10_run_37 (c := 1) (n := 14790) (by decide) rfl rfl (by omega) (by decide) (rp_many hp1) ?_
      refine r_put hC kp_X10_60 dX10_run_38 hB rfl rfl rF_set_30 ?_
      refine j_iconst (v := nI 0) hC dX10_run_41 (by decide) ?_
      refine j_istore_n1 hC dX10_run_42 (by decide) rfl ?_
      refine j_iconst (v := nI 0) hC dX10_run_43 (by decide) ?_
      refine j_istore_n2 hC dX10_run_44 (by decide) rfl ?_
      suffices K : ∀ (n9a : Nat) (r : Nat) (m : Nat) (R8 : rR), (sRecs S).length - r < n9a → (r ≤ (sRecs S).length) → (m = lettersN S r) → (m ≤ r) → (rnQ (rs R9 30 (nI (sRecs S).length)) R8 S r) → J C (rM o M0 (R8)) 0 0 45 [some (.ref o), some (.int (nI (m))), some (.int (nI (r))), none] [] from j_R (rfl) (K _ (0) (0) ((rs R9 30 (nI (sRecs S).length))) (Nat.lt_succ_self _) (Nat.zero_le _) (rfl) (Nat.le_refl _) (⟨rd_fr hrd rfl rfl rfl rfl rfl rfl rfl rfl rfl rfl rfl rfl rfl rfl rfl, ⟨fun _ _ _ => rfl, fun _ _ _ _ _ _ _ => rfl⟩, fun q hq => absurd hq (Nat.not_lt_zero q)⟩))
      intro n9a
      induction n9a with
      | zero => intro r m R8 hm; omega
      | succ n9a iha =>
        intro r m R8 hma hr hm hml hq
        refine j_iload_n hC dX10_run_45 rfl ?_
        refine j_aload_n hC dX10_run_46 rfl (jrf_ref _) ?_
        refine r_getN (x := nI ((sRecs S).length)) hC kf_X10_60 dX10_run_47 rfl ((hq.2.1.1 30 (by decide) (by decide)).trans rfl) ?_
        refine n_icmp_ge (tgt := 165) hC dX10_run_50 (by decide) (by omega) (by omega) (fun c3 => ?_) (fun c3 => ?_)
        · refine j_iload_n hC dX10_run_165 rfl ?_
          have e9 : opRun (S, P, V, b, e, u) = (0, nI (m), (S, P, V, b, e, some (runL S))) := by rw [hm, show r = (sRecs S).length by omega]; exact run_0 (T := (S, P, V, b, e, u)) hn0
          exact j_iret hC9 rfl rfl dX10_run_166 ⟨R8, ro_ans e9 ((hq.2.1.1 0 (by decide) (by decide)).trans (hf9.1 0 (by decide) (by decide) (by decide) (by decide) (by decide) (by decide) (by decide))) (ri_run (T := (S, P, V, b, e, u)) hi1 (by rw [show r = (sRecs S).length by omega] at hq; exact hq) hn0), rfl⟩
        · have hr9 : r < (sRecs S).length := by omega
          refine j_aload_n hC dX10_run_53 rfl (jrf_ref _) ?_
          refine r_get hC kf_X10_63 dX10_run_54 rfl ?_
          refine j_iload_n hC dX10_run_57 rfl ?_
          refine j_aload_n hC dX10_run_58 rfl (jrf_ref _) ?_
          refine j_iload_n hC dX10_run_59 rfl ?_
          refine j_aload_n hC dX10_run_60 rfl (jrf_ref _) ?_
          refine r_get hC kf_X10_9 dX10_run_61 rfl ?_
          refine j_iconst (v := nI 2) hC dX10_run_64 (by decide) ?_
          refine r_aldN (k := 1) (j := 2) (x := nI (sPol S)) hC dX10_run_65 (c := 1) (n := 14790) (by decide) rfl rfl (by omega) (by decide) (rp_pol hq.1.1) ?_
          refine j_iconst (v := nI 0) hC dX10_run_66 (by decide) ?_
          refine j_top (jb_f0 (p := false = true) (by decide)) ?_
          refine r_call hC kv_X10_256 dX10_run_67 (m_X10_reasonOf (R := R8) (S := S) (r := r) (p := sPol S) (b := false) hq.1 hr9 (by omega)) rfl rfl hB rfl (by decide) (Nat.le_of_ble_eq_true rfl) ?_
          intro v1 R1 h1
          obtain ⟨rfl, hs1⟩ := h1
          have hrd1 := rd_mfr hq.1 hs1.1
          have hb1 := rsn_b (S := S) (r := r) (p := sPol S) (b := false) (ri_ok hi) hr9
          have hlb := ltr_b (S := S) (r := r) (ri_ok hi) hr9
          refine r_ast (k := 31) (j := r) hC dX10_run_70 (c := 16) (n := 20) (by decide) (fun _ => rfl) (rO_k31) hB rfl (by omega) (by decide) ?_
          refine j_aload_n hC dX10_run_71 rfl (jrf_ref _) ?_
          refine r_get hC kf_X10_66 dX10_run_72 rfl ?_
          refine j_iload_n hC dX10_run_75 rfl ?_
          refine j_iconst (v := nI 0) hC dX10_run_76 (by decide) ?_
          refine r_ast (k := 32) (j := r) hC dX10_run_77 (c := 17) (n := 20) (by decide) (fun _ => rfl) (rO_k32) hB rfl (by omega) (by decide) ?_
          refine j_aload_n hC dX10_run_78 rfl (jrf_ref _) ?_
          refine r_get hC kf_X10_72 dX10_run_79 rfl ?_
          refine j_iload_n hC dX10_run_82 rfl ?_
          refine j_iconst (v := nI 0) hC dX10_run_83 (by decide) ?_
          refine r_ast (k := 34) (j := r) hC dX10_run_84 (c := 19) (n := 20) (by decide) (fun _ => rfl) (rO_k34) hB rfl (by omega) (by decide) ?_
          refine j_aload_n hC dX10_run_85 rfl (jrf_ref _) ?_
          refine r_get hC kf_X10_63 dX10_run_86 rfl ?_
          refine j_iload_n hC dX10_run_89 rfl ?_
          refine r_aldN (k := 31) (j := r) (x := nI ((rsnA S r (sPol S) false))) hC dX10_run_90 (c := 16) (n := 20) (by decide) rfl rfl (by omega) (by decide) (ra_s (R := R1) (k := 31) (i := r) (v := nI (rsnA S r (sPol S) false))) ?_
          refine j_iconst (v := nI 2) hC dX10_run_91 (by decide) ?_
          refine n_icmp_le (tgt := 100) hC dX10_run_92 (by decide) (by omega) (by omega) (fun c4 => ?_) (fun c4 => ?_)
          · refine j_aload_n hC dX10_run_100 rfl (jrf_ref _) ?_
            refine r_get hC kf_X10_63 dX10_run_101 rfl ?_
            refine j_iload_n hC dX10_run_104 rfl ?_
            refine r_aldN (k := 31) (j := r) (x := nI ((rsnA S r (sPol S) false))) hC dX10_run_105 (c := 16) (n := 20) (by decide) rfl rfl (by omega) (by decide) (ra_s (R := R1) (k := 31) (i := r) (v := nI (rsnA S r (sPol S) false))) ?_
            refine n_if_eq (tgt := 112) hC dX10_run_106 (by decide) (by omega) (fun c5 => ?_) (fun c5 => ?_)
            · have h09 : (rsnA S r (sPol S) false) = 0 := by assumption
              refine j_iinc_1 (v := nI (m + 1)) hC dX10_run_112 (nI_add _ _) (by decide) rfl ?_
              refine j_aload_n hC dX10_run_115 rfl (jrf_ref _) ?_
              refine r_get hC kf_X10_66 dX10_run_116 rfl ?_
              refine j_iload_n hC dX10_run_119 rfl ?_
              refine j_aload_n hC dX10_run_120 rfl (jrf_ref _) ?_
              refine r_getN (x := nI ((ltrA S r).2.1.length)) hC kf_X10_215 dX10_run_121 rfl ((hs1.2.1 h09).1) ?_
              refine r_ast (k := 32) (j := r) hC dX10_run_124 (c := 17) (n := 20) (by decide) (fun _ => rfl) (rO_k32) hB rfl (by omega) (by decide) ?_
              refine j_iconst (v := nI 0) hC dX10_run_125 (by decide) ?_
              refine j_istore_n3 hC dX10_run_126 (by decide) rfl ?_
              suffices K : ∀ (n9b : Nat) (k : Nat), (ltrA S r).2.1.length - k < n9b → (k ≤ (ltrA S r).2.1.length) → J C (rM o M0 (rA (ra (ra (ra (ra R1 31 (r) (nI (rsnA S r (sPol S) false))) 32 (r) (nI (0))) 34 (r) (nI (0))) 32 (r) (nI ((ltrA S r).2.1.length))) 33 (txA ((ra (ra (ra (ra R1 31 (r) (nI (rsnA S r (sPol S) false))) 32 (r) (nI (0))) 34 (r) (nI (0))) 32 (r) (nI ((ltrA S r).2.1.length))).2 33) (200 * r) (ltrA S r).2.1 k))) 0 0 127 [some (.ref o), some (.int (nI (m + 1))), some (.int (nI (r))), some (.int (nI (k)))] [] from j_R (by rw [txA_0]; exact rA_self.symm) (K _ (0) (Nat.lt_succ_self _) (Nat.zero_le _))
              intro n9b
              induction n9b with
              | zero => intro k hm; omega
              | succ n9b ihb =>
                intro k hmb hk
                refine j_iload_n hC dX10_run_127 rfl ?_
                refine j_aload_n hC dX10_run_128 rfl (jrf_ref _) ?_
                refine r_getN (x := nI ((ltrA S r).2.1.length)) hC kf_X10_215 dX10_run_129 rfl ((hs1.2.1 h09).1) ?_
                refine n_icmp_ge (tgt := 159) hC dX10_run_132 (by decide) (by omega) (by omega) (fun c6 => ?_) (fun c6 => ?_)
                · refine j_iinc_2 (v := nI (r + 1)) hC dX10_run_159 (nI_add _ _) (by decide) rfl ?_
                  refine j_goto (tgt := 45) hC dX10_run_162 (by decide) ?_
                  exact j_R (rfl) (j_L (jle_s (jle_s (jle_s (jle_n (jle_0))))) (iha (r + 1) (m + 1) ((rA (ra (ra (ra (ra R1 31 (r) (nI (rsnA S r (sPol S) false))) 32 (r) (nI (0))) 34 (r) (nI (0))) 32 (r) (nI ((ltrA S r).2.1.length))) 33 (txA ((ra (ra (ra (ra R1 31 (r) (nI (rsnA S r (sPol S) false))) 32 (r) (nI (0))) 34 (r) (nI (0))) 32 (r) (nI ((ltrA S r).2.1.length))).2 33) (200 * r) (ltrA S r).2.1 k))) (by omega) (by omega) (by first | exact ln_t hm (by assumption) | exact ln_f hm (by omega)) (by omega) (by first | exact rq_b (ri_ok hi) hr9 hq hs1 (by omega) (by omega) | exact rq_c (ri_ok hi) hr9 hq hs1 (by omega) hc5 | exact rq_a (ri_ok hi) hr9 hq hs1 h09 (by omega) hlb.2.1)))
                · refine j_aload_n hC dX10_run_135 rfl (jrf_ref _) ?_
                  refine r_get hC kf_X10_69 dX10_run_136 rfl ?_
                  refine j_sipush (v := nI 200) hC dX10_run_139 (by decide) ?_
                  refine j_iload_n hC dX10_run_142 rfl ?_
                  refine n_imul hC dX10_run_143 ?_
                  refine j_iload_n hC dX10_run_144 rfl ?_
                  refine n_iadd hC dX10_run_145 ?_
                  refine j_aload_n hC dX10_run_146 rfl (jrf_ref _) ?_
                  refine r_get hC kf_X10_57 dX10_run_147 rfl ?_
                  refine j_iload_n hC dX10_run_150 rfl ?_
                  refine r_aldN (k := 27) (j := k) (x := nI ((ltrA S r).2.1.getD (k) 0)) hC dX10_run_151 (c := 15) (n := 200) (by decide) rfl rfl (by omega) (by decide) ((hs1.2.1 h09).2 _ (by omega)) ?_
                  refine r_ast (k := 33) (j := (200 * r) + (k)) hC dX10_run_152 (c := 18) (n := 4000) (by decide) (fun _ => rfl) (rO_k33) hB rfl (by omega) (by decide) ?_
                  refine j_iinc_3 (v := nI (k + 1)) hC dX10_run_153 (nI_add _ _) (by decide) rfl ?_
                  refine j_goto (tgt := 127) hC dX10_run_156 (by decide) ?_
                  exact j_R (rA_ra.trans (rA_eq txA_s)) (ihb (k + 1) (by omega) (by omega))
            · refine j_goto (tgt := 159) hC dX10_run_109 (by decide) ?_
              refine j_iinc_2 (v := nI (r + 1)) hC dX10_run_159 (nI_add _ _) (by decide) rfl ?_
              refine j_goto (tgt := 45) hC dX10_run_162 (by decide) ?_
              exact j_R (rfl) (iha (r + 1) (m) ((ra (ra (ra R1 31 (r) (nI (rsnA S r (sPol S) false))) 32 (r) (nI (0))) 34 (r) (nI (0)))) (by omega) (by omega) (by first | exact ln_t hm (by assumption) | exact ln_f hm (by omega)) (by omega) (by first | exact rq_b (ri_ok hi) hr9 hq hs1 (by omega) (by omega) | exact rq_c (ri_ok hi) hr9 hq hs1 (by omega) hc5 | exact rq_a (ri_ok hi) hr9 hq hs1 h09 (by omega) hlb.2.1))
          · have hm3 := rsn_3 (S := S) (r := r) (p := sPol S) (b := false) (by omega)
            have hfl9 := (hlb.2.2.2 (by omega)).2
            have hc5 := (chnA_b (f := (ltrA S r).2.2) hwf hfl9 hL129).1
            refine j_aload_n hC dX10_run_95 rfl (jrf_ref _) ?_
            refine j_iload_n hC dX10_run_96 rfl ?_
            refine r_cv1 hC kv_X10_259 dX10_run_97 (m_X10_keepsChain (R := (ra (ra (ra R1 31 (r) (nI (rsnA S r (sPol S) false))) 32 (r) (nI (0))) 34 (r) (nI (0)))) (S := S) (r := r) (f := (ltrA S r).2.2) (rd_rnS hrd1 (rnS_34 (rnS_32 (rnS_31 rnS_refl)))) (by omega) (hs1.2.2 (by omega)) hfl9) hB rfl (by decide) (Nat.le_of_ble_eq_true rfl) ?_
            refine j_aload_n hC dX10_run_100 rfl (jrf_ref _) ?_
            refine r_get hC kf_X10_63 dX10_run_101 rfl ?_
            refine j_iload_n hC dX10_run_104 rfl ?_
            refine r_aldN (k := 31) (j := r) (x := nI ((rsnA S r (sPol S) false))) hC dX10_run_105 (c := 16) (n := 20) (by decide) rfl rfl (by omega) (by decide) (ra_s (R := R1) (k := 31) (i := r) (v := nI (rsnA S r (sPol S) false))) ?_
            refine n_if_eq (tgt := 112) hC dX10_run_106 (by decide) (by omega) (fun c7 => ?_) (fun c7 => ?_)
            · exact (show False by omega).elim
            · refine j_goto (tgt := 159) hC dX10_run_109 (by decide) ?_
              refine j_iinc_2 (v := nI (r + 1)) hC dX10_run_159 (nI_add _ _) (by decide) rfl ?_
              refine j_goto (tgt := 45) hC dX10_run_162 (by decide) ?_
              exact j_R (rfl) (iha (r + 1) (m) ((chR (ra (ra (ra R1 31 (r) (nI (rsnA S r (sPol S) false))) 32 (r) (nI (0))) 34 (r) (nI (0))) r (chnA (pIts (pEnd (sTmpl S))) (ltrA S r).2.2))) (by omega) (by omega) (by first | exact ln_t hm (by assumption) | exact ln_f hm (by omega)) (by omega) (by first | exact rq_b (ri_ok hi) hr9 hq hs1 (by omega) (by omega) | exact rq_c (ri_ok hi) hr9 hq hs1 (by omega) hc5 | exact rq_a (ri_ok hi) hr9 hq hs1 h09 (by omega) hlb.2.1))
    · exact absurd c2 (by decide)
  · refine j_iconst (v := nI 1) hC dX10_run_10 (by decide) ?_
    refine j_goto (tgt := 15) hC dX10_run_11 (by decide) ?_
    refine r_put hC kp_X10_78 dX10_run_15 hB rfl rfl rF_set_0 ?_
    refine j_aload_n hC dX10_run_18 rfl (jrf_ref _) ?_
    refine r_getN (x := nI (1)) hC kf_X10_78 dX10_run_19 rfl (rfl) ?_
    refine n_if_eq (tgt := 27) hC dX10_run_22 (by decide) (by omega) (fun c8 => ?_) (fun c8 => ?_)
    · exact absurd c8 (by decide)
    · refine j_iconst (v := nI 0) hC dX10_run_25 (by decide) ?_
      have e9 : opRun (S, P, V, b, e, u) = (1, nI (0), (S, P, V, b, e, u)) := run_1 (by assumption)
      exact j_iret hC9 rfl rfl dX10_run_26 ⟨(rs R 0 (nI (1))), ro_ans e9 (rfl) (ri_thr hi), rfl⟩
