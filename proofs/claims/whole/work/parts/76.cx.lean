/-! ===== a reader of templates: what a reading is in the heap ===== -/
def mskP (P : pP) : Nat := orTo (gIt (pIts P)) (pIts P).length ||| orTo (gKo (pCos P)) (pCos P).length
section MK
variable {its : List pIt} {cos cs : List pCo} {x : pIt} {g h : Nat → Nat}
theorem orTo_eq {g h : Nat → Nat} : ∀ n, (∀ i, i < n → g i = h i) → orTo g n = orTo h n
  | 0, _ => rfl
  | n + 1, e => by
    show orTo g n ||| g n = orTo h n ||| h n
    rw [orTo_eq n (fun i hi => e i (by omega)), e n (by omega)]
theorem cntTo_eq {p q : Nat → Bool} : ∀ n, (∀ i, i < n → p i = q i) → cntTo p n = cntTo q n
  | 0, _ => rfl
  | n + 1, e => by
    show cntTo p n + (if p n = true then 1 else 0) = cntTo q n + (if q n = true then 1 else 0)
    rw [cntTo_eq n (fun i hi => e i (by omega)), e n (by omega)]
theorem orTo_lt : ∀ n, (∀ i, i < n → g i < 32) → orTo g n < 32
  | 0, _ => (by decide : 0 < 32)
  | n + 1, e => Nat.or_lt_two_pow (n := 5) (orTo_lt n (fun i hi => e i (by omega))) (e n (by omega))
theorem or4 (A u B w : Nat) : A ||| u ||| (B ||| w) = A ||| B ||| (u ||| w) := by
  rw [Nat.or_assoc A u, Nat.or_assoc A B, ← Nat.or_assoc u B w, Nat.or_comm u B, Nat.or_assoc B u w]
theorem mI_push : orTo (gIt (its ++ [x])) (its ++ [x]).length = orTo (gIt its) its.length ||| (if iKind x = 3 then 2 ^ iOne x else 0) := by
  have e : gIt (its ++ [x]) its.length = if iKind x = 3 then 2 ^ iOne x else 0 := by unfold gIt; rw [pAtI_new]
  rw [List.length_append, List.length_singleton]
  show orTo (gIt (its ++ [x])) its.length ||| gIt (its ++ [x]) its.length = _
  rw [e, orTo_eq (h := gIt its) its.length (fun i hi => by unfold gIt; rw [pAtI_app hi])]
theorem mK_app : ∀ k, orTo (gKo (cos ++ cs)) (cos.length + k) = orTo (gKo cos) cos.length ||| orTo (gKo cs) k
  | 0 => by
    show orTo (gKo (cos ++ cs)) cos.length = orTo (gKo cos) cos.length ||| 0
    rw [Nat.or_zero]
    exact orTo_eq cos.length (fun i hi => by unfold gKo; rw [pAtC_app hi])
  | k + 1 => by
    have e : gKo (cos ++ cs) (cos.length + k) = gKo cs k := by unfold gKo; rw [pAtC_app2]
    show orTo (gKo (cos ++ cs)) (cos.length + k) ||| gKo (cos ++ cs) (cos.length + k) = orTo (gKo cos) cos.length ||| (orTo (gKo cs) k ||| gKo cs k)
    rw [e, mK_app k, Nat.or_assoc]
theorem mC_push {y : pCo} : orTo (gKo (cs ++ [y])) (cs ++ [y]).length = orTo (gKo cs) cs.length ||| (if y.2.1 = 0 then 2 ^ y.2.2 else 0) := by
  rw [List.length_append, List.length_singleton, mK_app 1]
  congr 1
  show 0 ||| gKo [y] 0 = _
  rw [Nat.zero_or]
  rfl
theorem msk_push {P : pP} {σ' : pS} {op' : List Nat} {d' : Nat} : mskP (σ', pIts P ++ [x], pCos P ++ cs, op', d') = mskP P ||| ((if iKind x = 3 then 2 ^ iOne x else 0) ||| orTo (gKo cs) cs.length) := by
  unfold mskP
  show orTo (gIt (pIts P ++ [x])) (pIts P ++ [x]).length ||| orTo (gKo (pCos P ++ cs)) (pCos P ++ cs).length = _
  rw [mI_push, List.length_append, mK_app, or4]
theorem br_push : brN (its ++ [x]) = brN its + if iKind x = 5 then 1 else 0 := by
  unfold brN
  rw [List.length_append, List.length_singleton]
  show cntTo (fun i => decide (iKind (pAtI (its ++ [x]) i) = 5)) its.length + (if decide (iKind (pAtI (its ++ [x]) its.length) = 5) = true then 1 else 0) = _
  rw [cntTo_eq (q := fun i => decide (iKind (pAtI its i) = 5)) its.length (fun i hi => by rw [pAtI_app hi]), pAtI_new]
  simp only [decide_eq_true_eq]
theorem st_k {i t : Nat} (hi : i < its.length) (j : Nat) : iKind (pAtI (setTill its i t) j) = iKind (pAtI its j) ∧ iOne (pAtI (setTill its i t) j) = iOne (pAtI its j) := by
  by_cases e : j = i
  · rw [e, setTill_eq hi]; exact ⟨rfl, rfl⟩
  · rw [setTill_ne e]; exact ⟨rfl, rfl⟩
theorem msk_till {P : pP} {σ' : pS} {op' : List Nat} {d' i t : Nat} (hi : i < (pIts P).length) : mskP (σ', setTill (pIts P) i t, pCos P, op', d') = mskP P := by
  unfold mskP
  show orTo (gIt (setTill (pIts P) i t)) (setTill (pIts P) i t).length ||| orTo (gKo (pCos P)) (pCos P).length = _
  rw [setTill_len, orTo_eq (h := gIt (pIts P)) (pIts P).length (fun j _ => by unfold gIt; rw [(st_k hi j).1, (st_k hi j).2])]
theorem br_till {i t : Nat} (hi : i < its.length) : brN (setTill its i t) = brN its := by
  unfold brN
  rw [setTill_len, cntTo_eq (q := fun j => decide (iKind (pAtI its j) = 5)) its.length (fun j _ => by rw [(st_k hi j).1])]
theorem pow_32 {k : Nat} (h : k ≤ 4) : 2 ^ k < 32 := Nat.lt_of_le_of_lt (Nat.pow_le_pow_right (by decide) h) (by decide)
theorem gKo_lt {L : List Nat} {op : List Nat} (h : ∀ j, j < cos.length → wfC (pAtC cos j)) : orTo (gKo cos) cos.length < 32 := by
  refine orTo_lt _ (fun i hi => ?_)
  unfold gKo
  split
  · rename_i e; exact pow_32 ((h i hi).2.2.1 e)
  · decide
theorem msk_32w {L : List Nat} {P : pP} (h : wfP L (pIts P) (pCos P) (pOp P)) : mskP P < 32 := by
  refine Nat.or_lt_two_pow (n := 5) (orTo_lt _ (fun i hi => ?_)) (gKo_lt (L := L) (op := []) h.2.2.2.2.2)
  unfold gIt
  split
  · rename_i e; exact pow_32 ((h.1 i hi).2.2.2.1 e).1
  · decide
end MK
/-- strings, byte rows and conditions -/
def tgS : jO → Prop
  | .inl (ty, _, _) => ty = .byte
  | .inr (ci, _) => ci = 0 ∨ ci = 4
theorem tgS_no {ci : Nat} {fs : List Value} (h : ci ≠ 0 ∧ ci ≠ 4) : ¬ tgS (.inr (ci, fs)) := fun e => e.elim h.1 h.2
theorem tgS_na {ty : FieldType} {n : Nat} {f : Nat → Value} (h : ty ≠ .byte) : ¬ tgS (.inl (ty, n, f)) := h
section KT
variable {H H' Z : jH} {a p : Nat} {t L : List Nat} {v : Value} {cos cs : List pCo} {x : pIt} {M M' : jM}
theorem strR.keepT (h : ∀ b o, H b = some o → tgS o → H' b = some o) (hr : strR H a t) : strR H' a t := by
  obtain ⟨⟨b, fs, h1, h2, h3, h4⟩, h5⟩ := hr
  exact ⟨⟨b, fs, h _ _ h1 (Or.inl rfl), h2, h3, h _ _ h4 rfl⟩, h5⟩
theorem lstR.keepT (h : ∀ b o, H b = some o → tgS o → H' b = some o) : ∀ {cs : List pCo} {v : Value}, lstR H v cs → lstR H' v cs
  | [], v, hr => hr
  | x :: t, v, hr => by
    obtain ⟨a, w, h1, h2, h3, h4⟩ := hr
    exact ⟨a, w, h1, h _ _ h2 (Or.inr rfl), lstR.keepT h h3, h4⟩
theorem pieR.keepS (h : ∀ b o, H b = some o → tgS o → H' b = some o) (ho : ∀ fs, H p = some (.inr (8, fs)) → H' p = some (.inr (8, fs))) (hr : pieR H L cos p x) : pieR H' L cos p x := by
  obtain ⟨s, q, c, h1, h2, h3, h4⟩ := hr
  exact ⟨s, q, c, ho _ h1, h2.keepT h, h3.keepT h, h4.keepT h⟩
theorem pieR.grow (hx : iKind x = 5 → iOne x ≤ iTwo x ∧ iTwo x ≤ cos.length) (hr : pieR H L cos p x) : pieR H L (cos ++ cs) p x := by
  obtain ⟨s, q, c, h1, h2, h3, h4⟩ := hr
  refine ⟨s, q, c, h1, h2, h3, ?_⟩
  by_cases e : iKind x = 5
  · obtain ⟨e1, e2⟩ := hx e
    rw [if_pos e] at h4 ⊢
    rw [List.drop_append_of_le_length (by omega), List.take_append_of_le_length (by rw [List.length_drop]; omega)]
    exact h4
  · rw [if_neg e] at h4 ⊢
    exact h4
theorem zf_keep {W : jO → Prop} (h : ∀ b o, a ≤ b → M.1 b = some o → W o → M'.1 b = some o) : ∀ b o, zf Z M.1 a b = some o → W o → zf Z M'.1 a b = some o := by
  intro b o hb hw
  by_cases e : a ≤ b
  · rw [zf, if_pos e] at hb ⊢
    exact h b o e hb hw
  · rw [zf, if_neg e] at hb ⊢
    exact hb
/-- a piece, by its fields -/
theorem pie_of {s q k pl d : Nat} {o : Int} {c v4 v5 v6 v10 : Value} (h : H p = some (.inr (8, [.int (nI k), .int (nI pl), .int (nI d), .int (zI o), v4, v5, v6, .ref s, .ref q, c, v10]))) (e0 : k = iKind x) (e1 : pl = iPlace x) (e2 : d = (iPath x).length) (e3 : o = optZ (iPath x).head?) (e4 : v4 = .int (nI (if iKind x = 0 then iOne x else 32))) (e5 : v5 = .int (nI (if iKind x = 3 then iOne x else 0))) (e6 : v6 = .int (nI (if iKind x = 3 then (if iTwo x = 1 then 94 else if iTwo x = 2 then 42 else 32) else 32))) (e10 : v10 = .int (nI (if iKind x = 5 then iTill x else 0)))
    (hs : strR H s (if iKind x = 4 then subT L (iPlace x + 1) (iOne x - (iPlace x + 1)) else [])) (hq : strR H q (if iKind x = 4 then subT L (iOne x + 1) (iTwo x - (iOne x + 1)) else [])) (hc : lstR H c (if iKind x = 5 then ((cos.drop (iOne x)).take (iTwo x - iOne x)).reverse else [])) : pieR H L cos p x := by
  subst e0 e1 e2 e3 e4 e5 e6 e10
  exact ⟨s, q, c, h, hs, hq, hc⟩
end KT
/-- a reading that is well so far, in the heap: the open row op, the pieces' row g, piece i at xp i -/
def rdT (Z : jH) (M : jM) (a tx dp : Nat) (L : List Nat) (P : pP) (op : Nat → Int32) (g : Nat → Value) (xp : Nat → Nat) : Prop :=
  M.1 a = some (.inr (11, rdF a tx (pσ P) dp)) ∧ M.1 (a + 3) = some (.inl (.int, 4, fun j => .int (op j))) ∧ M.1 (a + 4) = some (.inr (6, lyF a L (pIts P).length (pDeep P) (mskP P) (brN (pIts P)))) ∧ M.1 (a + 5) = some (.inl (.object RX4, L.length, g)) ∧ dp = (pOp P).length ∧ (∀ k, k < dp → op k = nI ((pOp P).reverse.getD k 0)) ∧ (∀ i, i < (pIts P).length → g i = .ref (xp i) ∧ a + 3 ≤ xp i ∧ pieR (zf Z M.1 a) L (pCos P) (xp i) (pAtI (pIts P) i)) ∧ (∀ i j, i < j → j < (pIts P).length → xp i ≠ xp j) ∧ wfP L (pIts P) (pCos P) (pOp P) ∧ (pIts P).length ≤ (pσ P).1 ∧ (pσ P).1 ≤ L.length ∧ (pσ P).2 = true ∧ pDeep P ≤ 4
section RT
variable {Z : jH} {M M' : jM} {a tx dp dp' e : Nat} {L : List Nat} {P : pP} {op op' : Nat → Int32} {g : Nat → Value} {xp : Nat → Nat} {σ' : pS} {x : pIt} {cs : List pCo} {opn : List Nat} {d' i0 : Nat}
theorem rdT.keep (h : rdT Z M a tx dp L P op g xp) (hk : ∀ b o, M.1 b = some o → b ≠ a → b ≠ a + 3 → b ≠ a + 4 → b ≠ a + 5 → M'.1 b = some o) : ∀ b o, M.1 b = some o → (tgS o ∨ ∃ fs, o = .inr (8, fs)) → M'.1 b = some o := by
  obtain ⟨h1, h2, h3, h4, -⟩ := h
  intro b o hb ht
  refine hk b o hb (fun e => ?_) (fun e => ?_) (fun e => ?_) (fun e => ?_)
  · rw [e, h1] at hb; cases hb
    rcases ht with ht | ⟨fs, ht⟩
    · exact absurd ht (tgS_no (by decide))
    · cases ht
  · rw [e, h2] at hb; cases hb
    rcases ht with ht | ⟨fs, ht⟩
    · exact absurd ht (tgS_na (fun e => by cases e))
    · cases ht
  · rw [e, h3] at hb; cases hb
    rcases ht with ht | ⟨fs, ht⟩
    · exact absurd ht (tgS_no (by decide))
    · cases ht
  · rw [e, h4] at hb; cases hb
    rcases ht with ht | ⟨fs, ht⟩
    · exact absurd ht (tgS_na (fun e => by cases e))
    · cases ht
theorem rdT.opR (h : rdT Z M a tx dp L P op g xp) : opR op dp (optZ (pOp P).head?) := by
  obtain ⟨-, -, -, -, h5, h6, -, -, h9, -⟩ := h
  have h45 := h9.2.2.2.2.1
  refine ⟨by omega, fun hd => ?_, fun hd => ?_⟩
  · cases ho : pOp P with
    | nil => rw [ho] at h5; exact absurd h5 (by simp; omega)
    | cons i s =>
      have hl : dp = s.length + 1 := by rw [h5, ho]; rfl
      have e := h6 (dp - 1) (by omega)
      rw [e, ho, List.reverse_cons, show dp - 1 = s.reverse.length by rw [List.length_reverse]; omega, getD_appN]
      rfl
  · have e : pOp P = [] := List.eq_nil_of_length_eq_zero (by omega)
    rw [e]
    rfl
theorem rdT_push (h : rdT Z M a tx dp L P op g xp) (hP : pStep1 L P = (σ', pIts P ++ [x], pCos P ++ cs, opn, d')) (hok : σ'.2 = true) (hd4 : d' ≤ 4)
    (h1 : M'.1 a = some (.inr (11, rdF a tx σ' dp'))) (h2 : M'.1 (a + 3) = some (.inl (.int, 4, fun j => .int (op' j)))) (h3 : M'.1 (a + 4) = some (.inr (6, lyF a L ((pIts P).length + 1) d' (mskP P ||| ((if iKind x = 3 then 2 ^ iOne x else 0) ||| orTo (gKo cs) cs.length)) (brN (pIts P) + if iKind x = 5 then 1 else 0)))) (h4 : M'.1 (a + 5) = some (.inl (.object RX4, L.length, updV g (pIts P).length (.ref e))))
    (hdp : dp' = opn.length) (hop : ∀ k, k < dp' → op' k = nI (opn.reverse.getD k 0)) (he : M.1 e = none) (hae : a + 3 ≤ e) (hpie : pieR (zf Z M'.1 a) L (pCos P ++ cs) e x)
    (hk : ∀ b o, M.1 b = some o → b ≠ a → b ≠ a + 3 → b ≠ a + 4 → b ≠ a + 5 → M'.1 b = some o) : rdT Z M' a tx dp' L (pStep1 L P) op' (updV g (pIts P).length (.ref e)) (fun i => if i = (pIts P).length then e else xp i) := by
  have hkp := h.keep hk
  obtain ⟨g1, g2, g3, g4, g5, g6, g7, g8, g9, g10, g11, g12, g13⟩ := h
  have hmo := pStep_mo (P := P) g11
  have hw := wf_step g9 (by rw [hP]; exact hok)
  have hlt := hmo.2 (by rw [hP]; exact hok)
  have hle := hmo.1
  rw [hP] at hw hlt hle ⊢
  have hlt' : (pσ P).1 < σ'.1 := hlt
  have hle' : σ'.1 ≤ L.length := hle
  have hlen : (pIts P ++ [x]).length = (pIts P).length + 1 := by rw [List.length_append, List.length_singleton]
  refine ⟨h1, h2, ?_, h4, hdp, hop, fun i hi => ?_, fun i j hij hj => ?_, hw, ?_, hle', hok, hd4⟩
  · rw [msk_push]
    show M'.1 (a + 4) = some (.inr (6, lyF a L (pIts P ++ [x]).length d' _ (brN (pIts P ++ [x]))))
    rw [hlen, br_push]
    exact h3
  · have hi' : i < (pIts P).length + 1 := by rw [← hlen]; exact hi
    show updV g (pIts P).length (.ref e) i = .ref (if i = (pIts P).length then e else xp i) ∧ a + 3 ≤ (if i = (pIts P).length then e else xp i) ∧ pieR (zf Z M'.1 a) L (pCos P ++ cs) (if i = (pIts P).length then e else xp i) (pAtI (pIts P ++ [x]) i)
    by_cases e9 : i = (pIts P).length
    · rw [if_pos e9, e9, pAtI_new]
      exact ⟨updV_at, hae, hpie⟩
    · have hi2 : i < (pIts P).length := by omega
      obtain ⟨k1, k2, k3⟩ := g7 i hi2
      rw [if_neg e9, pAtI_app hi2]
      refine ⟨(updV_ne e9).trans k1, k2, ?_⟩
      refine pieR.grow (fun e5 => (g9.1 i hi2).2.2.2.2.2.1 e5) (k3.keepS (zf_keep (W := tgS) (fun b o _ hb ht => hkp b o hb (Or.inl ht))) (fun fs hf => ?_))
      exact zf_keep (W := fun o => ∃ fs, o = .inr (8, fs)) (fun b o _ hb ht => hkp b o hb (Or.inr ht)) _ _ hf ⟨fs, rfl⟩
  · have hj' : j < (pIts P).length + 1 := by rw [← hlen]; exact hj
    have hn : ∀ i, i < (pIts P).length → xp i ≠ e := fun i hi e9 => by
      obtain ⟨-, k2, s, q, c, k3, -⟩ := g7 i hi
      rw [zf_in (by omega), e9, he] at k3
      cases k3
    show (if i = (pIts P).length then e else xp i) ≠ (if j = (pIts P).length then e else xp j)
    rw [if_neg (by omega)]
    by_cases e9 : j = (pIts P).length
    · rw [if_pos e9]; exact hn i (by omega)
    · rw [if_neg e9]; exact g8 i j hij (by omega)
  · show (pIts P ++ [x]).length ≤ σ'.1
    rw [hlen]
    omega
theorem rdT_close (h : rdT Z M a tx dp L P op g xp) (ho : pOp P = i0 :: opn) (h93 : pC L (pσ P).1 = 93) (h1 : M'.1 a = some (.inr (11, rdF a tx ((pσ P).1 + 1, true) opn.length)))
    (hpc : ∀ fs, M.1 (xp i0) = some (.inr (8, fs)) → M'.1 (xp i0) = some (.inr (8, fs.set 10 (.int (nI (pIts P).length))))) (hk : ∀ b o, M.1 b = some o → b ≠ a → b ≠ xp i0 → M'.1 b = some o) : rdT Z M' a tx opn.length L (pStep1 L P) op g xp := by
  obtain ⟨g1, g2, g3, g4, g5, g6, g7, g8, g9, g10, g11, g12, g13⟩ := h
  have hi0 := g9.2.1 i0 (by rw [ho]; exact List.mem_cons_self)
  have hP : pStep1 L P = (((pσ P).1 + 1, true), setTill (pIts P) i0 (pIts P).length, pCos P, opn, pDeep P) := by
    unfold pStep1
    rw [if_neg (by omega), if_pos h93, ho]
  have hmo := pStep_mo (P := P) g11
  have hw := wf_step g9 (by rw [hP])
  have hle := hmo.1
  rw [hP] at hw hle ⊢
  have hle' : (pσ P).1 + 1 ≤ L.length := hle
  obtain ⟨k1, k2, s0, q0, c0, k3, k4, k5, k6⟩ := g7 i0 hi0.1
  rw [zf_in (by omega)] at k3
  have hxa : xp i0 ≠ a := fun e9 => by rw [e9, g1] at k3; cases k3
  have hx1 : xp i0 ≠ a + 3 := fun e9 => by rw [e9, g2] at k3; cases k3
  have hx2 : xp i0 ≠ a + 4 := fun e9 => by rw [e9, g3] at k3; cases k3
  have hx3 : xp i0 ≠ a + 5 := fun e9 => by rw [e9, g4] at k3; cases k3
  have hkS : ∀ b o, zf Z M.1 a b = some o → tgS o → zf Z M'.1 a b = some o := zf_keep (W := tgS) (fun b o _ hb ht => hk b o hb (fun e9 => by rw [e9, g1] at hb; cases hb; exact absurd ht (tgS_no (by decide))) (fun e9 => by rw [e9, k3] at hb; cases hb; exact absurd ht (tgS_no (by decide))))
  refine ⟨h1, hk _ _ g2 (by omega) (Ne.symm hx1), ?_, hk _ _ g4 (by omega) (Ne.symm hx3), rfl, fun k hk9 => ?_, fun i hi => ?_, fun i j hij hj => ?_, hw, ?_, hle', rfl, g13⟩
  · rw [msk_till hi0.1]
    show M'.1 (a + 4) = some (.inr (6, lyF a L (setTill (pIts P) i0 (pIts P).length).length (pDeep P) _ (brN (setTill (pIts P) i0 (pIts P).length))))
    rw [setTill_len, br_till hi0.1]
    exact hk _ _ g3 (by omega) (Ne.symm hx2)
  · show op k = nI (opn.reverse.getD k 0)
    rw [g6 k (by rw [g5, ho, List.length_cons]; omega), ho, List.reverse_cons, getD_app (by rw [List.length_reverse]; exact hk9)]
  · have hi' : i < (pIts P).length := by
      have e9 : (setTill (pIts P) i0 (pIts P).length).length = (pIts P).length := setTill_len
      rw [← e9]; exact hi
    show g i = .ref (xp i) ∧ a + 3 ≤ xp i ∧ pieR (zf Z M'.1 a) L (pCos P) (xp i) (pAtI (setTill (pIts P) i0 (pIts P).length) i)
    obtain ⟨j1, j2, j3⟩ := g7 i hi'
    refine ⟨j1, j2, ?_⟩
    by_cases e9 : i = i0
    · subst e9
      rw [setTill_eq hi']
      refine ⟨s0, q0, c0, (zf_in (by omega)).trans ?_, k4.keepT hkS, k5.keepT hkS, k6.keepT hkS⟩
      rw [hpc _ k3]
      show some (Sum.inr (8, [_, _, _, _, _, _, _, _, _, _, Value.int (nI (pIts P).length)])) = some (Sum.inr (8, [_, _, _, _, _, _, _, _, _, _, Value.int (nI (if iKind (pAtI (pIts P) i) = 5 then (pIts P).length else 0))]))
      rw [if_pos hi0.2]
    · rw [setTill_ne e9]
      refine j3.keepS hkS (fun fs hf => ?_)
      rw [zf_in (by omega)] at hf ⊢
      refine hk _ _ hf (fun e8 => by rw [e8, g1] at hf; cases hf) ?_
      rcases Nat.lt_or_gt_of_ne e9 with h9 | h9
      · exact g8 _ _ h9 hi0.1
      · exact Ne.symm (g8 _ _ h9 hi')
  · have e9 : (setTill (pIts P) i0 (pIts P).length).length = (pIts P).length := setTill_len
    exact g8 i j hij (by rw [← e9]; exact hj)
  · show (setTill (pIts P) i0 (pIts P).length).length ≤ (pσ P).1 + 1
    rw [setTill_len]
    omega
end RT
