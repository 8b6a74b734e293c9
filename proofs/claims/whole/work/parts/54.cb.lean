/-! ===== exact contracts over any heap ===== -/
/-- a contract: the answer, and the heap behind -/
def CM (G : jG) (M : jM) (y : jY) (kc ks d : Nat) (args : List Value) (w : Option Value) (M2 : jM) : Prop := JMet G y args M kc ks d (fun v M' => v = w ∧ M' = M2) jNo
section CC
variable {C : jC} {y : jY} {d : Nat} {M M2 : jM} {kc ks pc : Nat} {l : List (Option Value)} {st : List Value}
theorem c_V (hC : jOK0 y d C) {y' : jY} {idx b n d' ci : Nat} {As rest fs : List Value} {r : vw_C} {w : Option Value} (hm : jMv y.1.cls idx y' n) (hd : decode y.2.1 pc = .ok (.invokevirtual idx, 3)) (hM : CM (jCG C) M y' 0 0 d' (.ref b :: As) w M2) (hb0 : M.1 b = some (.inr (ci, fs))) (hci : vwCl[ci]? = some r) (hr1 : r.1 = y'.1.cls) (hn : As.length = n) (hst : st = As.reverse ++ .ref b :: rest) (hd1 : d' + 1 ≤ d) (hrest : (rest.map fun v => v.category).sum ≤ 8)
    (kk : J C M2 kc ks (pc + 3) l (w.toList ++ rest)) : J C M kc ks pc l st :=
  j_callV hC hm hd hM hb0 hci hr1 hn hst hd1 (Nat.zero_le _) (Nat.zero_le _) hrest (fun v M' h => by obtain ⟨rfl, rfl⟩ := h; exact kk) (fun _ _ h => h.elim)
theorem c_S (hC : jOK0 y d C) {y' : jY} {idx n d' : Nat} {As rest : List Value} {w : Option Value} (hm : jMs y.1.cls idx y' n) (hh0 : y'.2.2.2.2 = []) (hd : decode y.2.1 pc = .ok (.invokestatic idx, 3)) (hM : CM (jCG C) M y' 0 0 d' As w M2) (hn : As.length = n) (hst : st = As.reverse ++ rest) (hd1 : d' + 1 ≤ d) (hrest : (rest.map fun v => v.category).sum ≤ 8)
    (kk : J C M2 kc ks (pc + 3) l (w.toList ++ rest)) : J C M kc ks pc l st :=
  j_callS hC hm hh0 hd hM hn hst hd1 (Nat.zero_le _) (Nat.zero_le _) hrest (fun v M' h => by obtain ⟨rfl, rfl⟩ := h; exact kk) (fun _ _ h => h.elim)
/-- calls that make objects -/
theorem c_Vk (hC : jOK0 y d C) {y' : jY} {idx b n d' ci kc' ks' : Nat} {As rest fs : List Value} {r : vw_C} {w : Option Value} (hm : jMv y.1.cls idx y' n) (hd : decode y.2.1 pc = .ok (.invokevirtual idx, 3)) (hM : CM (jCG C) M y' kc' ks' d' (.ref b :: As) w M2) (hb0 : M.1 b = some (.inr (ci, fs))) (hci : vwCl[ci]? = some r) (hr1 : r.1 = y'.1.cls) (hn : As.length = n) (hst : st = As.reverse ++ .ref b :: rest) (hd1 : d' + 1 ≤ d) (hrest : (rest.map fun v => v.category).sum ≤ 8)
    (kk : J C M2 kc ks (pc + 3) l (w.toList ++ rest)) : J C M (kc + kc') (ks + ks') pc l st :=
  j_callV hC hm hd hM hb0 hci hr1 hn hst hd1 (Nat.le_add_left _ _) (Nat.le_add_left _ _) hrest (fun v M' h => by obtain ⟨rfl, rfl⟩ := h; rw [Nat.add_sub_cancel, Nat.add_sub_cancel]; exact kk) (fun _ _ h => h.elim)
theorem c_Sk (hC : jOK0 y d C) {y' : jY} {idx n d' kc' ks' : Nat} {As rest : List Value} {w : Option Value} (hm : jMs y.1.cls idx y' n) (hh0 : y'.2.2.2.2 = []) (hd : decode y.2.1 pc = .ok (.invokestatic idx, 3)) (hM : CM (jCG C) M y' kc' ks' d' As w M2) (hn : As.length = n) (hst : st = As.reverse ++ rest) (hd1 : d' + 1 ≤ d) (hrest : (rest.map fun v => v.category).sum ≤ 8)
    (kk : J C M2 kc ks (pc + 3) l (w.toList ++ rest)) : J C M (kc + kc') (ks + ks') pc l st :=
  j_callS hC hm hh0 hd hM hn hst hd1 (Nat.le_add_left _ _) (Nat.le_add_left _ _) hrest (fun v M' h => by obtain ⟨rfl, rfl⟩ := h; rw [Nat.add_sub_cancel, Nat.add_sub_cancel]; exact kk) (fun _ _ h => h.elim)
theorem c_Ik (hC : jOK0 y d C) {y' : jY} {idx b n d' kc' ks' : Nat} {As rest : List Value} {w : Option Value} (hm : jMi y.1.cls idx y' n) (hd : decode y.2.1 pc = .ok (.invokespecial idx, 3)) (hM : CM (jCG C) M y' kc' ks' d' (.ref b :: As) w M2) (hn : As.length = n) (hst : st = As.reverse ++ .ref b :: rest) (hd1 : d' + 1 ≤ d) (hrest : (rest.map fun v => v.category).sum ≤ 8)
    (kk : J C M2 kc ks (pc + 3) l (w.toList ++ rest)) : J C M (kc + kc') (ks + ks') pc l st :=
  j_callI hC hm hd hM hn hst hd1 (Nat.le_add_left _ _) (Nat.le_add_left _ _) hrest (fun v M' h => by obtain ⟨rfl, rfl⟩ := h; rw [Nat.add_sub_cancel, Nat.add_sub_cancel]; exact kk)
theorem c_new (hC : jOK0 y d C) {idx ci n : Nat} {fs : List Value} (hf : jNw y.1.cls idx ci fs) (hd : decode y.2.1 pc = .ok (.new idx, 3)) (hn : fs.length = n) (kk : J C (jnew M (.inr (ci, fs))) kc ks (pc + 3) l (.ref M.2 :: st)) : J C M (kc + 1) (ks + n) pc l st := by
  refine j_new hC hf hd (Nat.le_add_left _ _) (by omega) ?_
  rw [hn, Nat.add_sub_cancel, Nat.add_sub_cancel]
  exact kk
/-- room to spare -/
theorem j_less {kc' ks' : Nat} (h1 : kc' ≤ kc) (h2 : ks' ≤ ks) (kk : J C M kc' ks' pc l st) : J C M kc ks pc l st := by
  obtain ⟨p, e, R, s, m, args, below, meth, c, Q, G⟩ := C
  intro H locs cells slots ls g1 g2 g3 g4 g5
  exact kk H locs cells slots ls g1 g2 g3 (by omega) (by omega)
theorem c_alen (hC : jOK0 y d C) {a n : Nat} {ty : FieldType} {f : Nat → Value} (hd : decode y.2.1 pc = .ok (.arraylength, 1)) (hM : M.1 a = some (.inl (ty, n, f))) (kk : J C M kc ks (pc + 1) l (.int (nI n) :: st)) : J C M kc ks pc l (.ref a :: st) := j_alen hC hd hM kk
theorem c_iald (hC : jOK0 y d C) {a n i : Nat} {g : Nat → Int32} {x : Int32} (hd : decode y.2.1 pc = .ok (.iaload, 1)) (hM : M.1 a = some (.inl (.int, n, fun j => .int (g j)))) (hi : i < n) (hn : n < 2 ^ 31) (hv : g i = x) (kk : J C M kc ks (pc + 1) l (.int x :: st)) : J C M kc ks pc l (.int (nI i) :: .ref a :: st) :=
  j_iald hC hd hM (vp_in_nI hi hn) (by rw [nI_clamp (by omega), hv]; exact kk)
theorem c_bald (hC : jOK0 y d C) {a n i : Nat} {g : Nat → Int32} {x : Int32} (hd : decode y.2.1 pc = .ok (.baload, 1)) (hM : M.1 a = some (.inl (.byte, n, fun j => .int (g j)))) (hi : i < n) (hn : n < 2 ^ 31) (hv : g i = x) (kk : J C M kc ks (pc + 1) l (.int x :: st)) : J C M kc ks pc l (.int (nI i) :: .ref a :: st) :=
  j_bald hC hd hM (vp_in_nI hi hn) (by rw [nI_clamp (by omega), hv]; exact kk)
theorem c_cald (hC : jOK0 y d C) {a n i : Nat} {g : Nat → Int32} {x : Int32} (hd : decode y.2.1 pc = .ok (.caload, 1)) (hM : M.1 a = some (.inl (.char, n, fun j => .int (g j)))) (hi : i < n) (hn : n < 2 ^ 31) (hv : g i = x) (kk : J C M kc ks (pc + 1) l (.int x :: st)) : J C M kc ks pc l (.int (nI i) :: .ref a :: st) :=
  j_cald hC hd hM (vp_in_nI hi hn) (by rw [nI_clamp (by omega), hv]; exact kk)
theorem c_aald (hC : jOK0 y d C) {a n i : Nat} {ty : FieldType} {f : Nat → Value} {v : Value} (hd : decode y.2.1 pc = .ok (.aaload, 1)) (hM : M.1 a = some (.inl (ty, n, f))) (hty : ty.isReference = true) (hi : i < n) (hn : n < 2 ^ 31) (hv : f i = v) (kk : J C M kc ks (pc + 1) l (v :: st)) : J C M kc ks pc l (.int (nI i) :: .ref a :: st) :=
  j_aald hC hd hM hty (vp_in_nI hi hn) (by rw [nI_clamp (by omega)]; exact hv) kk
theorem c_iast (hC : jOK0 y d C) {a n i : Nat} {g : Nat → Int32} {x : Int32} (hd : decode y.2.1 pc = .ok (.iastore, 1)) (hM : M.1 a = some (.inl (.int, n, fun j => .int (g j)))) (hB : jB C ≤ a) (hi : i < n) (hn : n < 2 ^ 31) (kk : J C (jput M a (.inl (.int, n, fun j => .int (upd g i x j)))) kc ks (pc + 1) l st) : J C M kc ks pc l (.int x :: .int (nI i) :: .ref a :: st) :=
  j_iast hC hd hM hB (vp_in_nI hi hn) (by rw [nI_clamp (by omega)]; exact kk)
theorem c_cast (hC : jOK0 y d C) {a n i : Nat} {g : Nat → Int32} {x : Int32} (hd : decode y.2.1 pc = .ok (.castore, 1)) (hM : M.1 a = some (.inl (.char, n, fun j => .int (g j)))) (hB : jB C ≤ a) (hi : i < n) (hn : n < 2 ^ 31) (hx : vp_nar .char x = x) (kk : J C (jput M a (.inl (.char, n, fun j => .int (upd g i x j)))) kc ks (pc + 1) l st) : J C M kc ks pc l (.int x :: .int (nI i) :: .ref a :: st) :=
  j_cast hC hd hM hB (vp_in_nI hi hn) (by rw [nI_clamp (by omega), hx]; exact kk)
theorem c_bast (hC : jOK0 y d C) {a n i : Nat} {g : Nat → Int32} {x : Int32} (hd : decode y.2.1 pc = .ok (.bastore, 1)) (hM : M.1 a = some (.inl (.byte, n, fun j => .int (g j)))) (hB : jB C ≤ a) (hi : i < n) (hn : n < 2 ^ 31) (hx : vp_nar .byte x = x) (kk : J C (jput M a (.inl (.byte, n, fun j => .int (upd g i x j)))) kc ks (pc + 1) l st) : J C M kc ks pc l (.int x :: .int (nI i) :: .ref a :: st) :=
  j_bast hC hd hM hB (vp_in_nI hi hn) (by rw [nI_clamp (by omega), hx]; exact kk)
theorem c_aast (hC : jOK0 y d C) {a b n ci i : Nat} {r : vw_C} {f : Nat → Value} {fs : List Value} (hd : decode y.2.1 pc = .ok (.aastore, 1)) (hM : M.1 a = some (.inl (.object r.1, n, f))) (hV : M.1 b = some (.inr (ci, fs))) (hc : vwCl[ci]? = some r) (hB : jB C ≤ a) (hi : i < n) (hn : n < 2 ^ 31) (kk : J C (jput M a (.inl (.object r.1, n, updV f i (.ref b)))) kc ks (pc + 1) l st) : J C M kc ks pc l (.ref b :: .int (nI i) :: .ref a :: st) :=
  j_aast hC hd hM hV hc hB (vp_in_nI hi hn) (by rw [nI_clamp (by omega)]; exact kk)
theorem c_ifnull0 (hC : jOK0 y d C) {off : Int} {tgt : Nat} (hd : decode y.2.1 pc = .ok (.ifnull off, 3)) (ht : (pc : Int) + off = (tgt : Int)) (kk : J C M kc ks tgt l st) : J C M kc ks pc l (.null :: st) := by
  obtain ⟨p, e, R, s, m, args, below, meth, c, Q, G⟩ := C
  obtain ⟨hx, hb, hr, hml, hown, hts, hlk, hnm, htb, hdf, hdl, hfl, hA⟩ := hC
  intro H locs cells slots ls h1 h2 h3 h4 h5
  exact lv_ifnullN hx hb hd ht (kk H locs cells slots ls h1 h2 h3 h4 h5)
theorem c_ifnonnull0 (hC : jOK0 y d C) {off : Int} (hd : decode y.2.1 pc = .ok (.ifnonnull off, 3)) (kk : J C M kc ks (pc + 3) l st) : J C M kc ks pc l (.null :: st) := by
  obtain ⟨p, e, R, s, m, args, below, meth, c, Q, G⟩ := C
  obtain ⟨hx, hb, hr, hml, hown, hts, hlk, hnm, htb, hdf, hdl, hfl, hA⟩ := hC
  intro H locs cells slots ls h1 h2 h3 h4 h5
  exact lv_ifnonnullN hx hb hd (kk H locs cells slots ls h1 h2 h3 h4 h5)
end CC
section JP
variable {M : jM} {a b : Nat} {x z : jO}
theorem jput_at : (jput M a x).1 a = some x := if_pos rfl
theorem jput_ne (h : b ≠ a) : (jput M a x).1 b = M.1 b := if_neg h
theorem jput_2 : (jput M a x).2 = M.2 := rfl
theorem jput_jput : jput (jput M a x) a z = jput M a z := by
  refine Prod.ext (funext fun b => ?_) rfl
  simp only [jput]
  split <;> rfl
theorem jput_self (h : M.1 a = some x) : jput M a x = M := by
  refine Prod.ext (funext fun b => ?_) rfl
  simp only [jput]
  split
  · rename_i e; rw [e, h]
  · rfl
theorem jput_comm (h : a ≠ b) : jput (jput M a x) b z = jput (jput M b z) a x := by
  refine Prod.ext (funext fun c => ?_) rfl
  simp only [jput]
  by_cases h1 : c = b
  · rw [if_pos h1, if_neg (by omega), if_pos h1]
  · rw [if_neg h1, if_neg h1]
theorem jnew_at : (jnew M x).1 M.2 = some x := if_pos rfl
theorem jnew_ne (h : b ≠ M.2) : (jnew M x).1 b = M.1 b := if_neg h
theorem jnew_2 : (jnew M x).2 = M.2 + 1 := rfl
end JP
/-! ===== what the class's objects mean ===== -/
abbrev jH : Type := Nat → Option jO
def tOK (t : List Nat) : Prop := t.length ≤ 500 ∧ ∀ c ∈ t, c ≤ 126
def tCh (t : List Nat) : Nat → Int32 := fun j => nI (t.getD j 0)
def strR (H : jH) (a : Nat) (t : List Nat) : Prop := (∃ (b : Nat) (fs : List Value), H a = some (.inr (0, fs)) ∧ fs[0]? = some (.ref b) ∧ fs[1]? = some (.int 0) ∧ H b = some (.inl (.byte, t.length, fun j => .int (tCh t j)))) ∧ tOK t
def txtR (H : jH) (a : Nat) (t : List Nat) : Prop := ∃ s, H a = some (.inr (12, [.ref s])) ∧ strR H s t
def entR (H : jH) (a : Nat) (q : aRec) : Prop := (∃ (b : Nat) (x : Nat → Nat), H a = some (.inr (5, [.int (nI q.1), .int (nI q.2.1), .ref b])) ∧ H b = some (.inl (.object RX8, 5, fun j => .ref (x j))) ∧ ∀ f, f < 5 → txtR H (x f) (q.2.2 f)) ∧ recOK q
/-- the sign of a condition's kind -/
def kSig (k : Nat) : Nat := if k = 0 then 102 else if k = 1 then 103 else if k = 2 then 60 else if k = 3 then 61 else 62
/-- conditions, the last one first -/
def lstR (H : jH) : Value → List pCo → Prop
  | v, [] => v = .null
  | v, x :: t => ∃ (a : Nat) (w : Value), v = .ref a ∧ H a = some (.inr (4, [.int (jb (x.1 = true)), .int (nI (kSig x.2.1)), .int (nI x.2.2), w])) ∧ lstR H w t ∧ wfC x
/-- an item: its text's pieces, its conditions (the last one first), where its inside ends -/
def pieR (H : jH) (L : List Nat) (cos : List pCo) (a : Nat) (x : pIt) : Prop := ∃ (s p : Nat) (c : Value), H a = some (.inr (8, [.int (nI (iKind x)), .int (nI (iPlace x)), .int (nI (iPath x).length), .int (zI (optZ (iPath x).head?)), .int (nI (if iKind x = 0 then iOne x else 32)), .int (nI (if iKind x = 3 then iOne x else 0)), .int (nI (if iKind x = 3 then (if iTwo x = 1 then 94 else if iTwo x = 2 then 42 else 32) else 32)), .ref s, .ref p, c, .int (nI (if iKind x = 5 then iTill x else 0))]))
    ∧ strR H s (if iKind x = 4 then subT L (iPlace x + 1) (iOne x - (iPlace x + 1)) else []) ∧ strR H p (if iKind x = 4 then subT L (iOne x + 1) (iTwo x - (iOne x + 1)) else []) ∧ lstR H c (if iKind x = 5 then ((cos.drop (iOne x)).take (iTwo x - iOne x)).reverse else [])
/-- the fields of a template, as bits -/
def mskT (L : List Nat) : Nat := tmA ([], 0, 0, 0, 0, [], L) 3
def layR (H : jH) (a : Nat) (L : List Nat) : Prop := (∃ (b : Nat) (f : Nat → Value), H a = some (.inr (6, [.int (nI L.length), .ref b, .int (nI (pIts (pEnd L)).length), .int (nI (pDeep (pEnd L))), .int (nI (mskT L)), .int (nI (brN (pIts (pEnd L))))])) ∧ H b = some (.inl (.object RX4, L.length, f)) ∧ ∀ i, i < (pIts (pEnd L)).length → ∃ p, f i = .ref p ∧ pieR H L (pCos (pEnd L)) p (pAtI (pIts (pEnd L)) i)) ∧ L.length ≤ 120 ∧ (∀ c ∈ L, 32 ≤ c ∧ c ≤ 126) ∧ pOK L = true
/-- one heap holds what another one holds -/
def sub (Z H : jH) : Prop := ∀ a o, Z a = some o → H a = some o
section RE
variable {Z H : jH} {a : Nat} {t L : List Nat} {q : aRec} {v : Value} {cs cos : List pCo} {x : pIt}
theorem strR.mono (hz : sub Z H) (h : strR Z a t) : strR H a t := by
  obtain ⟨⟨b, fs, h1, h2, h3, h4⟩, h5⟩ := h
  exact ⟨⟨b, fs, hz _ _ h1, h2, h3, hz _ _ h4⟩, h5⟩
theorem txtR.mono (hz : sub Z H) (h : txtR Z a t) : txtR H a t := by
  obtain ⟨s, h1, h2⟩ := h
  exact ⟨s, hz _ _ h1, h2.mono hz⟩
theorem entR.mono (hz : sub Z H) (h : entR Z a q) : entR H a q := by
  obtain ⟨⟨b, x, h1, h2, h3⟩, h4⟩ := h
  exact ⟨⟨b, x, hz _ _ h1, hz _ _ h2, fun f hf => (h3 f hf).mono hz⟩, h4⟩
theorem lstR.mono (hz : sub Z H) : ∀ {cs : List pCo} {v : Value}, lstR Z v cs → lstR H v cs
  | [], v, h => h
  | x :: t, v, h => by
    obtain ⟨a, w, h1, h2, h3, h4⟩ := h
    exact ⟨a, w, h1, hz _ _ h2, lstR.mono hz h3, h4⟩
theorem pieR.mono (hz : sub Z H) (h : pieR Z L cos a x) : pieR H L cos a x := by
  obtain ⟨s, p, c, h1, h2, h3, h4⟩ := h
  exact ⟨s, p, c, hz _ _ h1, h2.mono hz, h3.mono hz, h4.mono hz⟩
theorem layR.mono (hz : sub Z H) (h : layR Z a L) : layR H a L := by
  obtain ⟨⟨b, f, h1, h2, h3⟩, h4⟩ := h
  refine ⟨⟨b, f, hz _ _ h1, hz _ _ h2, fun i hi => ?_⟩, h4⟩
  obtain ⟨p, e, h5⟩ := h3 i hi
  exact ⟨p, e, h5.mono hz⟩
theorem tCh_at {i : Nat} : tCh t i = nI (t.getD i 0) := rfl
end RE
theorem nI_sh0 {n : Nat} (h : n < 2 ^ 31) : nI n >>> ((0 : Int32) &&& 31) = nI n := by
  rw [pk_shrN h _ 0 (by decide)]
  rw [Nat.pow_zero, Nat.div_one]
theorem nI_chr : ∀ c, c < 128 → (((nI c &&& nI 255).toUInt32 % 65536).toInt32) = nI c := by decide +kernel
theorem nar_chr : ∀ c, c < 128 → narrow .char (.int (nI c)) = .int (nI c) := by decide +kernel
theorem vpn_chr : ∀ c, c < 128 → vp_nar .char (nI c) = nI c := by decide +kernel
theorem vpn_byt : ∀ c, c < 128 → vp_nar .byte (nI c) = nI c := by decide +kernel
theorem fit_byt : ∀ c, c < 128 → fits .byte (.int (nI c)) = true := by decide +kernel
theorem i2c_chr : ∀ c, c < 128 → (((nI c).toUInt32 % 65536).toInt32) = nI c := by decide +kernel
theorem i2b_chr : ∀ c, c < 128 → (nI c).toInt8.toInt32 = nI c := by decide +kernel
theorem chr_le {t : List Nat} (h : tOK t) {i : Nat} : t.getD i 0 ≤ 126 := getD_le126 h.2
