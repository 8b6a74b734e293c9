/-! ===== the merger: what its object means ===== -/
def cF (c n : Nat) (e : Int) (b : Bool) : List Value := [.ref (c + 1), .ref (c + 3), .ref (c + 8), .ref (c + 13), .ref (c + 14), .ref (c + 76), .ref (c + 79), .int (nI n), .int (zI e), .int (jb (b = true))]
/-- the constants that the class uses as strings -/
def kR (G : jG) (Z : jH) : Prop := strR Z (gK G 0) [] ∧ strR Z (gK G 5) [] ∧ strR Z (gK G 18) [] ∧ strR Z (gK G 22) [] ∧ strR Z (gK G 19) litT
def cA (M : jM) (Z : jH) (c n : Nat) (e : Int) (b : Bool) : Prop := M.1 c = some (.inr (13, cF c n e b)) ∧ Z c = none
def cB (M : jM) (Z : jH) (c v : Nat) (t : List Nat) : Prop := (∃ cap, bufR M.1 (c + 1) v cap t) ∧ Z (c + 1) = none ∧ Z v = none ∧ (v = c + 2 ∨ c + 120 ≤ v) ∧ t.length ≤ 120 ∧ ∀ x ∈ t, 32 ≤ x ∧ x ≤ 126
def cS (M : jM) (Z : jH) (c : Nat) (S : aSet) : Prop := suR M.1 Z (c + 3) S ∧ Z (c + 3) = none ∧ Z (c + 3 + 1) = none
def cV (M : jM) (Z : jH) (c : Nat) (V : Option aSet) : Prop := suX M.1 (c + 8) ∧ Z (c + 8) = none ∧ Z (c + 8 + 1) = none ∧ ∀ S, V = some S → suR M.1 Z (c + 8) S
def cPa (M : jM) (Z : jH) (c : Nat) (P : List aSet) (pa : Nat → Nat) : Prop := M.1 (c + 13) = some (.inl (.object RX5, 8, fun j => .ref (pa j))) ∧ Z (c + 13) = none ∧ (∀ j, j < 8 → ∃ k, k < 8 ∧ pa j = c + 80 + 5 * k) ∧ (∀ i j, i < j → j < 8 → pa i ≠ pa j) ∧ (∀ j, j < 8 → suX M.1 (pa j) ∧ Z (pa j) = none ∧ Z (pa j + 1) = none) ∧ ∀ k S, P[k]? = some S → suR M.1 Z (pa k) S
def cO (M : jM) (Z : jH) (c : Nat) (u : Option aRun) : Prop := outR M.1 (c + 14) (u.getD []) ∧ znO Z (c + 14) ∧ ∀ L, u = some L → ¬ L.length = 0 ∧ ∀ r, r < L.length → (ranAt L r).2.2.length ≤ 5
def cD (M : jM) (Z : jH) (c : Nat) : Prop := (∃ (X : List Nat × Bool) (k r lim : Nat) (ch : Nat → Int32), shS M.1 (c + 76) X k r lim ch) ∧ zn3 Z (c + 76)
def cN (M : jM) (Z : jH) (c : Nat) : Prop := (∃ od : Nat → Int32, M.1 (c + 79) = some (.inl (.int, 20, fun j => .int (od j)))) ∧ Z (c + 79) = none
def cZ (G : jG) (M : jM) (Z : jH) (c : Nat) : Prop := sub Z M.1 ∧ kR G Z ∧ gB G ≤ c ∧ (∃ o, M.1 (c + 119) = some o)
/-- the merger at c means this state; v: its buffer's row; Z: what never changes -/
def cJ (G : jG) (M : jM) (Z : jH) (c v : Nat) (S : aSet) (P : List aSet) (V : Option aSet) (b : List Nat) (e : Option Nat) (u : Option aRun) : Prop :=
  cA M Z c P.length (optZ e) V.isSome ∧ cB M Z c v b ∧ cS M Z c S ∧ cV M Z c V ∧ (∃ pa, cPa M Z c P pa) ∧ cO M Z c u ∧ cD M Z c ∧ cN M Z c ∧ cZ G M Z c ∧ P.length ≤ 8 ∧ ∀ k, e = some k → k ≤ 120
def cI (G : jG) (M : jM) (Z : jH) (c v : Nat) (T : aSt) : Prop := cJ G M Z c v T.1 T.2.1 T.2.2.1 T.2.2.2.1 T.2.2.2.2.1 T.2.2.2.2.2
/-- what never changes grows by new objects -/
def zg (M : jM) (Z Z' : jH) : Prop := sub Z Z' ∧ ∀ a o, Z' a = some o → Z a = some o ∨ M.1 a = none
/-- behind a call: the merger means T', and all other objects stay -/
def cQ (G : jG) (M : jM) (Z : jH) (c v : Nat) (T' : aSt) (M' : jM) : Prop := ∃ Z' v', cI G M' Z' c v' T' ∧ kept M M' (fun a => a = v ∨ (c ≤ a ∧ a < c + 120)) ∧ (v' = v ∨ M.1 v' = none) ∧ ∀ a o, Z' a = some o → Z a = some o ∨ M.1 a = none
section UP
variable {G : jG} {M M' M'' : jM} {Z Z' : jH} {c v a : Nat} {S : aSet} {P : List aSet} {V : Option aSet} {t : List Nat} {e : Option Nat} {u : Option aRun} {W : Nat → Prop} {pa : Nat → Nat} {n : Nat} {z : Int} {b : Bool} {x : jO}
theorem zg_refl : zg M Z Z := ⟨sub_refl, fun _ _ h => Or.inl h⟩
theorem zg.no (h : zg M Z Z') (hz : Z a = none) (hm : M.1 a = some x) : Z' a = none := by
  cases e : Z' a with
  | none => rfl
  | some o =>
    rcases h.2 a o e with h9 | h9
    · rw [hz] at h9; cases h9
    · rw [hm] at h9; cases h9
theorem cA.up (h : cA M Z c n z b) (hg : zg M Z Z') (hk : kept M M' W) (h1 : ¬ W c) : cA M' Z' c n z b := ⟨hk _ _ h.1 h1, hg.no h.2 h.1⟩
theorem bufR.up {H H' : jH} {b v cap : Nat} {t : List Nat} (h : bufR H b v cap t) (h0 : ∀ a o, a = b ∨ a = v → H a = some o → H' a = some o) : bufR H' b v cap t := by
  obtain ⟨⟨mb, w, h1, h2, h3⟩, h4⟩ := h
  exact ⟨⟨mb, w, h0 _ _ (Or.inl rfl) h1, h0 _ _ (Or.inr rfl) h2, h3⟩, h4⟩
theorem cB.up (h : cB M Z c v t) (hg : zg M Z Z') (hk : kept M M' W) (h1 : ¬ W (c + 1)) (h2 : ¬ W v) : cB M' Z' c v t := by
  obtain ⟨⟨cap, hb⟩, z1, z2, h3⟩ := h
  obtain ⟨⟨mb, w, g1, g2, -⟩, -⟩ := id hb
  exact ⟨⟨cap, hb.up (fun a o ha ho => hk a o ho (by rcases ha with rfl | rfl <;> assumption))⟩, hg.no z1 g1, hg.no z2 g2, h3⟩
theorem suR.up {s : Nat} (h : suR M.1 Z s S) (hz : sub Z Z') (hk : kept M M' W) (h1 : ¬ W s) (h2 : ¬ W (s + 1)) : suR M'.1 Z' s S := by
  obtain ⟨⟨lay, home, f, xe, u1, u2, u5, u3, u6, u7⟩, u4⟩ := h.mono hz
  exact ⟨⟨lay, home, f, xe, hk _ _ u1 h1, hk _ _ u2 h2, u5, u3, u6, u7⟩, u4⟩
theorem suX.up {s : Nat} (h : suX M.1 s) (hk : kept M M' W) (h1 : ¬ W s) (h2 : ¬ W (s + 1)) : suX M'.1 s := by
  obtain ⟨v1, v2, v3, v4, v5, v6, v7, f, g1, g2⟩ := h
  exact ⟨v1, v2, v3, v4, v5, v6, v7, f, hk _ _ g1 h1, hk _ _ g2 h2⟩
theorem suR.zn {s : Nat} (h : suR M.1 Z s S) (hg : zg M Z Z') (h1 : Z s = none) (h2 : Z (s + 1) = none) : Z' s = none ∧ Z' (s + 1) = none := by
  obtain ⟨⟨lay, home, f, xe, u1, u2, -⟩, -⟩ := h
  exact ⟨hg.no h1 u1, hg.no h2 u2⟩
theorem suX.zn {s : Nat} (h : suX M.1 s) (hg : zg M Z Z') (h1 : Z s = none) (h2 : Z (s + 1) = none) : Z' s = none ∧ Z' (s + 1) = none := by
  obtain ⟨v1, v2, v3, v4, v5, v6, v7, f, g1, g2⟩ := h
  exact ⟨hg.no h1 g1, hg.no h2 g2⟩
theorem cS.up (h : cS M Z c S) (hg : zg M Z Z') (hk : kept M M' W) (h1 : ¬ W (c + 3)) (h2 : ¬ W (c + 3 + 1)) : cS M' Z' c S := ⟨h.1.up hg.1 hk h1 h2, h.1.zn hg h.2.1 h.2.2⟩
theorem cV.up (h : cV M Z c V) (hg : zg M Z Z') (hk : kept M M' W) (h1 : ¬ W (c + 8)) (h2 : ¬ W (c + 8 + 1)) : cV M' Z' c V := ⟨h.1.up hk h1 h2, (h.1.zn hg h.2.1 h.2.2.1).1, (h.1.zn hg h.2.1 h.2.2.1).2, fun S hS => (h.2.2.2 S hS).up hg.1 hk h1 h2⟩
theorem cPa.up (h : cPa M Z c P pa) (hP : P.length ≤ 8) (hg : zg M Z Z') (hk : kept M M' W) (h1 : ¬ W (c + 13)) (h2 : ∀ a, c + 80 ≤ a → a < c + 120 → ¬ W a) : cPa M' Z' c P pa := by
  obtain ⟨p1, p2, p3, p4, p5, p6⟩ := h
  refine ⟨hk _ _ p1 h1, hg.no p2 p1, p3, p4, fun j hj => ?_, fun k S hk9 => ?_⟩
  · obtain ⟨k, k1, k2⟩ := p3 j hj
    have hx := p5 j hj
    exact ⟨hx.1.up hk (h2 _ (by omega) (by omega)) (h2 _ (by omega) (by omega)), hx.1.zn hg hx.2.1 hx.2.2⟩
  · have hl : k < P.length := by
      by_cases h9 : k < P.length
      · exact h9
      · rw [List.getElem?_eq_none (by omega)] at hk9; cases hk9
    obtain ⟨k', k1, k2⟩ := p3 k (by omega)
    exact (p6 k S hk9).up hg.1 hk (h2 _ (by omega) (by omega)) (h2 _ (by omega) (by omega))
theorem outR.up {o : Nat} {L : aRun} (h : outR M.1 o L) (hk : kept M M' W) (h1 : ∀ a, o ≤ a → a < o + 62 → ¬ W a) : outR M'.1 o L := by
  obtain ⟨g1, g2, g3, g4, g5⟩ := h
  refine ⟨hk _ _ g1 (h1 _ (by omega) (by omega)), hk _ _ g2 (h1 _ (by omega) (by omega)), g3, fun j hj => ⟨(g4 j hj).1.keep (fun b o9 hb h9 => hk _ _ h9 (h1 _ (by omega) (by omega))), (g4 j hj).2⟩, fun j hj => ?_⟩
  obtain ⟨X, k, r, lim, ch, g6⟩ := g5 j hj
  exact ⟨X, k, r, lim, ch, g6.keep (fun b o9 hb h9 => hk _ _ h9 (h1 _ (by omega) (by omega)))⟩
theorem outR.live {H : jH} {o : Nat} {L : aRun} (h : outR H o L) : ∀ a, o ≤ a → a < o + 62 → ∃ x, H a = some x := by
  obtain ⟨g1, g2, g3, g4, g5⟩ := h
  intro a ha hb
  by_cases h0 : a = o
  · exact ⟨_, h0 ▸ g1⟩
  · by_cases h1 : a = o + 1
    · exact ⟨_, h1 ▸ g2⟩
    · obtain ⟨X, k, r, lim, ch, q1, ⟨g, q2, -⟩, q3, -⟩ := g5 ((a - (o + 2)) / 3) (by omega)
      have h3 : a = o + 2 + 3 * ((a - (o + 2)) / 3) ∨ a = o + 2 + 3 * ((a - (o + 2)) / 3) + 1 ∨ a = o + 2 + 3 * ((a - (o + 2)) / 3) + 2 := by omega
      rcases h3 with h3 | h3 | h3 <;> rw [h3]
      · exact ⟨_, q1⟩
      · exact ⟨_, q2⟩
      · exact ⟨_, q3⟩
theorem cO.up (h : cO M Z c u) (hg : zg M Z Z') (hk : kept M M' W) (h1 : ∀ a, c + 14 ≤ a → a < c + 76 → ¬ W a) : cO M' Z' c u := by
  obtain ⟨g1, g2, g3⟩ := h
  refine ⟨g1.up hk (fun a h2 h3 => h1 a h2 (by omega)), fun a h2 h3 => ?_, g3⟩
  obtain ⟨x, hx⟩ := g1.live a h2 h3
  exact hg.no (g2 a h2 h3) hx
theorem cD.up (h : cD M Z c) (hg : zg M Z Z') (hk : kept M M' W) (h1 : ∀ a, c + 76 ≤ a → a < c + 79 → ¬ W a) : cD M' Z' c := by
  obtain ⟨⟨X, k, r, lim, ch, g6⟩, z1, z2, z3⟩ := h
  obtain ⟨q1, ⟨g, q2, -⟩, q3, -⟩ := id g6
  exact ⟨⟨X, k, r, lim, ch, g6.keep (fun b o9 hb h9 => hk _ _ h9 (h1 _ (by omega) (by omega)))⟩, hg.no z1 q1, hg.no z2 q2, hg.no z3 q3⟩
theorem cN.up (h : cN M Z c) (hg : zg M Z Z') (hk : kept M M' W) (h1 : ¬ W (c + 79)) : cN M' Z' c := by
  obtain ⟨⟨od, g1⟩, g2⟩ := h
  exact ⟨⟨od, hk _ _ g1 h1⟩, hg.no g2 g1⟩
theorem kR.up (h : kR G Z) (hz : sub Z Z') : kR G Z' := ⟨h.1.mono hz, h.2.1.mono hz, h.2.2.1.mono hz, h.2.2.2.1.mono hz, h.2.2.2.2.mono hz⟩
theorem cZ.up (h : cZ G M Z c) (hg : zg M Z Z') (hz : sub Z' M'.1) (hk : kept M M' W) (h1 : ¬ W (c + 119)) : cZ G M' Z' c := ⟨hz, h.2.1.up hg.1, h.2.2.1, h.2.2.2.elim (fun o ho => ⟨o, hk _ _ ho h1⟩)⟩
/-- another present setup, and nothing else -/
theorem cJ.set {S' : aSet} (h : cJ G M Z c v S P V t e u) (hS : suR M'.1 Z' (c + 3) S') (hg : zg M Z Z') (hz : sub Z' M'.1) (hk : kept M M' (fun a => a = c + 3 ∨ a = c + 3 + 1)) : cJ G M' Z' c v S' P V t e u := by
  obtain ⟨hA, hB, hSS, hV, ⟨pa, hP⟩, hO, hD, hN, hZ, h8, hE⟩ := h
  have hv := hB.2.2.2.1
  exact ⟨hA.up hg hk (by omega), hB.up hg hk (by omega) (by omega), ⟨hS, hSS.1.zn hg hSS.2.1 hSS.2.2⟩, hV.up hg hk (by omega) (by omega), ⟨pa, hP.up h8 hg hk (by omega) (fun a _ _ => by omega)⟩, hO.up hg hk (fun a _ _ => by omega), hD.up hg hk (fun a _ _ => by omega), hN.up hg hk (by omega), hZ.up hg hz hk (by omega), h8, hE⟩
/-- the same state over a larger heap -/
theorem cJ.more (h : cJ G M Z c v S P V t e u) (hg : zg M Z Z') (hz : sub Z' M'.1) (hk : kept M M' (fun _ => False)) : cJ G M' Z' c v S P V t e u := by
  obtain ⟨hA, hB, hSS, hV, ⟨pa, hP⟩, hO, hD, hN, hZ, h8, hE⟩ := h
  exact ⟨hA.up hg hk id, hB.up hg hk id id, hSS.up hg hk id id, hV.up hg hk id id, ⟨pa, hP.up h8 hg hk id (fun _ _ _ => id)⟩, hO.up hg hk (fun _ _ _ => id), hD.up hg hk (fun _ _ _ => id), hN.up hg hk id, hZ.up hg hz hk id, h8, hE⟩
theorem kept_refl : kept M M W := fun _ _ h _ => h
theorem kept.wk {W' : Nat → Prop} (h : kept M M' W) (hw : ∀ a, W a → W' a) : kept M M' W' := fun a o ha hn => h a o ha (fun e => hn (hw a e))
theorem kept.tr (h : kept M M' W) (h2 : kept M' M'' W) : kept M M'' W := fun a o ha hn => h2 a o (h a o ha hn) hn
theorem only_k (h : ∀ a, ¬ W a → M'.1 a = M.1 a) : kept M M' W := fun a o ha hn => (h a hn).trans ha
/-- behind a call, the buffer's row where it was -/
theorem cQ_of {T' : aSt} (h : cI G M' Z' c v T') (hk : kept M M' (fun a => a = v ∨ (c ≤ a ∧ a < c + 120))) (hg : zg M Z Z') : cQ G M Z c v T' M' := ⟨Z', v, h, hk, Or.inl rfl, hg.2⟩
theorem cQ_same {T' : aSt} (h : cI G M Z c v T') (he : M'.1 = M.1) : cQ G M Z c v T' M' := by
  have e : cI G M' Z c v T' := by
    unfold cI cJ cA cB cS cV cPa cO cD cN cZ at h ⊢
    rw [he]
    exact h
  exact ⟨Z, v, e, fun a o ha _ => by rw [he]; exact ha, Or.inl rfl, fun _ _ h => Or.inl h⟩
end UP
/-- the contract of a call: it answers, or throws, as op says; thr: what is thrown for which number -/
def COq (G : jG) (M : jM) (Z : jH) (c v : Nat) (op : aSt → aAns) (T : aSt) : Option Value → jM → Prop := fun w M' => (op T).1 = 0 ∧ w = some (.int (op T).2.1) ∧ cQ G M Z c v (op T).2.2 M'
def COx (G : jG) (M : jM) (Z : jH) (c v : Nat) (op : aSt → aAns) (thr : List String) (T : aSt) : String → jM → Prop := fun E M' => ∃ k, (op T).1 = k + 1 ∧ thr[k]? = some E ∧ cQ G M Z c v (op T).2.2 M'
section CR
variable {G : jG} {M M' : jM} {Z : jH} {c v k : Nat} {op : aSt → aAns} {T T' : aSt} {x : Int32} {thr : List String} {E : String}
theorem cr_of (e : op T = (0, x, T')) (h : cQ G M Z c v T' M') : COq G M Z c v op T (some (.int x)) M' := ⟨by rw [e], by rw [e], by rw [e]; exact h⟩
theorem cx_of (e : op T = (k + 1, x, T')) (ht : thr[k]? = some E) (h : cQ G M Z c v T' M') : COx G M Z c v op thr T E M' := ⟨k, by rw [e], ht, by rw [e]; exact h⟩
end CR
section CT
variable {C : jC} {y : jY} {d : Nat} {M : jM} {kc ks pc : Nat} {l : List (Option Value)} {st : List Value} {Q : Option Value → jM → Prop} {X : String → jM → Prop} {P : Option Value → jM → Prop} {X' : String → jM → Prop}
/-- calls that may throw: what they throw goes on -/
theorem c_Tv (hC : jOK y d C Q X) (hh : y.2.2.2.2 = []) {y' : jY} {idx b n d' ci kc' ks' : Nat} {As rest fs : List Value} {r : vw_C} (hm : jMv y.1.cls idx y' n) (hd : decode y.2.1 pc = .ok (.invokevirtual idx, 3)) (hM : JMet (jCG C) y' (.ref b :: As) M kc' ks' d' P X') (hb0 : M.1 b = some (.inr (ci, fs))) (hci : vwCl[ci]? = some r) (hr1 : r.1 = y'.1.cls) (hn : As.length = n) (hst : st = As.reverse ++ .ref b :: rest) (hd1 : d' + 1 ≤ d) (hrest : (rest.map fun v => v.category).sum ≤ 8)
    (kx : ∀ E M', X' E M' → X E M') (kk : ∀ v M', P v M' → J C M' kc ks (pc + 3) l (v.toList ++ rest)) : J C M (kc + kc') (ks + ks') pc l st :=
  j_callV hC.z hm hd hM hb0 hci hr1 hn hst hd1 (Nat.le_add_left _ _) (Nat.le_add_left _ _) hrest (fun v M' h => by rw [Nat.add_sub_cancel, Nat.add_sub_cancel]; exact kk v M' h) (fun E M' h => jx_out hC hh (kx E M' h))
theorem c_Ts (hC : jOK y d C Q X) (hh : y.2.2.2.2 = []) {y' : jY} {idx n d' kc' ks' : Nat} {As rest : List Value} (hm : jMs y.1.cls idx y' n) (hh0 : y'.2.2.2.2 = []) (hd : decode y.2.1 pc = .ok (.invokestatic idx, 3)) (hM : JMet (jCG C) y' As M kc' ks' d' P X') (hn : As.length = n) (hst : st = As.reverse ++ rest) (hd1 : d' + 1 ≤ d) (hrest : (rest.map fun v => v.category).sum ≤ 8)
    (kx : ∀ E M', X' E M' → X E M') (kk : ∀ v M', P v M' → J C M' kc ks (pc + 3) l (v.toList ++ rest)) : J C M (kc + kc') (ks + ks') pc l st :=
  j_callS hC.z hm hh0 hd hM hn hst hd1 (Nat.le_add_left _ _) (Nat.le_add_left _ _) hrest (fun v M' h => by rw [Nat.add_sub_cancel, Nat.add_sub_cancel]; exact kk v M' h) (fun E M' h => jx_out hC hh (kx E M' h))
end CT
