/-! ===== the merger: changes of its state ===== -/
theorem jin_n0 {v : Int32} {n : Nat} (h : v < 0) : ¬ jin v n = true := by
  unfold jin
  rw [decide_eq_true h, Bool.not_true, Bool.false_and]
  decide
theorem jin_n1 {v : Int32} {n : Nat} (hn : n < 2 ^ 31) (h : nI n ≤ v) : ¬ jin v n = true := by
  intro e
  obtain ⟨j, hj, rfl⟩ := jin_of e hn
  rw [Int32.le_iff_toInt_le, nI_toInt hn, nI_toInt (by omega)] at h
  omega
theorem jin_n2 {v : Int32} {n : Nat} (hn : n + 1 < 2 ^ 31) (h : nI n < v) : ¬ jin v (n + 1) = true := by
  intro e
  obtain ⟨j, hj, rfl⟩ := jin_of e hn
  rw [Int32.lt_iff_toInt_lt, nI_toInt (by omega), nI_toInt (by omega)] at h
  omega
theorem jin_c2 {v : Int32} {n : Nat} (hn : n + 1 < 2 ^ 31) (h0 : ¬ v < 0) (h1 : ¬ nI n < v) : jin v (n + 1) = true := by
  refine jin_c hn h0 (fun e => h1 ?_)
  rw [Int32.le_iff_toInt_le, nI_toInt hn] at e
  rw [Int32.lt_iff_toInt_lt, nI_toInt (by omega)]
  omega
theorem jin_c3 {v : Int32} {n : Nat} (hn : n < 2 ^ 31) (h0 : ¬ v < 0) (h1 : v < nI n) : jin v n = true := by
  refine jin_c hn h0 (fun e => ?_)
  rw [Int32.le_iff_toInt_le] at e
  rw [Int32.lt_iff_toInt_lt] at h1
  omega
theorem jin_n3 {v : Int32} {n : Nat} (hn : n < 2 ^ 31) (h : ¬ v < nI n) : ¬ jin v n = true := by
  refine jin_n1 hn ?_
  rw [Int32.le_iff_toInt_le]
  rw [Int32.lt_iff_toInt_lt] at h
  omega
section CJ
variable {G : jG} {M M' : jM} {Z Z' : jH} {c v v' cap : Nat} {S S' : aSet} {P P' : List aSet} {V : Option aSet} {t t' : List Nat} {e e' : Option Nat} {u : Option aRun} {pa : Nat → Nat}
theorem zg_sub (h : sub Z M.1) : zg M Z Z := zg_refl
/-- another buffer -/
theorem cJ.bufv (h : cJ G M Z c v S P V t e u) (hb : bufR M'.1 (c + 1) v' cap t') (ht : t'.length ≤ 120 ∧ ∀ x ∈ t', 32 ≤ x ∧ x ≤ 126) (hg : zg M Z Z') (hz : sub Z' M'.1) (hzv : Z' v' = none) (hvv : v' = c + 2 ∨ c + 120 ≤ v') (hk : kept M M' (fun a => a = c + 1 ∨ a = v)) : cJ G M' Z' c v' S P V t' e u := by
  obtain ⟨hA, hB, hSS, hV, ⟨pa, hP⟩, hO, hD, hN, hZ, h8, hE⟩ := h
  have hv := hB.2.2.2.1
  have hz1 : Z' (c + 1) = none := by
    obtain ⟨⟨cap, ⟨mb, w, g1, -⟩, -⟩, z1, -⟩ := hB
    exact hg.no z1 g1
  exact ⟨hA.up hg hk (by omega), ⟨⟨cap, hb⟩, hz1, hzv, hvv, ht⟩, hSS.up hg hk (by omega) (by omega), hV.up hg hk (by omega) (by omega), ⟨pa, hP.up h8 hg hk (by omega) (fun a _ _ => by omega)⟩, hO.up hg hk (fun a _ _ => by omega), hD.up hg hk (fun a _ _ => by omega), hN.up hg hk (by omega), hZ.up hg hz hk (by omega), h8, hE⟩
/-- the merger's own numbers: another error place -/
theorem cJ.err (h : cJ G M Z c v S P V t e u) (h1 : M'.1 c = some (.inr (13, cF c P.length (optZ e') V.isSome))) (he : ∀ k, e' = some k → k ≤ 120) (hk : kept M M' (fun a => a = c)) : cJ G M' Z c v S P V t e' u := by
  obtain ⟨hA, hB, hSS, hV, ⟨pa, hP⟩, hO, hD, hN, hZ, h8, hE⟩ := h
  have hv := hB.2.2.2.1
  have hg : zg M Z Z := zg_refl
  exact ⟨⟨h1, hA.2⟩, hB.up hg hk (by omega) (by omega), hSS.up hg hk (by omega) (by omega), hV.up hg hk (by omega) (by omega), ⟨pa, hP.up h8 hg hk (by omega) (fun a _ _ => by omega)⟩, hO.up hg hk (fun a _ _ => by omega), hD.up hg hk (fun a _ _ => by omega), hN.up hg hk (by omega), hZ.up hg (kept.sub hk hZ.1 (fun a e => by rw [show a = c from e]; exact hA.2)) hk (by omega), h8, he⟩
theorem cPa.get {k : Nat} (h : cPa M Z c P pa) (hk : k < 8) : c + 80 ≤ pa k ∧ pa k + 1 < c + 117 := by
  obtain ⟨q, q1, q2⟩ := h.2.2.1 k hk
  omega
theorem cPa.ne {i j : Nat} (h : cPa M Z c P pa) (hi : i < 8) (hj : j < 8) (hij : i ≠ j) : pa i ≠ pa j ∧ pa i ≠ pa j + 1 ∧ pa i + 1 ≠ pa j := by
  obtain ⟨q, q1, q2⟩ := h.2.2.1 i hi
  obtain ⟨r, r1, r2⟩ := h.2.2.1 j hj
  have hne : pa i ≠ pa j := by
    rcases Nat.lt_or_gt_of_ne hij with h9 | h9
    · exact h.2.2.2.1 i j h9 hj
    · exact Ne.symm (h.2.2.2.1 j i h9 hi)
  omega
/-- one more change that can be undone -/
theorem cPa.push (h : cPa M Z c P pa) (hn : P.length < 8) (hs : suR M'.1 Z (pa P.length) S) (hk : kept M M' (fun a => a = c ∨ a = pa P.length ∨ a = pa P.length + 1)) : cPa M' Z c (P ++ [S]) pa := by
  have hgt := fun k hk => h.get (k := k) hk
  have hne := fun i j hi hj hij => h.ne (i := i) (j := j) hi hj hij
  obtain ⟨p1, p2, p3, p4, p5, p6⟩ := h
  have h0 := hgt P.length hn
  refine ⟨hk _ _ p1 (by omega), p2, p3, p4, fun j hj => ?_, fun k S' hk9 => ?_⟩
  · by_cases e : j = P.length
    · rw [e]; exact ⟨hs.X, (p5 _ hn).2⟩
    · have h1 := hne j P.length hj hn e
      have h2 := hgt j hj
      exact ⟨(p5 j hj).1.up hk (by omega) (by omega), (p5 j hj).2⟩
  · by_cases e : k < P.length
    · rw [List.getElem?_append_left e] at hk9
      have h1 := hne k P.length (by omega) hn (by omega)
      have h2 := hgt k (by omega)
      exact (p6 k S' hk9).up sub_refl hk (by omega) (by omega)
    · have e2 : k = P.length := by
        by_cases e3 : k = P.length
        · exact e3
        · rw [List.getElem?_eq_none (by rw [List.length_append, List.length_singleton]; omega)] at hk9; cases hk9
      subst e2
      rw [List.getElem?_append_right (Nat.le_refl _), Nat.sub_self] at hk9
      have e3 : S = S' := Option.some.inj hk9
      rw [← e3]
      exact hs
theorem cPa.less (h : cPa M Z c P pa) (hP : ∀ (k : Nat) (S : aSet), P'[k]? = some S → P[k]? = some S) : cPa M Z c P' pa := ⟨h.1, h.2.1, h.2.2.1, h.2.2.2.1, h.2.2.2.2.1, fun k S hk => h.2.2.2.2.2 k S (hP k S hk)⟩
/-- the oldest is forgotten: the row is turned -/
theorem cPa.turn (h : cPa M Z c P pa) (hn : P.length = 8) (h1 : M'.1 (c + 13) = some (.inl (.object RX5, 8, fun j => .ref (if j < 7 then pa (j + 1) else if j = 7 then pa 0 else pa j)))) (hk : kept M M' (fun a => a = c ∨ a = c + 13)) : cPa M' Z c P.tail (fun j => if j < 7 then pa (j + 1) else if j = 7 then pa 0 else pa j) := by
  have hgt := fun k hk => h.get (k := k) hk
  have hne := fun i j hi hj hij => h.ne (i := i) (j := j) hi hj hij
  obtain ⟨p1, p2, p3, p4, p5, p6⟩ := h
  have hF : ∀ j, j < 8 → ∃ k, k < 8 ∧ (if j < 7 then pa (j + 1) else if j = 7 then pa 0 else pa j) = pa k ∧ (k = j + 1 ∨ (j = 7 ∧ k = 0)) := fun j hj => by
    by_cases e : j < 7
    · exact ⟨j + 1, by omega, if_pos e, Or.inl rfl⟩
    · exact ⟨0, by omega, by rw [if_neg e, if_pos (by omega)], Or.inr ⟨by omega, rfl⟩⟩
  refine ⟨h1, p2, fun j hj => ?_, fun i j hij hj => ?_, fun j hj => ?_, fun k S' hk9 => ?_⟩
  · obtain ⟨k, k1, k2, -⟩ := hF j hj
    dsimp only
    rw [k2]
    exact p3 k k1
  · obtain ⟨k, k1, k2, k3⟩ := hF j hj
    obtain ⟨q, q1, q2, q3⟩ := hF i (by omega)
    dsimp only
    rw [k2, q2]
    exact (hne q k q1 k1 (by omega)).1
  · obtain ⟨k, k1, k2, -⟩ := hF j hj
    dsimp only
    rw [k2]
    have := hgt k k1
    exact ⟨(p5 k k1).1.up hk (by omega) (by omega), (p5 k k1).2⟩
  · rw [List.getElem?_tail] at hk9
    have hl : k + 1 < P.length := by
      by_cases h9 : k + 1 < P.length
      · exact h9
      · rw [List.getElem?_eq_none (by omega)] at hk9; cases hk9
    have := hgt (k + 1) (by omega)
    dsimp only
    rw [if_pos (by omega)]
    exact (p6 _ _ hk9).up sub_refl hk (by omega) (by omega)
/-- the merger's own numbers and its past -/
theorem cJ.past {P' : List aSet} {pa' : Nat → Nat} (h : cJ G M Z c v S P V t e u) (h1 : M'.1 c = some (.inr (13, cF c P'.length (optZ e) V.isSome))) (hP : cPa M' Z c P' pa') (h8 : P'.length ≤ 8) {W : Nat → Prop} (hk : kept M M' W) (hW : ∀ a, W a → (a = c ∨ a = c + 13 ∨ (c + 80 ≤ a ∧ a < c + 119))) (hz : sub Z M'.1) : cJ G M' Z c v S P' V t e u := by
  obtain ⟨hA, hB, hSS, hV, -, hO, hD, hN, hZ, -, hE⟩ := h
  have hv := hB.2.2.2.1
  have hg : zg M Z Z := zg_refl
  have hk' : kept M M' (fun a => a = c ∨ a = c + 13 ∨ (c + 80 ≤ a ∧ a < c + 119)) := hk.wk hW
  exact ⟨⟨h1, hA.2⟩, hB.up hg hk' (by omega) (by omega), hSS.up hg hk' (by omega) (by omega), hV.up hg hk' (by omega) (by omega), ⟨_, hP⟩, hO.up hg hk' (fun a _ _ => by omega), hD.up hg hk' (fun a _ _ => by omega), hN.up hg hk' (by omega), hZ.up hg hz hk' (by omega), h8, hE⟩
end CJ
