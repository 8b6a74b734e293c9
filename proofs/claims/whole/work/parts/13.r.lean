/-! ===== the reference's object: its numbers and its rows, at o .. o + 20 ===== -/
abbrev rR : Type := (Nat → Int32) × (Nat → Nat → Int32)
def rs (R : rR) (k : Nat) (v : Int32) : rR := (fun j => if j = k then v else R.1 j, R.2)
def ra (R : rR) (k i : Nat) (v : Int32) : rR := (R.1, fun j => if j = k then upd (R.2 j) i v else R.2 j)
def rF (o : Nat) (R : rR) : List Value := [.int (R.1 0), .ref (o + 1), .int (R.1 2), .int (R.1 3), .ref (o + 2), .int (R.1 5), .int (R.1 6), .ref (o + 3), .ref (o + 4), .ref (o + 5), .ref (o + 6), .int (R.1 11), .int (R.1 12), .int (R.1 13), .int (R.1 14), .int (R.1 15), .int (R.1 16), .ref (o + 7), .ref (o + 8), .ref (o + 9), .ref (o + 10), .ref (o + 11), .int (R.1 22), .ref (o + 12), .ref (o + 13), .ref (o + 14), .int (R.1 26), .ref (o + 15), .int (R.1 28), .int (R.1 29), .int (R.1 30), .ref (o + 16), .ref (o + 17), .ref (o + 18), .ref (o + 19), .ref (o + 20)]
def rO (o : Nat) (R : rR) : Nat → jO
  | 0 => .inr (14, rF o R)
  | 1 => .inl (.int, 14790, fun j => .int (R.2 1 j))
  | 2 => .inl (.int, 120, fun j => .int (R.2 4 j))
  | 3 => .inl (.int, 67, fun j => .int (R.2 7 j))
  | 4 => .inl (.int, 20, fun j => .int (R.2 8 j))
  | 5 => .inl (.int, 1340, fun j => .int (R.2 9 j))
  | 6 => .inl (.int, 120, fun j => .int (R.2 10 j))
  | 7 => .inl (.int, 120, fun j => .int (R.2 17 j))
  | 8 => .inl (.int, 120, fun j => .int (R.2 18 j))
  | 9 => .inl (.int, 120, fun j => .int (R.2 19 j))
  | 10 => .inl (.int, 120, fun j => .int (R.2 20 j))
  | 11 => .inl (.int, 120, fun j => .int (R.2 21 j))
  | 12 => .inl (.int, 120, fun j => .int (R.2 23 j))
  | 13 => .inl (.int, 120, fun j => .int (R.2 24 j))
  | 14 => .inl (.boolean, 120, fun j => .int (R.2 25 j))
  | 15 => .inl (.int, 200, fun j => .int (R.2 27 j))
  | 16 => .inl (.int, 20, fun j => .int (R.2 31 j))
  | 17 => .inl (.int, 20, fun j => .int (R.2 32 j))
  | 18 => .inl (.int, 4000, fun j => .int (R.2 33 j))
  | 19 => .inl (.int, 20, fun j => .int (R.2 34 j))
  | _ => .inl (.int, 100, fun j => .int (R.2 35 j))
def rM (o : Nat) (M0 : jM) (R : rR) : jM := (fun a => if o ≤ a ∧ a ≤ o + 20 then some (rO o R (a - o)) else M0.1 a, M0.2)
theorem rM_at {o : Nat} {M0 : jM} {R : rR} (c : Nat) (hc : c ≤ 20) : (rM o M0 R).1 (o + c) = some (rO o R c) := by
  simp only [rM]
  rw [if_pos ⟨by omega, by omega⟩, show o + c - o = c by omega]
theorem rM_0 {o : Nat} {M0 : jM} {R : rR} : (rM o M0 R).1 o = some (.inr (14, rF o R)) := rM_at (o := o) 0 (by decide)
theorem rM_out {o : Nat} {M0 : jM} {R : rR} {a : Nat} (h : a < o ∨ o + 20 < a) : (rM o M0 R).1 a = M0.1 a := by
  simp only [rM]
  rw [if_neg (by omega)]
theorem rM_put {o : Nat} {M0 : jM} {R R' : rR} (c : Nat) (hc : c ≤ 20) {x : jO} (h1 : rO o R' c = x) (h2 : ∀ b, b ≤ 20 → b ≠ c → rO o R' b = rO o R b) : jput (rM o M0 R) (o + c) x = rM o M0 R' := by
  refine Prod.ext (funext fun a => ?_) rfl
  simp only [jput, rM]
  by_cases ha : a = o + c
  · subst ha
    rw [if_pos rfl, if_pos ⟨by omega, by omega⟩, show o + c - o = c by omega, h1]
  · rw [if_neg ha]
    by_cases hb : o ≤ a ∧ a ≤ o + 20
    · rw [if_pos hb, if_pos hb, h2 _ (by omega) (by omega)]
    · rw [if_neg hb, if_neg hb]
theorem rM_rM {o : Nat} {M0 : jM} {R R' : rR} : rM o (rM o M0 R) R' = rM o M0 R' := by
  refine Prod.ext (funext fun a => ?_) rfl
  simp only [rM]
  split <;> rfl
theorem rM_self {o : Nat} {M : jM} {R : rR} (h : ∀ c, c ≤ 20 → M.1 (o + c) = some (rO o R c)) : rM o M R = M := by
  refine Prod.ext (funext fun a => ?_) rfl
  simp only [rM]
  split
  · rename_i hb
    rw [← h (a - o) (by omega), show o + (a - o) = a by omega]
  · rfl
theorem rF_set_0 {o : Nat} {R : rR} {v : Int32} : (rF o R).set 0 (.int v) = rF o (rs R 0 v) := rfl
theorem rF_set_2 {o : Nat} {R : rR} {v : Int32} : (rF o R).set 2 (.int v) = rF o (rs R 2 v) := rfl
theorem rF_set_3 {o : Nat} {R : rR} {v : Int32} : (rF o R).set 3 (.int v) = rF o (rs R 3 v) := rfl
theorem rF_set_5 {o : Nat} {R : rR} {v : Int32} : (rF o R).set 5 (.int v) = rF o (rs R 5 v) := rfl
theorem rF_set_6 {o : Nat} {R : rR} {v : Int32} : (rF o R).set 6 (.int v) = rF o (rs R 6 v) := rfl
theorem rF_set_11 {o : Nat} {R : rR} {v : Int32} : (rF o R).set 11 (.int v) = rF o (rs R 11 v) := rfl
theorem rF_set_12 {o : Nat} {R : rR} {v : Int32} : (rF o R).set 12 (.int v) = rF o (rs R 12 v) := rfl
theorem rF_set_13 {o : Nat} {R : rR} {v : Int32} : (rF o R).set 13 (.int v) = rF o (rs R 13 v) := rfl
theorem rF_set_14 {o : Nat} {R : rR} {v : Int32} : (rF o R).set 14 (.int v) = rF o (rs R 14 v) := rfl
theorem rF_set_15 {o : Nat} {R : rR} {v : Int32} : (rF o R).set 15 (.int v) = rF o (rs R 15 v) := rfl
theorem rF_set_16 {o : Nat} {R : rR} {v : Int32} : (rF o R).set 16 (.int v) = rF o (rs R 16 v) := rfl
theorem rF_set_22 {o : Nat} {R : rR} {v : Int32} : (rF o R).set 22 (.int v) = rF o (rs R 22 v) := rfl
theorem rF_set_26 {o : Nat} {R : rR} {v : Int32} : (rF o R).set 26 (.int v) = rF o (rs R 26 v) := rfl
theorem rF_set_28 {o : Nat} {R : rR} {v : Int32} : (rF o R).set 28 (.int v) = rF o (rs R 28 v) := rfl
theorem rF_set_29 {o : Nat} {R : rR} {v : Int32} : (rF o R).set 29 (.int v) = rF o (rs R 29 v) := rfl
theorem rF_set_30 {o : Nat} {R : rR} {v : Int32} : (rF o R).set 30 (.int v) = rF o (rs R 30 v) := rfl
theorem rO_k1 {o j : Nat} {R : rR} {x : Int32} : ∀ b, b ≤ 20 → b ≠ 1 → rO o (ra R 1 j x) b = rO o R b
  | 0, _, _ => rfl
  | 1, _, h => absurd rfl h
  | 2, _, _ => rfl
  | 3, _, _ => rfl
  | 4, _, _ => rfl
  | 5, _, _ => rfl
  | 6, _, _ => rfl
  | 7, _, _ => rfl
  | 8, _, _ => rfl
  | 9, _, _ => rfl
  | 10, _, _ => rfl
  | 11, _, _ => rfl
  | 12, _, _ => rfl
  | 13, _, _ => rfl
  | 14, _, _ => rfl
  | 15, _, _ => rfl
  | 16, _, _ => rfl
  | 17, _, _ => rfl
  | 18, _, _ => rfl
  | 19, _, _ => rfl
  | 20, _, _ => rfl
  | b + 21, h, _ => absurd h (by omega)
theorem rO_k4 {o j : Nat} {R : rR} {x : Int32} : ∀ b, b ≤ 20 → b ≠ 2 → rO o (ra R 4 j x) b = rO o R b
  | 0, _, _ => rfl
  | 1, _, _ => rfl
  | 2, _, h => absurd rfl h
  | 3, _, _ => rfl
  | 4, _, _ => rfl
  | 5, _, _ => rfl
  | 6, _, _ => rfl
  | 7, _, _ => rfl
  | 8, _, _ => rfl
  | 9, _, _ => rfl
  | 10, _, _ => rfl
  | 11, _, _ => rfl
  | 12, _, _ => rfl
  | 13, _, _ => rfl
  | 14, _, _ => rfl
  | 15, _, _ => rfl
  | 16, _, _ => rfl
  | 17, _, _ => rfl
  | 18, _, _ => rfl
  | 19, _, _ => rfl
  | 20, _, _ => rfl
  | b + 21, h, _ => absurd h (by omega)
theorem rO_k7 {o j : Nat} {R : rR} {x : Int32} : ∀ b, b ≤ 20 → b ≠ 3 → rO o (ra R 7 j x) b = rO o R b
  | 0, _, _ => rfl
  | 1, _, _ => rfl
  | 2, _, _ => rfl
  | 3, _, h => absurd rfl h
  | 4, _, _ => rfl
  | 5, _, _ => rfl
  | 6, _, _ => rfl
  | 7, _, _ => rfl
  | 8, _, _ => rfl
  | 9, _, _ => rfl
  | 10, _, _ => rfl
  | 11, _, _ => rfl
  | 12, _, _ => rfl
  | 13, _, _ => rfl
  | 14, _, _ => rfl
  | 15, _, _ => rfl
  | 16, _, _ => rfl
  | 17, _, _ => rfl
  | 18, _, _ => rfl
  | 19, _, _ => rfl
  | 20, _, _ => rfl
  | b + 21, h, _ => absurd h (by omega)
theorem rO_k8 {o j : Nat} {R : rR} {x : Int32} : ∀ b, b ≤ 20 → b ≠ 4 → rO o (ra R 8 j x) b = rO o R b
  | 0, _, _ => rfl
  | 1, _, _ => rfl
  | 2, _, _ => rfl
  | 3, _, _ => rfl
  | 4, _, h => absurd rfl h
  | 5, _, _ => rfl
  | 6, _, _ => rfl
  | 7, _, _ => rfl
  | 8, _, _ => rfl
  | 9, _, _ => rfl
  | 10, _, _ => rfl
  | 11, _, _ => rfl
  | 12, _, _ => rfl
  | 13, _, _ => rfl
  | 14, _, _ => rfl
  | 15, _, _ => rfl
  | 16, _, _ => rfl
  | 17, _, _ => rfl
  | 18, _, _ => rfl
  | 19, _, _ => rfl
  | 20, _, _ => rfl
  | b + 21, h, _ => absurd h (by omega)
theorem rO_k9 {o j : Nat} {R : rR} {x : Int32} : ∀ b, b ≤ 20 → b ≠ 5 → rO o (ra R 9 j x) b = rO o R b
  | 0, _, _ => rfl
  | 1, _, _ => rfl
  | 2, _, _ => rfl
  | 3, _, _ => rfl
  | 4, _, _ => rfl
  | 5, _, h => absurd rfl h
  | 6, _, _ => rfl
  | 7, _, _ => rfl
  | 8, _, _ => rfl
  | 9, _, _ => rfl
  | 10, _, _ => rfl
  | 11, _, _ => rfl
  | 12, _, _ => rfl
  | 13, _, _ => rfl
  | 14, _, _ => rfl
  | 15, _, _ => rfl
  | 16, _, _ => rfl
  | 17, _, _ => rfl
  | 18, _, _ => rfl
  | 19, _, _ => rfl
  | 20, _, _ => rfl
  | b + 21, h, _ => absurd h (by omega)
theorem rO_k10 {o j : Nat} {R : rR} {x : Int32} : ∀ b, b ≤ 20 → b ≠ 6 → rO o (ra R 10 j x) b = rO o R b
  | 0, _, _ => rfl
  | 1, _, _ => rfl
  | 2, _, _ => rfl
  | 3, _, _ => rfl
  | 4, _, _ => rfl
  | 5, _, _ => rfl
  | 6, _, h => absurd rfl h
  | 7, _, _ => rfl
  | 8, _, _ => rfl
  | 9, _, _ => rfl
  | 10, _, _ => rfl
  | 11, _, _ => rfl
  | 12, _, _ => rfl
  | 13, _, _ => rfl
  | 14, _, _ => rfl
  | 15, _, _ => rfl
  | 16, _, _ => rfl
  | 17, _, _ => rfl
  | 18, _, _ => rfl
  | 19, _, _ => rfl
  | 20, _, _ => rfl
  | b + 21, h, _ => absurd h (by omega)
theorem rO_k17 {o j : Nat} {R : rR} {x : Int32} : ∀ b, b ≤ 20 → b ≠ 7 → rO o (ra R 17 j x) b = rO o R b
  | 0, _, _ => rfl
  | 1, _, _ => rfl
  | 2, _, _ => rfl
  | 3, _, _ => rfl
  | 4, _, _ => rfl
  | 5, _, _ => rfl
  | 6, _, _ => rfl
  | 7, _, h => absurd rfl h
  | 8, _, _ => rfl
  | 9, _, _ => rfl
  | 10, _, _ => rfl
  | 11, _, _ => rfl
  | 12, _, _ => rfl
  | 13, _, _ => rfl
  | 14, _, _ => rfl
  | 15, _, _ => rfl
  | 16, _, _ => rfl
  | 17, _, _ => rfl
  | 18, _, _ => rfl
  | 19, _, _ => rfl
  | 20, _, _ => rfl
  | b + 21, h, _ => absurd h (by omega)
theorem rO_k18 {o j : Nat} {R : rR} {x : Int32} : ∀ b, b ≤ 20 → b ≠ 8 → rO o (ra R 18 j x) b = rO o R b
  | 0, _, _ => rfl
  | 1, _, _ => rfl
  | 2, _, _ => rfl
  | 3, _, _ => rfl
  | 4, _, _ => rfl
  | 5, _, _ => rfl
  | 6, _, _ => rfl
  | 7, _, _ => rfl
  | 8, _, h => absurd rfl h
  | 9, _, _ => rfl
  | 10, _, _ => rfl
  | 11, _, _ => rfl
  | 12, _, _ => rfl
  | 13, _, _ => rfl
  | 14, _, _ => rfl
  | 15, _, _ => rfl
  | 16, _, _ => rfl
  | 17, _, _ => rfl
  | 18, _, _ => rfl
  | 19, _, _ => rfl
  | 20, _, _ => rfl
  | b + 21, h, _ => absurd h (by omega)
theorem rO_k19 {o j : Nat} {R : rR} {x : Int32} : ∀ b, b ≤ 20 → b ≠ 9 → rO o (ra R 19 j x) b = rO o R b
  | 0, _, _ => rfl
  | 1, _, _ => rfl
  | 2, _, _ => rfl
  | 3, _, _ => rfl
  | 4, _, _ => rfl
  | 5, _, _ => rfl
  | 6, _, _ => rfl
  | 7, _, _ => rfl
  | 8, _, _ => rfl
  | 9, _, h => absurd rfl h
  | 10, _, _ => rfl
  | 11, _, _ => rfl
  | 12, _, _ => rfl
  | 13, _, _ => rfl
  | 14, _, _ => rfl
  | 15, _, _ => rfl
  | 16, _, _ => rfl
  | 17, _, _ => rfl
  | 18, _, _ => rfl
  | 19, _, _ => rfl
  | 20, _, _ => rfl
  | b + 21, h, _ => absurd h (by omega)
theorem rO_k20 {o j : Nat} {R : rR} {x : Int32} : ∀ b, b ≤ 20 → b ≠ 10 → rO o (ra R 20 j x) b = rO o R b
  | 0, _, _ => rfl
  | 1, _, _ => rfl
  | 2, _, _ => rfl
  | 3, _, _ => rfl
  | 4, _, _ => rfl
  | 5, _, _ => rfl
  | 6, _, _ => rfl
  | 7, _, _ => rfl
  | 8, _, _ => rfl
  | 9, _, _ => rfl
  | 10, _, h => absurd rfl h
  | 11, _, _ => rfl
  | 12, _, _ => rfl
  | 13, _, _ => rfl
  | 14, _, _ => rfl
  | 15, _, _ => rfl
  | 16, _, _ => rfl
  | 17, _, _ => rfl
  | 18, _, _ => rfl
  | 19, _, _ => rfl
  | 20, _, _ => rfl
  | b + 21, h, _ => absurd h (by omega)
theorem rO_k21 {o j : Nat} {R : rR} {x : Int32} : ∀ b, b ≤ 20 → b ≠ 11 → rO o (ra R 21 j x) b = rO o R b
  | 0, _, _ => rfl
  | 1, _, _ => rfl
  | 2, _, _ => rfl
  | 3, _, _ => rfl
  | 4, _, _ => rfl
  | 5, _, _ => rfl
  | 6, _, _ => rfl
  | 7, _, _ => rfl
  | 8, _, _ => rfl
  | 9, _, _ => rfl
  | 10, _, _ => rfl
  | 11, _, h => absurd rfl h
  | 12, _, _ => rfl
  | 13, _, _ => rfl
  | 14, _, _ => rfl
  | 15, _, _ => rfl
  | 16, _, _ => rfl
  | 17, _, _ => rfl
  | 18, _, _ => rfl
  | 19, _, _ => rfl
  | 20, _, _ => rfl
  | b + 21, h, _ => absurd h (by omega)
theorem rO_k23 {o j : Nat} {R : rR} {x : Int32} : ∀ b, b ≤ 20 → b ≠ 12 → rO o (ra R 23 j x) b = rO o R b
  | 0, _, _ => rfl
  | 1, _, _ => rfl
  | 2, _, _ => rfl
  | 3, _, _ => rfl
  | 4, _, _ => rfl
  | 5, _, _ => rfl
  | 6, _, _ => rfl
  | 7, _, _ => rfl
  | 8, _, _ => rfl
  | 9, _, _ => rfl
  | 10, _, _ => rfl
  | 11, _, _ => rfl
  | 12, _, h => absurd rfl h
  | 13, _, _ => rfl
  | 14, _, _ => rfl
  | 15, _, _ => rfl
  | 16, _, _ => rfl
  | 17, _, _ => rfl
  | 18, _, _ => rfl
  | 19, _, _ => rfl
  | 20, _, _ => rfl
  | b + 21, h, _ => absurd h (by omega)
theorem rO_k24 {o j : Nat} {R : rR} {x : Int32} : ∀ b, b ≤ 20 → b ≠ 13 → rO o (ra R 24 j x) b = rO o R b
  | 0, _, _ => rfl
  | 1, _, _ => rfl
  | 2, _, _ => rfl
  | 3, _, _ => rfl
  | 4, _, _ => rfl
  | 5, _, _ => rfl
  | 6, _, _ => rfl
  | 7, _, _ => rfl
  | 8, _, _ => rfl
  | 9, _, _ => rfl
  | 10, _, _ => rfl
  | 11, _, _ => rfl
  | 12, _, _ => rfl
  | 13, _, h => absurd rfl h
  | 14, _, _ => rfl
  | 15, _, _ => rfl
  | 16, _, _ => rfl
  | 17, _, _ => rfl
  | 18, _, _ => rfl
  | 19, _, _ => rfl
  | 20, _, _ => rfl
  | b + 21, h, _ => absurd h (by omega)
theorem rO_k25 {o j : Nat} {R : rR} {x : Int32} : ∀ b, b ≤ 20 → b ≠ 14 → rO o (ra R 25 j x) b = rO o R b
  | 0, _, _ => rfl
  | 1, _, _ => rfl
  | 2, _, _ => rfl
  | 3, _, _ => rfl
  | 4, _, _ => rfl
  | 5, _, _ => rfl
  | 6, _, _ => rfl
  | 7, _, _ => rfl
  | 8, _, _ => rfl
  | 9, _, _ => rfl
  | 10, _, _ => rfl
  | 11, _, _ => rfl
  | 12, _, _ => rfl
  | 13, _, _ => rfl
  | 14, _, h => absurd rfl h
  | 15, _, _ => rfl
  | 16, _, _ => rfl
  | 17, _, _ => rfl
  | 18, _, _ => rfl
  | 19, _, _ => rfl
  | 20, _, _ => rfl
  | b + 21, h, _ => absurd h (by omega)
theorem rO_k27 {o j : Nat} {R : rR} {x : Int32} : ∀ b, b ≤ 20 → b ≠ 15 → rO o (ra R 27 j x) b = rO o R b
  | 0, _, _ => rfl
  | 1, _, _ => rfl
  | 2, _, _ => rfl
  | 3, _, _ => rfl
  | 4, _, _ => rfl
  | 5, _, _ => rfl
  | 6, _, _ => rfl
  | 7, _, _ => rfl
  | 8, _, _ => rfl
  | 9, _, _ => rfl
  | 10, _, _ => rfl
  | 11, _, _ => rfl
  | 12, _, _ => rfl
  | 13, _, _ => rfl
  | 14, _, _ => rfl
  | 15, _, h => absurd rfl h
  | 16, _, _ => rfl
  | 17, _, _ => rfl
  | 18, _, _ => rfl
  | 19, _, _ => rfl
  | 20, _, _ => rfl
  | b + 21, h, _ => absurd h (by omega)
theorem rO_k31 {o j : Nat} {R : rR} {x : Int32} : ∀ b, b ≤ 20 → b ≠ 16 → rO o (ra R 31 j x) b = rO o R b
  | 0, _, _ => rfl
  | 1, _, _ => rfl
  | 2, _, _ => rfl
  | 3, _, _ => rfl
  | 4, _, _ => rfl
  | 5, _, _ => rfl
  | 6, _, _ => rfl
  | 7, _, _ => rfl
  | 8, _, _ => rfl
  | 9, _, _ => rfl
  | 10, _, _ => rfl
  | 11, _, _ => rfl
  | 12, _, _ => rfl
  | 13, _, _ => rfl
  | 14, _, _ => rfl
  | 15, _, _ => rfl
  | 16, _, h => absurd rfl h
  | 17, _, _ => rfl
  | 18, _, _ => rfl
  | 19, _, _ => rfl
  | 20, _, _ => rfl
  | b + 21, h, _ => absurd h (by omega)
theorem rO_k32 {o j : Nat} {R : rR} {x : Int32} : ∀ b, b ≤ 20 → b ≠ 17 → rO o (ra R 32 j x) b = rO o R b
  | 0, _, _ => rfl
  | 1, _, _ => rfl
  | 2, _, _ => rfl
  | 3, _, _ => rfl
  | 4, _, _ => rfl
  | 5, _, _ => rfl
  | 6, _, _ => rfl
  | 7, _, _ => rfl
  | 8, _, _ => rfl
  | 9, _, _ => rfl
  | 10, _, _ => rfl
  | 11, _, _ => rfl
  | 12, _, _ => rfl
  | 13, _, _ => rfl
  | 14, _, _ => rfl
  | 15, _, _ => rfl
  | 16, _, _ => rfl
  | 17, _, h => absurd rfl h
  | 18, _, _ => rfl
  | 19, _, _ => rfl
  | 20, _, _ => rfl
  | b + 21, h, _ => absurd h (by omega)
theorem rO_k33 {o j : Nat} {R : rR} {x : Int32} : ∀ b, b ≤ 20 → b ≠ 18 → rO o (ra R 33 j x) b = rO o R b
  | 0, _, _ => rfl
  | 1, _, _ => rfl
  | 2, _, _ => rfl
  | 3, _, _ => rfl
  | 4, _, _ => rfl
  | 5, _, _ => rfl
  | 6, _, _ => rfl
  | 7, _, _ => rfl
  | 8, _, _ => rfl
  | 9, _, _ => rfl
  | 10, _, _ => rfl
  | 11, _, _ => rfl
  | 12, _, _ => rfl
  | 13, _, _ => rfl
  | 14, _, _ => rfl
  | 15, _, _ => rfl
  | 16, _, _ => rfl
  | 17, _, _ => rfl
  | 18, _, h => absurd rfl h
  | 19, _, _ => rfl
  | 20, _, _ => rfl
  | b + 21, h, _ => absurd h (by omega)
theorem rO_k34 {o j : Nat} {R : rR} {x : Int32} : ∀ b, b ≤ 20 → b ≠ 19 → rO o (ra R 34 j x) b = rO o R b
  | 0, _, _ => rfl
  | 1, _, _ => rfl
  | 2, _, _ => rfl
  | 3, _, _ => rfl
  | 4, _, _ => rfl
  | 5, _, _ => rfl
  | 6, _, _ => rfl
  | 7, _, _ => rfl
  | 8, _, _ => rfl
  | 9, _, _ => rfl
  | 10, _, _ => rfl
  | 11, _, _ => rfl
  | 12, _, _ => rfl
  | 13, _, _ => rfl
  | 14, _, _ => rfl
  | 15, _, _ => rfl
  | 16, _, _ => rfl
  | 17, _, _ => rfl
  | 18, _, _ => rfl
  | 19, _, h => absurd rfl h
  | 20, _, _ => rfl
  | b + 21, h, _ => absurd h (by omega)
theorem rO_k35 {o j : Nat} {R : rR} {x : Int32} : ∀ b, b ≤ 20 → b ≠ 20 → rO o (ra R 35 j x) b = rO o R b
  | 0, _, _ => rfl
  | 1, _, _ => rfl
  | 2, _, _ => rfl
  | 3, _, _ => rfl
  | 4, _, _ => rfl
  | 5, _, _ => rfl
  | 6, _, _ => rfl
  | 7, _, _ => rfl
  | 8, _, _ => rfl
  | 9, _, _ => rfl
  | 10, _, _ => rfl
  | 11, _, _ => rfl
  | 12, _, _ => rfl
  | 13, _, _ => rfl
  | 14, _, _ => rfl
  | 15, _, _ => rfl
  | 16, _, _ => rfl
  | 17, _, _ => rfl
  | 18, _, _ => rfl
  | 19, _, _ => rfl
  | 20, _, h => absurd rfl h
  | b + 21, h, _ => absurd h (by omega)
theorem rO_rs {o k : Nat} {R : rR} {v : Int32} : ∀ b, b ≤ 20 → b ≠ 0 → rO o (rs R k v) b = rO o R b
  | 0, _, h => absurd rfl h
  | 1, _, _ => rfl
  | 2, _, _ => rfl
  | 3, _, _ => rfl
  | 4, _, _ => rfl
  | 5, _, _ => rfl
  | 6, _, _ => rfl
  | 7, _, _ => rfl
  | 8, _, _ => rfl
  | 9, _, _ => rfl
  | 10, _, _ => rfl
  | 11, _, _ => rfl
  | 12, _, _ => rfl
  | 13, _, _ => rfl
  | 14, _, _ => rfl
  | 15, _, _ => rfl
  | 16, _, _ => rfl
  | 17, _, _ => rfl
  | 18, _, _ => rfl
  | 19, _, _ => rfl
  | 20, _, _ => rfl
  | b + 21, h, _ => absurd h (by omega)
section RR
variable {C : jC} {y : jY} {d : Nat} {M0 : jM} {kc ks pc : Nat} {l : List (Option Value)} {st : List Value} {o : Nat} {R : rR}
theorem r_get (hC : jOK0 y d C) {idx k fin : Nat} {ty : FieldType} {v : Value} (hf : jFl y.1.cls idx 14 k ty fin) (hd : decode y.2.1 pc = .ok (.getfield idx, 3)) (hv : (rF o R)[k]? = some v) (kk : J C (rM o M0 R) kc ks (pc + 3) l (v :: st)) : J C (rM o M0 R) kc ks pc l (.ref o :: st) := j_get hC hf hd rM_0 hv kk
/-- a number whose value is known -/
theorem r_getN (hC : jOK0 y d C) {idx k fin : Nat} {ty : FieldType} {v x : Int32} (hf : jFl y.1.cls idx 14 k ty fin) (hd : decode y.2.1 pc = .ok (.getfield idx, 3)) (hv : (rF o R)[k]? = some (.int v)) (hx : v = x) (kk : J C (rM o M0 R) kc ks (pc + 3) l (.int x :: st)) : J C (rM o M0 R) kc ks pc l (.ref o :: st) := by
  subst hx
  exact j_get hC hf hd rM_0 hv kk
theorem r_put (hC : jOK0 y d C) {idx k : Nat} {ty : FieldType} {v : Int32} (hf : jFl y.1.cls idx 14 k ty 1) (hd : decode y.2.1 pc = .ok (.putfield idx, 3)) (hB : jB C ≤ o) (hn : narrow ty (.int v) = .int v) (hfit : fits ty (.int v) = true) (hs : (rF o R).set k (.int v) = rF o (rs R k v)) (kk : J C (rM o M0 (rs R k v)) kc ks (pc + 3) l st) : J C (rM o M0 R) kc ks pc l (.int v :: .ref o :: st) := by
  refine j_put hC hf hd rM_0 hB hn hfit ?_
  rw [hs]
  have h := rM_put (o := o) (M0 := M0) (R := R) (R' := rs R k v) 0 (by decide) (x := .inr (14, rF o (rs R k v))) rfl rO_rs
  rw [show o + 0 = o from rfl] at h
  rw [h]
  exact kk
theorem r_ald (hC : jOK0 y d C) {c k n j : Nat} {i : Int32} (hd : decode y.2.1 pc = .ok (.iaload, 1)) (hc : c ≤ 20) (hO : rO o R c = .inl (.int, n, fun j => .int (R.2 k j))) (hi : i = nI j) (hj : j < n) (hn : n < 2 ^ 31) (kk : J C (rM o M0 R) kc ks (pc + 1) l (.int (R.2 k j) :: st)) : J C (rM o M0 R) kc ks pc l (.int i :: .ref (o + c) :: st) := by
  subst hi
  refine j_iald hC hd ((rM_at c hc).trans (congrArg some hO)) (vp_in_nI hj (by omega)) ?_
  rw [nI_clamp (by omega)]
  exact kk
theorem r_aldN (hC : jOK0 y d C) {c k n j : Nat} {i x : Int32} (hd : decode y.2.1 pc = .ok (.iaload, 1)) (hc : c ≤ 20) (hO : rO o R c = .inl (.int, n, fun j => .int (R.2 k j))) (hi : i = nI j) (hj : j < n) (hn : n < 2 ^ 31) (hx : R.2 k j = x) (kk : J C (rM o M0 R) kc ks (pc + 1) l (.int x :: st)) : J C (rM o M0 R) kc ks pc l (.int i :: .ref (o + c) :: st) := r_ald hC hd hc hO hi hj hn (by rw [hx]; exact kk)
theorem r_zald (hC : jOK0 y d C) {c k n j : Nat} {i : Int32} (hd : decode y.2.1 pc = .ok (.baload, 1)) (hc : c ≤ 20) (hO : rO o R c = .inl (.boolean, n, fun j => .int (R.2 k j))) (hi : i = nI j) (hj : j < n) (hn : n < 2 ^ 31) (kk : J C (rM o M0 R) kc ks (pc + 1) l (.int (R.2 k j) :: st)) : J C (rM o M0 R) kc ks pc l (.int i :: .ref (o + c) :: st) := by
  subst hi
  refine j_zald hC hd ((rM_at c hc).trans (congrArg some hO)) (vp_in_nI hj (by omega)) ?_
  rw [nI_clamp (by omega)]
  exact kk
theorem r_ast (hC : jOK0 y d C) {c k n j : Nat} {i x : Int32} (hd : decode y.2.1 pc = .ok (.iastore, 1)) (hc : c ≤ 20) (hO : ∀ R : rR, rO o R c = .inl (.int, n, fun j => .int (R.2 k j))) (hk : ∀ b, b ≤ 20 → b ≠ c → rO o (ra R k j x) b = rO o R b) (hB : jB C ≤ o) (hi : i = nI j) (hj : j < n) (hn : n < 2 ^ 31) (kk : J C (rM o M0 (ra R k j x)) kc ks (pc + 1) l st) : J C (rM o M0 R) kc ks pc l (.int x :: .int i :: .ref (o + c) :: st) := by
  subst hi
  refine j_iast hC hd ((rM_at c hc).trans (congrArg some (hO R))) (by omega) (vp_in_nI hj (by omega)) ?_
  rw [nI_clamp (by omega), rM_put (R' := ra R k j x) c hc ((hO _).trans ?_) hk]
  · exact kk
  · simp [ra]
theorem r_zast (hC : jOK0 y d C) {c k n j : Nat} {i x : Int32} (hd : decode y.2.1 pc = .ok (.bastore, 1)) (hc : c ≤ 20) (hO : ∀ R : rR, rO o R c = .inl (.boolean, n, fun j => .int (R.2 k j))) (hk : ∀ b, b ≤ 20 → b ≠ c → rO o (ra R k j x) b = rO o R b) (hB : jB C ≤ o) (hi : i = nI j) (hj : j < n) (hn : n < 2 ^ 31) (hx : vp_nar .boolean x = x) (kk : J C (rM o M0 (ra R k j x)) kc ks (pc + 1) l st) : J C (rM o M0 R) kc ks pc l (.int x :: .int i :: .ref (o + c) :: st) := by
  subst hi
  refine j_zast hC hd ((rM_at c hc).trans (congrArg some (hO R))) (by omega) (vp_in_nI hj (by omega)) ?_
  rw [nI_clamp (by omega), hx, rM_put (R' := ra R k j x) c hc ((hO _).trans ?_) hk]
  · exact kk
  · simp [ra]
/-- the contracts of the reference's methods -/
def RMet (y : jY) (d : Nat) (args : List Value) (R : rR) (P : Option Value → rR → Prop) : Prop := ∀ (G : jG) (o : Nat) (M0 : jM), (gL G).stackTraces = false → gB G ≤ o → JMet G y (.ref o :: args) (rM o M0 R) 0 0 d (fun v M' => ∃ R', P v R' ∧ M' = rM o M0 R') jNo
def RI (y : jY) (d : Nat) (args : List Value) (R : rR) (x : Int32) (R' : rR) : Prop := RMet y d args R (fun v R2 => v = some (.int x) ∧ R2 = R')
def RV (y : jY) (d : Nat) (args : List Value) (R : rR) (R' : rR) : Prop := RMet y d args R (fun v R2 => v = none ∧ R2 = R')
/-- a static method of numbers alone -/
def SI (y : jY) (d : Nat) (args : List Value) (x : Int32) : Prop := ∀ (G : jG) (M : jM), (gL G).stackTraces = false → JMet G y args M 0 0 d (fun v M' => v = some (.int x) ∧ M' = M) jNo
theorem jOK0_tr (hC : jOK0 y d C) : (gL (jCG C)).stackTraces = false := by
  obtain ⟨p, e, R, s, m, args, below, meth, c, Q, G⟩ := C
  exact hC.2.2.2.2.2.2.2.2.2.2.2.1
theorem r_call (hC : jOK0 y d C) {y' : jY} {idx n d' : Nat} {As rest : List Value} {P : Option Value → rR → Prop} (hm : jMv y.1.cls idx y' n) (hd : decode y.2.1 pc = .ok (.invokevirtual idx, 3)) (hM : RMet y' d' As R P) (hy : y'.1.cls = RX10) (hn : As.length = n) (hB : jB C ≤ o) (hst : st = As.reverse ++ .ref o :: rest) (hd1 : d' + 1 ≤ d) (hrest : (rest.map fun v => v.category).sum ≤ 8)
    (kk : ∀ v R', P v R' → J C (rM o M0 R') kc ks (pc + 3) l (v.toList ++ rest)) : J C (rM o M0 R) kc ks pc l st := by
  refine j_callV hC hm hd (hM (jCG C) o M0 (jOK0_tr hC) hB) rM_0 (r := (RX10, TX10, 36)) rfl hy.symm hn hst hd1 (Nat.zero_le _) (Nat.zero_le _) hrest (fun v M' h => ?_) (fun _ _ h => h.elim)
  obtain ⟨R', h1, rfl⟩ := h
  exact kk v R' h1
theorem r_ci0 (hC : jOK0 y d C) {y' : jY} {idx d' : Nat} {x : Int32} {R' : rR} (hm : jMv y.1.cls idx y' 0) (hd : decode y.2.1 pc = .ok (.invokevirtual idx, 3)) (hM : RI y' d' [] R x R') (hB : jB C ≤ o) (hy : y'.1.cls = RX10) (hd1 : d' + 1 ≤ d) (hrest : (st.map fun v => v.category).sum ≤ 8) (kk : J C (rM o M0 R') kc ks (pc + 3) l (.int x :: st)) : J C (rM o M0 R) kc ks pc l (.ref o :: st) :=
  r_call hC hm hd hM hy rfl hB rfl hd1 hrest (fun v R2 h => by obtain ⟨rfl, rfl⟩ := h; exact kk)
theorem r_cv0 (hC : jOK0 y d C) {y' : jY} {idx d' : Nat} {R' : rR} (hm : jMv y.1.cls idx y' 0) (hd : decode y.2.1 pc = .ok (.invokevirtual idx, 3)) (hM : RV y' d' [] R R') (hB : jB C ≤ o) (hy : y'.1.cls = RX10) (hd1 : d' + 1 ≤ d) (hrest : (st.map fun v => v.category).sum ≤ 8) (kk : J C (rM o M0 R') kc ks (pc + 3) l st) : J C (rM o M0 R) kc ks pc l (.ref o :: st) :=
  r_call hC hm hd hM hy rfl hB rfl hd1 hrest (fun v R2 h => by obtain ⟨rfl, rfl⟩ := h; exact kk)
theorem s_ci0 (hC : jOK0 y d C) {M : jM} {y' : jY} {idx d' : Nat} {x : Int32} (hm : jMs y.1.cls idx y' 0) (hd : decode y.2.1 pc = .ok (.invokestatic idx, 3)) (hM : SI y' d' [] x) (hh : y'.2.2.2.2 = []) (hd1 : d' + 1 ≤ d) (hrest : (st.map fun v => v.category).sum ≤ 8) (kk : J C M kc ks (pc + 3) l (.int x :: st)) : J C M kc ks pc l (st) :=
  j_callS hC hm hh hd (hM (jCG C) M (jOK0_tr hC)) rfl rfl hd1 (Nat.zero_le _) (Nat.zero_le _) hrest (fun v M' h => by obtain ⟨rfl, rfl⟩ := h; exact kk) (fun _ _ h => h.elim)
theorem r_ci1 (hC : jOK0 y d C) {y' : jY} {idx d' : Nat} {x0 : Value} {x : Int32} {R' : rR} (hm : jMv y.1.cls idx y' 1) (hd : decode y.2.1 pc = .ok (.invokevirtual idx, 3)) (hM : RI y' d' [x0] R x R') (hB : jB C ≤ o) (hy : y'.1.cls = RX10) (hd1 : d' + 1 ≤ d) (hrest : (st.map fun v => v.category).sum ≤ 8) (kk : J C (rM o M0 R') kc ks (pc + 3) l (.int x :: st)) : J C (rM o M0 R) kc ks pc l (x0 :: .ref o :: st) :=
  r_call hC hm hd hM hy rfl hB rfl hd1 hrest (fun v R2 h => by obtain ⟨rfl, rfl⟩ := h; exact kk)
theorem r_cv1 (hC : jOK0 y d C) {y' : jY} {idx d' : Nat} {x0 : Value} {R' : rR} (hm : jMv y.1.cls idx y' 1) (hd : decode y.2.1 pc = .ok (.invokevirtual idx, 3)) (hM : RV y' d' [x0] R R') (hB : jB C ≤ o) (hy : y'.1.cls = RX10) (hd1 : d' + 1 ≤ d) (hrest : (st.map fun v => v.category).sum ≤ 8) (kk : J C (rM o M0 R') kc ks (pc + 3) l st) : J C (rM o M0 R) kc ks pc l (x0 :: .ref o :: st) :=
  r_call hC hm hd hM hy rfl hB rfl hd1 hrest (fun v R2 h => by obtain ⟨rfl, rfl⟩ := h; exact kk)
theorem s_ci1 (hC : jOK0 y d C) {M : jM} {y' : jY} {idx d' : Nat} {x0 : Value} {x : Int32} (hm : jMs y.1.cls idx y' 1) (hd : decode y.2.1 pc = .ok (.invokestatic idx, 3)) (hM : SI y' d' [x0] x) (hh : y'.2.2.2.2 = []) (hd1 : d' + 1 ≤ d) (hrest : (st.map fun v => v.category).sum ≤ 8) (kk : J C M kc ks (pc + 3) l (.int x :: st)) : J C M kc ks pc l (x0 :: st) :=
  j_callS hC hm hh hd (hM (jCG C) M (jOK0_tr hC)) rfl rfl hd1 (Nat.zero_le _) (Nat.zero_le _) hrest (fun v M' h => by obtain ⟨rfl, rfl⟩ := h; exact kk) (fun _ _ h => h.elim)
theorem r_ci2 (hC : jOK0 y d C) {y' : jY} {idx d' : Nat} {x0 x1 : Value} {x : Int32} {R' : rR} (hm : jMv y.1.cls idx y' 2) (hd : decode y.2.1 pc = .ok (.invokevirtual idx, 3)) (hM : RI y' d' [x0, x1] R x R') (hB : jB C ≤ o) (hy : y'.1.cls = RX10) (hd1 : d' + 1 ≤ d) (hrest : (st.map fun v => v.category).sum ≤ 8) (kk : J C (rM o M0 R') kc ks (pc + 3) l (.int x :: st)) : J C (rM o M0 R) kc ks pc l (x1 :: x0 :: .ref o :: st) :=
  r_call hC hm hd hM hy rfl hB rfl hd1 hrest (fun v R2 h => by obtain ⟨rfl, rfl⟩ := h; exact kk)
theorem r_cv2 (hC : jOK0 y d C) {y' : jY} {idx d' : Nat} {x0 x1 : Value} {R' : rR} (hm : jMv y.1.cls idx y' 2) (hd : decode y.2.1 pc = .ok (.invokevirtual idx, 3)) (hM : RV y' d' [x0, x1] R R') (hB : jB C ≤ o) (hy : y'.1.cls = RX10) (hd1 : d' + 1 ≤ d) (hrest : (st.map fun v => v.category).sum ≤ 8) (kk : J C (rM o M0 R') kc ks (pc + 3) l st) : J C (rM o M0 R) kc ks pc l (x1 :: x0 :: .ref o :: st) :=
  r_call hC hm hd hM hy rfl hB rfl hd1 hrest (fun v R2 h => by obtain ⟨rfl, rfl⟩ := h; exact kk)
theorem s_ci2 (hC : jOK0 y d C) {M : jM} {y' : jY} {idx d' : Nat} {x0 x1 : Value} {x : Int32} (hm : jMs y.1.cls idx y' 2) (hd : decode y.2.1 pc = .ok (.invokestatic idx, 3)) (hM : SI y' d' [x0, x1] x) (hh : y'.2.2.2.2 = []) (hd1 : d' + 1 ≤ d) (hrest : (st.map fun v => v.category).sum ≤ 8) (kk : J C M kc ks (pc + 3) l (.int x :: st)) : J C M kc ks pc l (x1 :: x0 :: st) :=
  j_callS hC hm hh hd (hM (jCG C) M (jOK0_tr hC)) rfl rfl hd1 (Nat.zero_le _) (Nat.zero_le _) hrest (fun v M' h => by obtain ⟨rfl, rfl⟩ := h; exact kk) (fun _ _ h => h.elim)
theorem r_ci3 (hC : jOK0 y d C) {y' : jY} {idx d' : Nat} {x0 x1 x2 : Value} {x : Int32} {R' : rR} (hm : jMv y.1.cls idx y' 3) (hd : decode y.2.1 pc = .ok (.invokevirtual idx, 3)) (hM : RI y' d' [x0, x1, x2] R x R') (hB : jB C ≤ o) (hy : y'.1.cls = RX10) (hd1 : d' + 1 ≤ d) (hrest : (st.map fun v => v.category).sum ≤ 8) (kk : J C (rM o M0 R') kc ks (pc + 3) l (.int x :: st)) : J C (rM o M0 R) kc ks pc l (x2 :: x1 :: x0 :: .ref o :: st) :=
  r_call hC hm hd hM hy rfl hB rfl hd1 hrest (fun v R2 h => by obtain ⟨rfl, rfl⟩ := h; exact kk)
theorem r_cv3 (hC : jOK0 y d C) {y' : jY} {idx d' : Nat} {x0 x1 x2 : Value} {R' : rR} (hm : jMv y.1.cls idx y' 3) (hd : decode y.2.1 pc = .ok (.invokevirtual idx, 3)) (hM : RV y' d' [x0, x1, x2] R R') (hB : jB C ≤ o) (hy : y'.1.cls = RX10) (hd1 : d' + 1 ≤ d) (hrest : (st.map fun v => v.category).sum ≤ 8) (kk : J C (rM o M0 R') kc ks (pc + 3) l st) : J C (rM o M0 R) kc ks pc l (x2 :: x1 :: x0 :: .ref o :: st) :=
  r_call hC hm hd hM hy rfl hB rfl hd1 hrest (fun v R2 h => by obtain ⟨rfl, rfl⟩ := h; exact kk)
theorem s_ci3 (hC : jOK0 y d C) {M : jM} {y' : jY} {idx d' : Nat} {x0 x1 x2 : Value} {x : Int32} (hm : jMs y.1.cls idx y' 3) (hd : decode y.2.1 pc = .ok (.invokestatic idx, 3)) (hM : SI y' d' [x0, x1, x2] x) (hh : y'.2.2.2.2 = []) (hd1 : d' + 1 ≤ d) (hrest : (st.map fun v => v.category).sum ≤ 8) (kk : J C M kc ks (pc + 3) l (.int x :: st)) : J C M kc ks pc l (x2 :: x1 :: x0 :: st) :=
  j_callS hC hm hh hd (hM (jCG C) M (jOK0_tr hC)) rfl rfl hd1 (Nat.zero_le _) (Nat.zero_le _) hrest (fun v M' h => by obtain ⟨rfl, rfl⟩ := h; exact kk) (fun _ _ h => h.elim)
theorem r_ci4 (hC : jOK0 y d C) {y' : jY} {idx d' : Nat} {x0 x1 x2 x3 : Value} {x : Int32} {R' : rR} (hm : jMv y.1.cls idx y' 4) (hd : decode y.2.1 pc = .ok (.invokevirtual idx, 3)) (hM : RI y' d' [x0, x1, x2, x3] R x R') (hB : jB C ≤ o) (hy : y'.1.cls = RX10) (hd1 : d' + 1 ≤ d) (hrest : (st.map fun v => v.category).sum ≤ 8) (kk : J C (rM o M0 R') kc ks (pc + 3) l (.int x :: st)) : J C (rM o M0 R) kc ks pc l (x3 :: x2 :: x1 :: x0 :: .ref o :: st) :=
  r_call hC hm hd hM hy rfl hB rfl hd1 hrest (fun v R2 h => by obtain ⟨rfl, rfl⟩ := h; exact kk)
theorem r_cv4 (hC : jOK0 y d C) {y' : jY} {idx d' : Nat} {x0 x1 x2 x3 : Value} {R' : rR} (hm : jMv y.1.cls idx y' 4) (hd : decode y.2.1 pc = .ok (.invokevirtual idx, 3)) (hM : RV y' d' [x0, x1, x2, x3] R R') (hB : jB C ≤ o) (hy : y'.1.cls = RX10) (hd1 : d' + 1 ≤ d) (hrest : (st.map fun v => v.category).sum ≤ 8) (kk : J C (rM o M0 R') kc ks (pc + 3) l st) : J C (rM o M0 R) kc ks pc l (x3 :: x2 :: x1 :: x0 :: .ref o :: st) :=
  r_call hC hm hd hM hy rfl hB rfl hd1 hrest (fun v R2 h => by obtain ⟨rfl, rfl⟩ := h; exact kk)
theorem s_ci4 (hC : jOK0 y d C) {M : jM} {y' : jY} {idx d' : Nat} {x0 x1 x2 x3 : Value} {x : Int32} (hm : jMs y.1.cls idx y' 4) (hd : decode y.2.1 pc = .ok (.invokestatic idx, 3)) (hM : SI y' d' [x0, x1, x2, x3] x) (hh : y'.2.2.2.2 = []) (hd1 : d' + 1 ≤ d) (hrest : (st.map fun v => v.category).sum ≤ 8) (kk : J C M kc ks (pc + 3) l (.int x :: st)) : J C M kc ks pc l (x3 :: x2 :: x1 :: x0 :: st) :=
  j_callS hC hm hh hd (hM (jCG C) M (jOK0_tr hC)) rfl rfl hd1 (Nat.zero_le _) (Nat.zero_le _) hrest (fun v M' h => by obtain ⟨rfl, rfl⟩ := h; exact kk) (fun _ _ h => h.elim)
theorem pk_sub_toIntL {n : Nat} (hn : n < 2 ^ 31) : (nI n - nI 1).toInt = (n : Int) - 1 := by
  by_cases h : n = 0
  · subst h; decide
  · rw [pk_sub (by omega), nI_toInt (by omega)]
    omega
/-- numbers that are counts: the sums stay counts -/
theorem n_iadd (hC : jOK0 y d C) {M : jM} {a b : Nat} (hd : decode y.2.1 pc = .ok (.iadd, 1)) (k : J C M kc ks (pc + 1) l (.int (nI (a + b)) :: st)) : J C M kc ks pc l (.int (nI b) :: .int (nI a) :: st) := j_iadd hC hd (by rw [nI_add]; exact k)
theorem n_imul (hC : jOK0 y d C) {M : jM} {a b : Nat} (hd : decode y.2.1 pc = .ok (.imul, 1)) (k : J C M kc ks (pc + 1) l (.int (nI (a * b)) :: st)) : J C M kc ks pc l (.int (nI b) :: .int (nI a) :: st) := j_imul hC hd (by rw [pk_mul]; exact k)
theorem n_isub (hC : jOK0 y d C) {M : jM} {a b : Nat} (hd : decode y.2.1 pc = .ok (.isub, 1)) (h : b ≤ a) (k : J C M kc ks (pc + 1) l (.int (nI (a - b)) :: st)) : J C M kc ks pc l (.int (nI b) :: .int (nI a) :: st) := j_isub hC hd (by rw [pk_sub h]; exact k)
theorem n_icmp_eq (hC : jOK0 y d C) {M : jM} {a b : Nat} {off : Int} {tgt : Nat} (hd : decode y.2.1 pc = .ok (.if_icmp .eq off, 3)) (ht : (pc : Int) + off = (tgt : Int)) (ha : a < 2 ^ 31) (hb : b < 2 ^ 31) (kt : a = b → J C M kc ks tgt l st) (kf : ¬ a = b → J C M kc ks (pc + 3) l st) : J C M kc ks pc l (.int (nI b) :: .int (nI a) :: st) := j_icmp_eq hC hd ht (fun h => kt ((nI_eq ha hb).mp h)) (fun h => kf (fun e => h ((nI_eq ha hb).mpr e)))
theorem n_icmp_ne (hC : jOK0 y d C) {M : jM} {a b : Nat} {off : Int} {tgt : Nat} (hd : decode y.2.1 pc = .ok (.if_icmp .ne off, 3)) (ht : (pc : Int) + off = (tgt : Int)) (ha : a < 2 ^ 31) (hb : b < 2 ^ 31) (kt : ¬ a = b → J C M kc ks tgt l st) (kf : a = b → J C M kc ks (pc + 3) l st) : J C M kc ks pc l (.int (nI b) :: .int (nI a) :: st) := j_icmp_ne hC hd ht (fun h => kt (fun e => h ((nI_eq ha hb).mpr e))) (fun h => kf ((nI_eq ha hb).mp h))
theorem n_icmp_lt (hC : jOK0 y d C) {M : jM} {a b : Nat} {off : Int} {tgt : Nat} (hd : decode y.2.1 pc = .ok (.if_icmp .lt off, 3)) (ht : (pc : Int) + off = (tgt : Int)) (ha : a < 2 ^ 31) (hb : b < 2 ^ 31) (kt : a < b → J C M kc ks tgt l st) (kf : b ≤ a → J C M kc ks (pc + 3) l st) : J C M kc ks pc l (.int (nI b) :: .int (nI a) :: st) := j_icmp_lt hC hd ht (fun h => kt ((nI_ltI ha hb).mp h)) (fun h => kf (Nat.not_lt.mp (fun e => h ((nI_ltI ha hb).mpr e))))
theorem n_icmp_ge (hC : jOK0 y d C) {M : jM} {a b : Nat} {off : Int} {tgt : Nat} (hd : decode y.2.1 pc = .ok (.if_icmp .ge off, 3)) (ht : (pc : Int) + off = (tgt : Int)) (ha : a < 2 ^ 31) (hb : b < 2 ^ 31) (kt : b ≤ a → J C M kc ks tgt l st) (kf : a < b → J C M kc ks (pc + 3) l st) : J C M kc ks pc l (.int (nI b) :: .int (nI a) :: st) := j_icmp_ge hC hd ht (fun h => kt ((nI_leI hb ha).mp h)) (fun h => kf (Nat.not_le.mp (fun e => h ((nI_leI hb ha).mpr e))))
theorem n_icmp_gt (hC : jOK0 y d C) {M : jM} {a b : Nat} {off : Int} {tgt : Nat} (hd : decode y.2.1 pc = .ok (.if_icmp .gt off, 3)) (ht : (pc : Int) + off = (tgt : Int)) (ha : a < 2 ^ 31) (hb : b < 2 ^ 31) (kt : b < a → J C M kc ks tgt l st) (kf : a ≤ b → J C M kc ks (pc + 3) l st) : J C M kc ks pc l (.int (nI b) :: .int (nI a) :: st) := j_icmp_gt hC hd ht (fun h => kt ((nI_ltI hb ha).mp h)) (fun h => kf (Nat.not_lt.mp (fun e => h ((nI_ltI hb ha).mpr e))))
theorem n_icmp_le (hC : jOK0 y d C) {M : jM} {a b : Nat} {off : Int} {tgt : Nat} (hd : decode y.2.1 pc = .ok (.if_icmp .le off, 3)) (ht : (pc : Int) + off = (tgt : Int)) (ha : a < 2 ^ 31) (hb : b < 2 ^ 31) (kt : a ≤ b → J C M kc ks tgt l st) (kf : b < a → J C M kc ks (pc + 3) l st) : J C M kc ks pc l (.int (nI b) :: .int (nI a) :: st) := j_icmp_le hC hd ht (fun h => kt ((nI_leI ha hb).mp h)) (fun h => kf (Nat.not_le.mp (fun e => h ((nI_leI ha hb).mpr e))))
/-- another name of the state, of the top -/
theorem j_R {R R' : rR} (h : R = R') (kk : J C (rM o M0 R') kc ks pc l st) : J C (rM o M0 R) kc ks pc l st := h ▸ kk
theorem j_top {M : jM} {x x' : Int32} (h : x = x') (kk : J C M kc ks pc l (.int x' :: st)) : J C M kc ks pc l (.int x :: st) := h ▸ kk
theorem j_top2 {M : jM} {v : Value} {x x' : Int32} (h : x = x') (kk : J C M kc ks pc l (v :: .int x' :: st)) : J C M kc ks pc l (v :: .int x :: st) := h ▸ kk
/-- less is known of the locals -/
def jle (l' l : List (Option Value)) : Prop := ∀ (i : Nat) (v : Value), l'[i]? = some (some v) → l[i]? = some (some v)
theorem jle_0 {l : List (Option Value)} : jle [] l := fun i v h => by simp at h
theorem jle_s {x : Option Value} {l' l : List (Option Value)} (h : jle l' l) : jle (x :: l') (x :: l) := fun i v hi => by
  cases i with
  | zero => simpa using hi
  | succ i => simpa using h i v (by simpa using hi)
theorem jle_n {x : Option Value} {l' l : List (Option Value)} (h : jle l' l) : jle (none :: l') (x :: l) := fun i v hi => by
  cases i with
  | zero => simp at hi
  | succ i => simpa using h i v (by simpa using hi)
theorem j_L {M : jM} {l' : List (Option Value)} (h : jle l' l) (kk : J C M kc ks pc l' st) : J C M kc ks pc l st := by
  obtain ⟨p, e, R, s, m, args, below, meth, c, Q, G⟩ := C
  intro H locs cells slots ls h1 h2 h3 h4 h5
  exact kk H locs cells slots ls h1 h2 (jl_sub h3 (fun i v hi => (jl_mem l 0 (i, v)).mpr ⟨i, h i v hi, by simp⟩)) h4 h5
/-- a truth value -/
def jb (p : Prop) [Decidable p] : Int32 := if p then 1 else 0
theorem jb_t {p : Prop} [Decidable p] (h : p) : jb p = 1 := if_pos h
theorem jb_f {p : Prop} [Decidable p] (h : ¬ p) : jb p = 0 := if_neg h
theorem jb_t1 {p : Prop} [Decidable p] (h : p) : nI 1 = jb p := (jb_t h).symm
theorem jb_f0 {p : Prop} [Decidable p] (h : ¬ p) : nI 0 = jb p := (jb_f h).symm
theorem jb_if_eq (hC : jOK0 y d C) {M : jM} {p : Prop} [Decidable p] {off : Int} {tgt : Nat} (hd : decode y.2.1 pc = .ok (.ifCond .eq off, 3)) (ht : (pc : Int) + off = (tgt : Int)) (kt : ¬ p → J C M kc ks tgt l st) (kf : p → J C M kc ks (pc + 3) l st) : J C M kc ks pc l (.int (jb p) :: st) := j_if_eq hC hd ht (fun h => kt (fun e => by rw [jb_t e] at h; exact absurd h (by decide))) (fun h => kf (Classical.byContradiction fun e => h (jb_f e)))
theorem jb_if_ne (hC : jOK0 y d C) {M : jM} {p : Prop} [Decidable p] {off : Int} {tgt : Nat} (hd : decode y.2.1 pc = .ok (.ifCond .ne off, 3)) (ht : (pc : Int) + off = (tgt : Int)) (kt : p → J C M kc ks tgt l st) (kf : ¬ p → J C M kc ks (pc + 3) l st) : J C M kc ks pc l (.int (jb p) :: st) := j_if_ne hC hd ht (fun h => kt (Classical.byContradiction fun e => h (jb_f e))) (fun h => kf (fun e => by rw [jb_t e] at h; exact absurd h (by decide)))
theorem jb_nar {p : Prop} [Decidable p] : narrow .boolean (.int (jb p)) = .int (jb p) := by
  unfold jb
  split <;> rfl
theorem jb_congr {p q : Prop} [Decidable p] [Decidable q] (h : p ↔ q) : jb p = jb q := by
  by_cases hp : p
  · rw [jb_t hp, jb_t (h.mp hp)]
  · rw [jb_f hp, jb_f (fun e => hp (h.mpr e))]
theorem jb_inN {a b c : Nat} (ha : a < 2 ^ 31) (hb : b < 2 ^ 31) (hc : c < 2 ^ 31) : jb (nI a ≤ nI c ∧ nI c ≤ nI b) = jb (a ≤ c ∧ c ≤ b) := jb_congr (and_congr (nI_leI ha hc) (nI_leI hc hb))
end RR
/-- a whole row set anew -/
def rA (R : rR) (k : Nat) (f : Nat → Int32) : rR := (R.1, fun j => if j = k then f else R.2 j)
theorem rA_self {R : rR} {k : Nat} : rA R k (R.2 k) = R := by
  refine Prod.ext rfl (funext fun j => ?_)
  by_cases h : j = k <;> simp [rA, h]
theorem rA_ra {R : rR} {k i : Nat} {f : Nat → Int32} {v : Int32} : ra (rA R k f) k i v = rA R k (upd f i v) := by
  refine Prod.ext rfl (funext fun j => ?_)
  by_cases h : j = k <;> simp [rA, ra, h]
theorem ra_rA {R : rR} {k i : Nat} {v : Int32} : ra R k i v = rA R k (upd (R.2 k) i v) := by
  refine Prod.ext rfl (funext fun j => ?_)
  by_cases h : j = k
  · subst h; simp [rA, ra]
  · simp [rA, ra, h]
theorem rA_rA {R : rR} {k : Nat} {f g : Nat → Int32} : rA (rA R k f) k g = rA R k g := by
  refine Prod.ext rfl (funext fun j => ?_)
  by_cases h : j = k <;> simp [rA, h]
theorem rA_at {R : rR} {k : Nat} {f : Nat → Int32} : (rA R k f).2 k = f := by simp [rA]
theorem rA_ne {R : rR} {k j : Nat} {f : Nat → Int32} (h : j ≠ k) : (rA R k f).2 j = R.2 j := by simp [rA, h]
theorem rA_eq {R : rR} {k : Nat} {f g : Nat → Int32} (h : f = g) : rA R k f = rA R k g := h ▸ rfl
theorem vp_in_dec (i : Int32) (n : Nat) : (vp_in i n) ↔ (¬ (i < 0 ∨ n ≤ i.toNatClampNeg)) := Iff.rfl
def jin (i : Int32) (n : Nat) : Bool := !(decide (i < 0)) && decide (i.toNatClampNeg < n)
theorem jin_iff {i : Int32} {n : Nat} : jin i n = true ↔ vp_in i n := by
  simp only [jin, vp_in, Bool.and_eq_true, Bool.not_eq_true', decide_eq_false_iff_not, decide_eq_true_eq, not_or, Nat.not_le]
theorem jin_of {i : Int32} {n : Nat} (h : jin i n = true) (hn : n < 2 ^ 31) : ∃ j : Nat, j < n ∧ i = nI j := vp_in_of (jin_iff.mp h) hn
theorem jin_nI {n k : Nat} (hk : k < 2 ^ 31) : jin (nI k) n = decide (k < n) := by
  simp only [jin, nI_clamp hk, decide_eq_false (nI_pos hk), Bool.not_false, Bool.true_and]
/-- 'in(v, 0, n - 1)' -/
theorem jb_in {v : Int32} {n : Nat} (hn : n < 2 ^ 31) : jb (nI 0 ≤ v ∧ v ≤ nI n - nI 1) = jb (jin v n = true) := by
  refine jb_congr ?_
  rw [jin_iff, vp_in_iff]
  have e : (nI n - nI 1).toInt = (n : Int) - 1 := pk_sub_toIntL hn
  rw [Int32.le_iff_toInt_le, Int32.le_iff_toInt_le, e]
  show (0 : Int) ≤ _ ∧ _ ↔ _
  omega
theorem jb_in9 {v : Int32} {n : Nat} (hn : n + 1 < 2 ^ 31) : jb (nI 0 ≤ v ∧ v ≤ nI n) = jb (jin v (n + 1) = true) := by
  have h := jb_in (v := v) hn
  rwa [show nI (n + 1) - nI 1 = nI n from (pk_sub (by omega)).trans (by rw [Nat.add_sub_cancel])] at h
