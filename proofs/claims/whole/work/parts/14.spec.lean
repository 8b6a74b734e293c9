/-! ===== THE MEANING: what a setup is, in numbers and lists ===== -/
/-- a record: group, count, the five fields -/
abbrev aRec : Type := Nat × Nat × (Nat → List Nat)
/-- records, keys, policy, excluded groups, limit, home country, template's text -/
abbrev aSet : Type := List aRec × Nat × Nat × Nat × Nat × List Nat × List Nat
abbrev sRecs (S : aSet) : List aRec := S.1
abbrev sKeys (S : aSet) : Nat := S.2.1
abbrev sPol (S : aSet) : Nat := S.2.2.1
abbrev sOut (S : aSet) : Nat := S.2.2.2.1
abbrev sLim (S : aSet) : Nat := S.2.2.2.2.1
abbrev sHome (S : aSet) : List Nat := S.2.2.2.2.2.1
abbrev sTmpl (S : aSet) : List Nat := S.2.2.2.2.2.2
def rec0 : aRec := (0, 0, fun _ => [])
def sAt (S : aSet) (r : Nat) : aRec := (sRecs S).getD r rec0
def recOK (q : aRec) : Prop := q.1 < 10 ∧ q.2.1 < 100 ∧ ∀ f, f < 5 → (q.2.2 f).length ≤ 12 ∧ ∀ c ∈ q.2.2 f, 32 ≤ c ∧ c ≤ 126
def setOK (S : aSet) : Prop := (sRecs S).length ≤ 20 ∧ sKeys S < 32 ∧ sPol S < 3 ∧ sOut S < 1024 ∧ (1 ≤ sLim S ∧ sLim S ≤ 200) ∧ ((sHome S).length ≤ 12 ∧ ∀ c ∈ sHome S, 32 ≤ c ∧ c ≤ 126) ∧ ((sTmpl S).length ≤ 120 ∧ ∀ c ∈ sTmpl S, 32 ≤ c ∧ c ≤ 126) ∧ ∀ q ∈ sRecs S, recOK q
/-- a text in a row of the reference, from place b on -/
def txRep (A : Nat → Int32) (b : Nat) (t : List Nat) : Prop := ∀ i, i < t.length → A (b + i) = nI (t.getD i 0)
def recRep (A : Nat → Int32) (b : Nat) (q : aRec) : Prop := A b = nI q.1 ∧ A (b + 1) = nI q.2.1 ∧ ∀ f, f < 5 → A (b + 2 + f) = nI (q.2.2 f).length ∧ txRep A (b + 7 + 12 * f) (q.2.2 f)
def rowRep (A : Nat → Int32) (b : Nat) (S : aSet) : Prop := A b = nI (sRecs S).length ∧ A (b + 1) = nI (sKeys S) ∧ A (b + 2) = nI (sPol S) ∧ A (b + 3) = nI (sOut S) ∧ A (b + 4) = nI (sLim S) ∧ A (b + 5) = nI (sHome S).length ∧ txRep A (b + 6) (sHome S) ∧ A (b + 18) = nI (sTmpl S).length ∧ txRep A (b + 19) (sTmpl S) ∧ ∀ r, r < (sRecs S).length → recRep A (b + 139 + 67 * r) (sAt S r)
/-- the present setup of the reference -/
def rPre (R : rR) (S : aSet) : Prop := rowRep (R.2 1) 0 S ∧ setOK S
section RP
variable {R : rR} {S : aSet} {r f i : Nat}
theorem rp_many (h : rPre R S) : R.2 1 0 = nI (sRecs S).length := h.1.1
theorem rp_keys (h : rPre R S) : R.2 1 1 = nI (sKeys S) := h.1.2.1
theorem rp_pol (h : rPre R S) : R.2 1 2 = nI (sPol S) := h.1.2.2.1
theorem rp_out (h : rPre R S) : R.2 1 3 = nI (sOut S) := h.1.2.2.2.1
theorem rp_lim (h : rPre R S) : R.2 1 4 = nI (sLim S) := h.1.2.2.2.2.1
theorem rp_home (h : rPre R S) : R.2 1 5 = nI (sHome S).length := h.1.2.2.2.2.2.1
theorem rp_homeC (h : rPre R S) (hi : i < (sHome S).length) : R.2 1 (6 + i) = nI ((sHome S).getD i 0) := by
  have := h.1.2.2.2.2.2.2.1 i hi
  rwa [Nat.zero_add] at this
theorem rp_tmpl (h : rPre R S) : R.2 1 18 = nI (sTmpl S).length := h.1.2.2.2.2.2.2.2.1
theorem rp_tmplC (h : rPre R S) (hi : i < (sTmpl S).length) : R.2 1 (19 + i) = nI ((sTmpl S).getD i 0) := by
  have := h.1.2.2.2.2.2.2.2.2.1 i hi
  rwa [Nat.zero_add] at this
theorem rp_rec (h : rPre R S) (hr : r < (sRecs S).length) : recRep (R.2 1) (139 + 67 * r) (sAt S r) := by
  have := h.1.2.2.2.2.2.2.2.2.2 r hr
  rwa [Nat.zero_add] at this
theorem rp_group (h : rPre R S) (hr : r < (sRecs S).length) : R.2 1 (139 + 67 * r) = nI (sAt S r).1 := (rp_rec h hr).1
theorem rp_count (h : rPre R S) (hr : r < (sRecs S).length) : R.2 1 (139 + 67 * r + 1) = nI (sAt S r).2.1 := (rp_rec h hr).2.1
theorem rp_long (h : rPre R S) (hr : r < (sRecs S).length) (hf : f < 5) : R.2 1 (139 + 67 * r + 2 + f) = nI ((sAt S r).2.2 f).length := ((rp_rec h hr).2.2 f hf).1
theorem rp_char (h : rPre R S) (hr : r < (sRecs S).length) (hf : f < 5) (hi : i < ((sAt S r).2.2 f).length) : R.2 1 (139 + 67 * r + 7 + 12 * f + i) = nI (((sAt S r).2.2 f).getD i 0) := by
  have := ((rp_rec h hr).2.2 f hf).2 i hi
  exact this
theorem rp_n20 (h : rPre R S) : (sRecs S).length ≤ 20 := h.2.1
theorem rp_recOK (h : rPre R S) (hr : r < (sRecs S).length) : recOK (sAt S r) := by
  refine h.2.2.2.2.2.2.2.2 _ ?_
  rw [sAt, List.getD_eq_getElem?_getD, List.getElem?_eq_getElem hr]
  exact List.getElem_mem hr
theorem rp_r20 (h : rPre R S) (hr : r < (sRecs S).length) : r < 20 := Nat.lt_of_lt_of_le hr h.2.1
theorem rp_l12 (h : rPre R S) (hr : r < (sRecs S).length) (hf : f < 5) : ((sAt S r).2.2 f).length ≤ 12 := ((rp_recOK h hr).2.2 f hf).1
end RP
theorem j_dec {a b : Nat} (h : b ≤ a) : nI a + Int32.ofInt (-(b : Int)) = nI (a - b) := by
  have e : Int32.ofInt (-(b : Int)) = -nI b := by
    rw [Int32.ofInt_neg]
    rfl
  rw [e, ← Int32.sub_eq_add_neg, pk_sub h]
theorem getD_lt126 {t : List Nat} {i : Nat} (h : ∀ c ∈ t, 32 ≤ c ∧ c ≤ 126) (hi : i < t.length) : 32 ≤ t.getD i 0 ∧ t.getD i 0 ≤ 126 := by
  rw [List.getD_eq_getElem?_getD, List.getElem?_eq_getElem hi]
  exact h _ (List.getElem_mem hi)
