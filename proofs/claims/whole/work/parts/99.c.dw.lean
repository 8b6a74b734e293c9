/-! ===== the start: what never changes ===== -/
section ST2
variable {s : State} {args : Array Value}
def txS (i : Nat) : List Nat := if i = 4 then litT else []
def idS (i : Nat) : Nat := if i = 0 then 0 else if i = 1 then 5 else if i = 2 then 18 else if i = 3 then 22 else 19
theorem txS_ok (i : Nat) : tOK (txS i) := by
  unfold txS
  split
  · exact ⟨by decide, by decide⟩
  · exact ⟨by decide, fun c hc => absurd hc List.not_mem_nil⟩
theorem txS_len {i j : Nat} (h : (txS i).length = (txS j).length) : txS i = txS j := by
  unfold txS at h ⊢
  split <;> split <;> first | rfl | (rename_i h1 h2; simp only [h1, h2, if_true, if_false] at h; exact absurd h (by decide))
theorem kind_KV {G : jG} {a : Nat} {fs : List Value} {n : Nat} {ty : FieldType} {f : Nat → Value} (hG0 : u_Kn s RJ0 TJ0 4 (gC G 0) (gS G 0)) (h1 : jWk s G a (.inr (0, fs)) s.heap) (h2 : jWk s G a (.inl (ty, n, f)) s.heap) : False := by
  obtain ⟨r, cell, q1, q2, q3, -⟩ := h1
  obtain ⟨ca, r1, ⟨-, k, r2, comp, r3⟩, -⟩ := h2
  cases Option.some.inj (q2.symm.trans r1)
  obtain ⟨-, kC, g1, g2⟩ := hG0.2
  rw [q3, g1] at r2
  cases r2
  rw [g2] at r3
  cases r3
theorem kind_VV {G : jG} {a n n' : Nat} {ty ty' : FieldType} {f f' : Nat → Value} (h1 : jWk s G a (.inl (ty, n, f)) s.heap) (h2 : jWk s G a (.inl (ty', n', f')) s.heap) : ty = ty' ∧ Int32.ofNat n = Int32.ofNat n' := by
  obtain ⟨ca, q1, ⟨-, k, q2, comp, q3⟩, -, -, q5, -⟩ := h1
  obtain ⟨cb, r1, ⟨-, k', r2, comp', r3⟩, -, -, r5, -⟩ := h2
  cases Option.some.inj (q1.symm.trans r1)
  cases Option.some.inj (q2.symm.trans r2)
  rw [q3] at r3
  cases r3
  exact ⟨rfl, q5.symm.trans r5⟩
theorem same_K {G : jG} {a v v' : Nat} {w w' : Value} (h1 : jWk s G a (.inr (0, [.ref v, w])) s.heap) (h2 : jWk s G a (.inr (0, [.ref v', w'])) s.heap) : v = v' := by
  obtain ⟨r, cell, q1, q2, -, -, -, q6⟩ := h1
  obtain ⟨r', cell', r1, r2, -, -, -, r6⟩ := h2
  cases Option.some.inj (q2.symm.trans r2)
  cases q1
  cases r1
  have e := (q6 0 _ (by decide) rfl).symm.trans (r6 0 _ (by decide) rfl)
  injection e with e
  injection e
theorem st_Z {G : jG} {K V : Nat → Nat} {b L : Nat} {f : Nat → Value} (hG0 : u_Kn s RJ0 TJ0 4 (gC G 0) (gS G 0)) (hk : ∀ i, i < 5 → jWk s G (K i) (.inr (0, [.ref (V i), .int 0])) s.heap) (hv : ∀ i, i < 5 → jWk s G (V i) (.inl (.byte, (txS i).length, fun j => .int (tCh (txS i) j))) s.heap) (hb : jWk s G b (.inl (.int, L, f)) s.heap) : ∃ Z : jH, (∀ a o, Z a = some o → jWk s G a o s.heap) ∧ Z b = none ∧ ∀ i, i < 5 → strR Z (K i) (txS i) := by
  classical
  have hVV : ∀ i j, i < 5 → j < 5 → V i = V j → txS i = txS j := fun i j hi hj e => by
    have h1 := hv i hi
    rw [e] at h1
    have h2 := (kind_VV h1 (hv j hj)).2
    refine txS_len ?_
    have hl : ∀ i, (txS i).length < 2 ^ 31 := fun i => Nat.lt_of_le_of_lt (txS_ok i).1 (by decide)
    exact (nI_eq (hl i) (hl j)).mp h2
  let Z : jH := fun a => if h : ∃ i, i < 5 ∧ a = V i then some (.inl (.byte, (txS h.choose).length, fun j => .int (tCh (txS h.choose) j))) else if h2 : ∃ i, i < 5 ∧ a = K i then some (.inr (0, [.ref (V h2.choose), .int 0])) else none
  have zV : ∀ i, i < 5 → Z (V i) = some (.inl (.byte, (txS i).length, fun j => .int (tCh (txS i) j))) := fun i hi => by
    have h : ∃ i', i' < 5 ∧ V i = V i' := ⟨i, hi, rfl⟩
    have e : txS h.choose = txS i := hVV _ _ h.choose_spec.1 hi h.choose_spec.2.symm
    show (if h : ∃ i', i' < 5 ∧ V i = V i' then _ else _) = _
    rw [dif_pos h, e]
  have zK : ∀ i, i < 5 → Z (K i) = some (.inr (0, [.ref (V i), .int 0])) := fun i hi => by
    have h : ¬ ∃ i', i' < 5 ∧ K i = V i' := fun ⟨j, hj, e⟩ => by
      have h1 := hk i hi
      rw [e] at h1
      exact kind_KV hG0 h1 (hv j hj)
    have h2 : ∃ i', i' < 5 ∧ K i = K i' := ⟨i, hi, rfl⟩
    have e : V h2.choose = V i := by
      have h3 := hk _ h2.choose_spec.1
      rw [← h2.choose_spec.2] at h3
      exact same_K h3 (hk i hi)
    show (if h : ∃ i', i' < 5 ∧ K i = V i' then _ else if h2 : ∃ i', i' < 5 ∧ K i = K i' then _ else _) = _
    rw [dif_neg h, dif_pos h2, e]
  refine ⟨Z, fun a o ha => ?_, ?_, fun i hi => ⟨⟨V i, _, zK i hi, rfl, rfl, zV i hi⟩, txS_ok i⟩⟩
  · by_cases h : ∃ i, i < 5 ∧ a = V i
    · obtain ⟨i, hi, rfl⟩ := h
      rw [zV i hi] at ha
      cases ha
      exact hv i hi
    · by_cases h2 : ∃ i, i < 5 ∧ a = K i
      · obtain ⟨i, hi, rfl⟩ := h2
        rw [zK i hi] at ha
        cases ha
        exact hk i hi
      · have ha' : (if h : ∃ i', i' < 5 ∧ a = V i' then _ else if h2 : ∃ i', i' < 5 ∧ a = K i' then _ else none) = some o := ha
        rw [dif_neg h, dif_neg h2] at ha'
        cases ha'
  · show (if h : ∃ i', i' < 5 ∧ b = V i' then _ else if h2 : ∃ i', i' < 5 ∧ b = K i' then _ else none) = none
    rw [dif_neg, dif_neg]
    · rintro ⟨i, hi, rfl⟩
      exact kind_KV hG0 (hk i hi) hb
    · rintro ⟨i, hi, rfl⟩
      exact absurd (kind_VV (hv i hi) hb).1 (by decide)
theorem elS : ∀ j, j < (txS 4).length → Cond.eq (.elem (.field (.string "MailMerge$TemplateReader" 163) "java/lang/String" "value" "[B") (.int (Int32.ofNat j))) (.int (tCh (txS 4) j)) ∈ nrw := by decide +kernel
theorem st_s0 (hgv : (Jvm.Cond.and given_1 narrow_1).before args s = true) {G : jG} (hG0 : u_Kn s RJ0 TJ0 4 (gC G 0) (gS G 0)) (hK : ∀ (i : Nat) (q : String × Nat × String), jCs[i]? = some q → vk_R q.1 q.2.1 q.2.2 (gK G i) s) : ∃ V, jWk s G (gK G 0) (.inr (0, [.ref V, .int 0])) s.heap ∧ jWk s G V (.inl (.byte, (txS 0).length, fun j => .int (tCh (txS 0) j))) s.heap := by
  have hnr := flat_of_before _ hgv
  exact st_one (args := args) (own := "MailMerge$Setup") (k := 35) (t := txS 0) hG0 (show (Term.string "MailMerge$Setup" 35).eval args s none [] s = _ from (hK 0 _ rfl).2) (by decide) (hnr _ (by decide +kernel : Cond.exactly (.string "MailMerge$Setup" 35) "java/lang/String" ∈ nrw)) (hnr _ (by decide +kernel : Cond.eq (.field (.string "MailMerge$Setup" 35) "java/lang/String" "coder" "B") (.int 0) ∈ nrw)) (hnr _ (by decide +kernel : Cond.arrayOf (.field (.string "MailMerge$Setup" 35) "java/lang/String" "value" "[B") .byte ∈ nrw)) (hnr _ (by decide +kernel : Cond.eq (.length (.field (.string "MailMerge$Setup" 35) "java/lang/String" "value" "[B")) (.int (Int32.ofNat (txS 0).length)) ∈ nrw)) (fun j hj => absurd hj (Nat.not_lt_zero j))
theorem st_s1 (hgv : (Jvm.Cond.and given_1 narrow_1).before args s = true) {G : jG} (hG0 : u_Kn s RJ0 TJ0 4 (gC G 0) (gS G 0)) (hK : ∀ (i : Nat) (q : String × Nat × String), jCs[i]? = some q → vk_R q.1 q.2.1 q.2.2 (gK G i) s) : ∃ V, jWk s G (gK G 5) (.inr (0, [.ref V, .int 0])) s.heap ∧ jWk s G V (.inl (.byte, (txS 1).length, fun j => .int (tCh (txS 1) j))) s.heap := by
  have hnr := flat_of_before _ hgv
  exact st_one (args := args) (own := "MailMerge$Entry") (k := 11) (t := txS 1) hG0 (show (Term.string "MailMerge$Entry" 11).eval args s none [] s = _ from (hK 5 _ rfl).2) (by decide) (hnr _ (by decide +kernel : Cond.exactly (.string "MailMerge$Entry" 11) "java/lang/String" ∈ nrw)) (hnr _ (by decide +kernel : Cond.eq (.field (.string "MailMerge$Entry" 11) "java/lang/String" "coder" "B") (.int 0) ∈ nrw)) (hnr _ (by decide +kernel : Cond.arrayOf (.field (.string "MailMerge$Entry" 11) "java/lang/String" "value" "[B") .byte ∈ nrw)) (hnr _ (by decide +kernel : Cond.eq (.length (.field (.string "MailMerge$Entry" 11) "java/lang/String" "value" "[B")) (.int (Int32.ofNat (txS 1).length)) ∈ nrw)) (fun j hj => absurd hj (Nat.not_lt_zero j))
theorem st_s2 (hgv : (Jvm.Cond.and given_1 narrow_1).before args s = true) {G : jG} (hG0 : u_Kn s RJ0 TJ0 4 (gC G 0) (gS G 0)) (hK : ∀ (i : Nat) (q : String × Nat × String), jCs[i]? = some q → vk_R q.1 q.2.1 q.2.2 (gK G i) s) : ∃ V, jWk s G (gK G 18) (.inr (0, [.ref V, .int 0])) s.heap ∧ jWk s G V (.inl (.byte, (txS 2).length, fun j => .int (tCh (txS 2) j))) s.heap := by
  have hnr := flat_of_before _ hgv
  exact st_one (args := args) (own := "MailMerge$Piece") (k := 20) (t := txS 2) hG0 (show (Term.string "MailMerge$Piece" 20).eval args s none [] s = _ from (hK 18 _ rfl).2) (by decide) (hnr _ (by decide +kernel : Cond.exactly (.string "MailMerge$Piece" 20) "java/lang/String" ∈ nrw)) (hnr _ (by decide +kernel : Cond.eq (.field (.string "MailMerge$Piece" 20) "java/lang/String" "coder" "B") (.int 0) ∈ nrw)) (hnr _ (by decide +kernel : Cond.arrayOf (.field (.string "MailMerge$Piece" 20) "java/lang/String" "value" "[B") .byte ∈ nrw)) (hnr _ (by decide +kernel : Cond.eq (.length (.field (.string "MailMerge$Piece" 20) "java/lang/String" "value" "[B")) (.int (Int32.ofNat (txS 2).length)) ∈ nrw)) (fun j hj => absurd hj (Nat.not_lt_zero j))
theorem st_s3 (hgv : (Jvm.Cond.and given_1 narrow_1).before args s = true) {G : jG} (hG0 : u_Kn s RJ0 TJ0 4 (gC G 0) (gS G 0)) (hK : ∀ (i : Nat) (q : String × Nat × String), jCs[i]? = some q → vk_R q.1 q.2.1 q.2.2 (gK G i) s) : ∃ V, jWk s G (gK G 22) (.inr (0, [.ref V, .int 0])) s.heap ∧ jWk s G V (.inl (.byte, (txS 3).length, fun j => .int (tCh (txS 3) j))) s.heap := by
  have hnr := flat_of_before _ hgv
  exact st_one (args := args) (own := "MailMerge$TemplateReader") (k := 154) (t := txS 3) hG0 (show (Term.string "MailMerge$TemplateReader" 154).eval args s none [] s = _ from (hK 22 _ rfl).2) (by decide) (hnr _ (by decide +kernel : Cond.exactly (.string "MailMerge$TemplateReader" 154) "java/lang/String" ∈ nrw)) (hnr _ (by decide +kernel : Cond.eq (.field (.string "MailMerge$TemplateReader" 154) "java/lang/String" "coder" "B") (.int 0) ∈ nrw)) (hnr _ (by decide +kernel : Cond.arrayOf (.field (.string "MailMerge$TemplateReader" 154) "java/lang/String" "value" "[B") .byte ∈ nrw)) (hnr _ (by decide +kernel : Cond.eq (.length (.field (.string "MailMerge$TemplateReader" 154) "java/lang/String" "value" "[B")) (.int (Int32.ofNat (txS 3).length)) ∈ nrw)) (fun j hj => absurd hj (Nat.not_lt_zero j))
theorem st_s4 (hgv : (Jvm.Cond.and given_1 narrow_1).before args s = true) {G : jG} (hG0 : u_Kn s RJ0 TJ0 4 (gC G 0) (gS G 0)) (hK : ∀ (i : Nat) (q : String × Nat × String), jCs[i]? = some q → vk_R q.1 q.2.1 q.2.2 (gK G i) s) : ∃ V, jWk s G (gK G 19) (.inr (0, [.ref V, .int 0])) s.heap ∧ jWk s G V (.inl (.byte, (txS 4).length, fun j => .int (tCh (txS 4) j))) s.heap := by
  have hnr := flat_of_before _ hgv
  exact st_one (args := args) (own := "MailMerge$TemplateReader") (k := 163) (t := txS 4) hG0 (show (Term.string "MailMerge$TemplateReader" 163).eval args s none [] s = _ from (hK 19 _ rfl).2) (by decide) (hnr _ (by decide +kernel : Cond.exactly (.string "MailMerge$TemplateReader" 163) "java/lang/String" ∈ nrw)) (hnr _ (by decide +kernel : Cond.eq (.field (.string "MailMerge$TemplateReader" 163) "java/lang/String" "coder" "B") (.int 0) ∈ nrw)) (hnr _ (by decide +kernel : Cond.arrayOf (.field (.string "MailMerge$TemplateReader" 163) "java/lang/String" "value" "[B") .byte ∈ nrw)) (hnr _ (by decide +kernel : Cond.eq (.length (.field (.string "MailMerge$TemplateReader" 163) "java/lang/String" "value" "[B")) (.int (Int32.ofNat (txS 4).length)) ∈ nrw)) (fun j hj => hnr _ (elS j hj))
theorem st_five (hgv : (Jvm.Cond.and given_1 narrow_1).before args s = true) {G : jG} (hG0 : u_Kn s RJ0 TJ0 4 (gC G 0) (gS G 0)) (hK : ∀ (i : Nat) (q : String × Nat × String), jCs[i]? = some q → vk_R q.1 q.2.1 q.2.2 (gK G i) s) : ∃ V : Nat → Nat, ∀ i, i < 5 → jWk s G (gK G (idS i)) (.inr (0, [.ref (V i), .int 0])) s.heap ∧ jWk s G (V i) (.inl (.byte, (txS i).length, fun j => .int (tCh (txS i) j))) s.heap := by
  obtain ⟨V0, h0⟩ := st_s0 hgv hG0 hK
  obtain ⟨V1, h1⟩ := st_s1 hgv hG0 hK
  obtain ⟨V2, h2⟩ := st_s2 hgv hG0 hK
  obtain ⟨V3, h3⟩ := st_s3 hgv hG0 hK
  obtain ⟨V4, h4⟩ := st_s4 hgv hG0 hK
  refine ⟨fun i => if i = 0 then V0 else if i = 1 then V1 else if i = 2 then V2 else if i = 3 then V3 else V4, fun i hi => ?_⟩
  match i, hi with
  | 0, _ => exact h0
  | 1, _ => exact h1
  | 2, _ => exact h2
  | 3, _ => exact h3
  | 4, _ => exact h4
end ST2
