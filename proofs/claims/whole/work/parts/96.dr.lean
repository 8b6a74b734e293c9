/-! ===== the law's calls of the merger ===== -/
def cvL (x : Int32) : Int64 := x.toInt64
def cvB (x : Int32) : Int64 := if x = 0 then 0 else 1
/-- the law's row of one cell, apart from the merger -/
def lO (G : jG) (M : jM) (Z : jH) (c v ol : Nat) : Prop := Z ol = none ∧ (ol < c ∨ c + 120 ≤ ol) ∧ ol ≠ v ∧ gB G ≤ ol ∧ ∃ g : Nat → Int64, M.1 ol = some (.inl (.long, 1, fun j => .long (g j)))
def lD (G : jG) (M : jM) (Z : jH) (c v ol : Nat) : Prop := Z ol = none ∧ (ol < c ∨ c + 120 ≤ ol) ∧ ol ≠ v ∧ gB G ≤ ol ∧ ∃ g : Nat → UInt64, M.1 ol = some (.inl (.double, 1, fun j => .double (g j)))
/-- behind a call: what it left of the merger and of all else -/
def lW (G : jG) (M : jM) (Z : jH) (c v ol : Nat) (T' : aSt) (M' : jM) : Prop := ∃ Z' v', cI G M' Z' c v' T' ∧ kept M M' (fun a => a = v ∨ a = ol ∨ (c ≤ a ∧ a < c + 120)) ∧ (v' = v ∨ M.1 v' = none) ∧ ∀ a o, Z' a = some o → Z a = some o ∨ M.1 a = none
def LQ (G : jG) (M : jM) (Z : jH) (c v ol : Nat) (cv : Int32 → Int64) (op : aSt → aAns) (T : aSt) : Option Value → jM → Prop := fun w M' => w = some (.int (nI (op T).1)) ∧ (op T).1 < 100 ∧ (∃ g : Nat → Int64, M'.1 ol = some (.inl (.long, 1, fun j => .long (g j))) ∧ ((op T).1 = 0 → g 0 = cv (op T).2.1)) ∧ lW G M Z c v ol (op T).2.2 M'
def LQd (G : jG) (M : jM) (Z : jH) (c v ol : Nat) (rel : UInt64 → Value → Prop) (op : aSt → Nat × Value) (T : aSt) : Option Value → jM → Prop := fun w M' => w = some (.int (nI (op T).1)) ∧ (op T).1 < 100 ∧ (∃ g : Nat → UInt64, M'.1 ol = some (.inl (.double, 1, fun j => .double (g j))) ∧ ((op T).1 = 0 → rel (g 0) (op T).2)) ∧ lW G M Z c v ol T M'
def relD (x : UInt64) (w : Value) : Prop := w = .double x
def relF (x : UInt64) (w : Value) : Prop := ∃ f, w = .float f ∧ x = FP.f2d f
section LW
variable {G : jG} {M M1 : jM} {Z : jH} {c v ol : Nat} {T T' : aSt} {x x0 : jO} {op : aSt → aAns} {cv : Int32 → Int64} {g' : Nat → Int64}
theorem lw_row (hQ : cQ G M Z c v T' M1) (hx : M.1 ol = some x0) (hoc : ol < c ∨ c + 120 ≤ ol) (hov : ol ≠ v) : M1.1 ol = some x0 := by
  obtain ⟨Z1, v1, h1, h2, h3, h4⟩ := hQ
  exact h2 _ _ hx (by omega)
theorem lw_same (hQ : cQ G M Z c v T' M1) : lW G M Z c v ol T' M1 := by
  obtain ⟨Z1, v1, h1, h2, h3, h4⟩ := hQ
  exact ⟨Z1, v1, h1, h2.wk (fun a e => e.elim Or.inl (fun e => Or.inr (Or.inr e))), h3, h4⟩
theorem lw_put (hQ : cQ G M Z c v T' M1) (hx : M.1 ol = some x0) (hz : Z ol = none) (hoc : ol < c ∨ c + 120 ≤ ol) (hov : ol ≠ v) : lW G M Z c v ol T' (jput M1 ol x) := by
  obtain ⟨Z1, v1, h1, h2, h3, h4⟩ := hQ
  have hz1 : Z1 ol = none := by
    cases e : Z1 ol with
    | none => rfl
    | some o =>
      rcases h4 _ _ e with e9 | e9
      · rw [hz] at e9; cases e9
      · rw [hx] at e9; cases e9
  have hv1 : v1 ≠ ol := fun e => by
    rcases h3 with e9 | e9
    · exact hov (e.symm.trans e9)
    · rw [e, hx] at e9; cases e9
  have hs1 : sub Z1 M1.1 := h1.2.2.2.2.2.2.2.2.1.1
  refine ⟨Z1, v1, cJ.moreW (W := fun a => a = ol) h1 zg_refl (fun a o ha => (jput_ne (fun e9 => by rw [e9, hz1] at ha; cases ha)).trans (hs1 a o ha)) (fun a o ha hn => (jput_ne hn).trans ha) (fun a e9 e8 => ?_), fun a o ha hn => (jput_ne (fun e9 => hn (Or.inr (Or.inl e9)))).trans (h2 _ _ ha (fun e9 => hn (e9.elim Or.inl (fun e9 => Or.inr (Or.inr e9))))), h3, h4⟩
  rcases e9 with e9 | e9
  · omega
  · exact hv1 (e9.symm.trans e8)
theorem lq_0 (h90 : (op T).1 = 0) (hQ : cQ G M Z c v (op T).2.2 M1) (ho : lO G M Z c v ol) (hg : g' 0 = cv (op T).2.1) : LQ G M Z c v ol cv op T (some (.int (nI 0))) (jput M1 ol (.inl (.long, 1, fun j => .long (g' j)))) := by
  obtain ⟨hz, hoc, hov, -, g, hx⟩ := ho
  exact ⟨by rw [h90], by rw [h90]; decide, ⟨g', jput_at, fun _ => hg⟩, lw_put hQ hx hz hoc hov⟩
theorem lq_x {k : Nat} (h9 : (op T).1 = k + 1) (hQ : cQ G M Z c v (op T).2.2 M1) (ho : lO G M Z c v ol) (hk : k + 1 < 100 := by decide) : LQ G M Z c v ol cv op T (some (.int (nI (k + 1)))) M1 := by
  obtain ⟨hz, hoc, hov, -, g, hx⟩ := ho
  exact ⟨by rw [h9], by rw [h9]; exact hk, ⟨g, lw_row hQ hx hoc hov, fun e => by rw [h9] at e; cases e⟩, lw_same hQ⟩
theorem lqd_0 {op : aSt → Nat × Value} {rel : UInt64 → Value → Prop} {g' : Nat → UInt64} (h90 : (op T).1 = 0) (hQ : cQ G M Z c v T M1) (ho : lD G M Z c v ol) (hg : rel (g' 0) (op T).2) : LQd G M Z c v ol rel op T (some (.int (nI 0))) (jput M1 ol (.inl (.double, 1, fun j => .double (g' j)))) := by
  obtain ⟨hz, hoc, hov, -, g, hx⟩ := ho
  exact ⟨by rw [h90], by rw [h90]; decide, ⟨g', jput_at, fun _ => hg⟩, lw_put hQ hx hz hoc hov⟩
theorem lqd_x {op : aSt → Nat × Value} {rel : UInt64 → Value → Prop} {k : Nat} (h9 : (op T).1 = k + 1) (hQ : cQ G M Z c v T M1) (ho : lD G M Z c v ol) (hk : k + 1 < 100 := by decide) : LQd G M Z c v ol rel op T (some (.int (nI (k + 1)))) M1 := by
  obtain ⟨hz, hoc, hov, -, g, hx⟩ := ho
  exact ⟨by rw [h9], by rw [h9]; exact hk, ⟨g, lw_row hQ hx hoc hov, fun e => by rw [h9] at e; cases e⟩, lw_same hQ⟩
theorem mean_d : ∃ x, (opMean T).2 = .double x := by
  unfold opMean
  split
  · exact ⟨_, rfl⟩
  · split <;> exact ⟨_, rfl⟩
theorem sh_f : ∀ a, a < 21 → ∀ b, b < 21 → ¬ b = 0 → FP.f2d (FP.fdiv (FP.i2f (nI a)) (FP.i2f (nI b))) &&& 0x7fffffffffffffff ≤ 0x7ff0000000000000 := by decide +kernel
theorem sh_c : ∀ a, a < 21 → ∀ b, b < 21 → ¬ b = 0 → Op.cmpValue (FP.dcmp (FP.f2d (FP.fdiv (FP.i2f (nI a)) (FP.i2f (nI b)))) (FP.f2d (FP.fdiv (FP.i2f (nI a)) (FP.i2f (nI b))))) .l = 0 := by decide +kernel
theorem share_f (h : cI G M Z c v T) : ∃ x, (opShare T).2 = .float x ∧ vf_n64 (FP.f2d x) ∧ Op.cmpValue (FP.dcmp (FP.f2d x) (FP.f2d x)) .l = 0 := by
  have hO := h.2.2.2.2.2.1
  cases e : tRun T with
  | none => rw [shr_1 e]; exact ⟨_, rfl, (by decide +kernel : FP.f2d FP.fconst0 &&& 0x7fffffffffffffff ≤ 0x7ff0000000000000), by decide +kernel⟩
  | some L =>
    have e2 : T.2.2.2.2.2 = some L := e
    rw [e2] at hO
    have h1 := (hO.2.2 L rfl).1
    have h2 : L.length ≤ 20 := hO.1.2.2.1
    have h3 := ranN_le (L := L) (n := 0)
    rw [shr_0 e]
    exact ⟨_, rfl, sh_f _ (by omega) _ (by omega) h1, sh_c _ (by omega) _ (by omega) h1⟩
end LW
set_option maxHeartbeats 4000000 in
set_option maxRecDepth 100000 in
theorem w_append {G : jG} {M : jM} {c v ol : Nat} {S : aSet} {P : List aSet} {V : Option aSet} {b : List Nat} {e : Option Nat} {u : Option aRun} {Z : jH} {q : Int32} (hs : (gL G).stackTraces = false) (h : cJ G M Z c v S P V b e u) (ho : lO G M Z c v ol) : JMet G jL_append [.ref c, .int q, .ref ol] M 4 568 7 (LQ G M Z c v ol cvL (opAppend q) (S, P, V, b, e, u)) jNo := by
  refine jMet_ofH [some (.ref (c)), some (.int (q)), some (.ref (ol)), none] (by decide) (0, 9, 12, 13) [(0, 9, 15, 15)] rfl (Nat.le_of_ble_eq_true rfl) (rfl) hs ?_
  intro C hC9 hG
  have hC := hC9.z
  have hs9 := jOK0_tr hC
  subst hG
  obtain ⟨hzo, hoc, hov, hBo, g, hxo⟩ := id ho
  refine j_aload_n hC dL_append_0 rfl (jrf_ref _) ?_
  refine j_iconst (v := nI 0) hC dL_append_1 (by decide) ?_
  refine j_aload_n hC dL_append_2 rfl (jrf_ref _) ?_
  refine j_iload_n hC dL_append_3 rfl ?_
  refine j_callV hC kv_L_7 dL_append_4 (m_X9_append (q := q) hs9 h) h.1.1 rfl rfl rfl rfl (by decide) (Nat.le_refl _) (Nat.le_refl _) (Nat.le_of_ble_eq_true rfl) (fun v9 M1 h9 => ?_) (fun E9 M1 h9 => ?_)
  · obtain ⟨h90, rfl, hQ⟩ := h9
    have hrow := lw_row hQ hxo hoc hov
    refine j_i2l hC dL_append_7 ?_
    refine j_last hC dL_append_8 hrow hBo (vp_in_nI (by decide) (by decide)) ?_
    refine j_goto (tgt := 18) hC dL_append_9 (by decide) ?_
    refine j_iconst (v := nI 0) hC dL_append_18 (by decide) ?_
    exact j_iret hC9 rfl rfl dL_append_19 (lq_0 h90 hQ ho rfl)
  · obtain ⟨k9, h90, hE9, hQ⟩ := h9
    rcases k9 with _ | _ | k9
    · have hE8 : "java/lang/IllegalArgumentException" = E9 := Option.some.inj hE9
      subst hE8
      refine jx_catch hC (by decide) [] ⟨0, 9, 12, 13⟩ [⟨0, 9, 15, 15⟩] rfl (fun z hz => absurd hz List.not_mem_nil) (by decide) (by decide) kc_L_13 (fun q9 => ?_)
      refine j_astore_n3 hC dL_append_12 (jrf_ref _) (by decide) rfl ?_
      refine j_iconst (v := nI 1) hC dL_append_13 (by decide) ?_
      exact j_iret hC9 rfl rfl dL_append_14 (lq_x h90 hQ ho)
    · have hE8 : "java/lang/IllegalStateException" = E9 := Option.some.inj hE9
      subst hE8
      refine jx_catch hC (by decide) [⟨0, 9, 12, 13⟩] ⟨0, 9, 15, 15⟩ [] rfl (fun z hz => by simp only [List.mem_cons, List.not_mem_nil, or_false] at hz; rcases hz with rfl <;> first | exact ⟨by decide, "java/lang/IllegalArgumentException", by decide, kc_L_13, by decide⟩) (by decide) (by decide) kc_L_15 (fun q9 => ?_)
      refine j_astore_n3 hC dL_append_15 (jrf_ref _) (by decide) rfl ?_
      refine j_iconst (v := nI 2) hC dL_append_16 (by decide) ?_
      exact j_iret hC9 rfl rfl dL_append_17 (lq_x h90 hQ ho)
    · simp at hE9
set_option maxHeartbeats 4000000 in
set_option maxRecDepth 100000 in
theorem w_addRecord {G : jG} {M : jM} {c v ol : Nat} {S : aSet} {P : List aSet} {V : Option aSet} {b : List Nat} {e : Option Nat} {u : Option aRun} {Z : jH} {q r : Int32} (hs : (gL G).stackTraces = false) (h : cJ G M Z c v S P V b e u) (ho : lO G M Z c v ol) : JMet G jL_addRecord [.ref c, .int q, .int r, .ref ol] M 3 9 8 (LQ G M Z c v ol cvL (opAdd q r) (S, P, V, b, e, u)) jNo := by
  refine jMet_ofH [some (.ref (c)), some (.int (q)), some (.int (r)), some (.ref (ol)), none] (by decide) (0, 10, 13, 13) [(0, 10, 17, 15)] rfl (Nat.le_of_ble_eq_true rfl) (rfl) hs ?_
  intro C hC9 hG
  have hC := hC9.z
  have hs9 := jOK0_tr hC
  subst hG
  obtain ⟨hzo, hoc, hov, hBo, g, hxo⟩ := id ho
  refine j_aload_n hC dL_addRecord_0 rfl (jrf_ref _) ?_
  refine j_iconst (v := nI 0) hC dL_addRecord_1 (by decide) ?_
  refine j_aload_n hC dL_addRecord_2 rfl (jrf_ref _) ?_
  refine j_iload_n hC dL_addRecord_3 rfl ?_
  refine j_iload_n hC dL_addRecord_4 rfl ?_
  refine j_callV hC kv_L_17 dL_addRecord_5 (m_X9_addRecord (q := q) (r := r) hs9 h) h.1.1 rfl rfl rfl rfl (by decide) (Nat.le_refl _) (Nat.le_refl _) (Nat.le_of_ble_eq_true rfl) (fun v9 M1 h9 => ?_) (fun E9 M1 h9 => ?_)
  · obtain ⟨h90, rfl, hQ⟩ := h9
    have hrow := lw_row hQ hxo hoc hov
    refine j_i2l hC dL_addRecord_8 ?_
    refine j_last hC dL_addRecord_9 hrow hBo (vp_in_nI (by decide) (by decide)) ?_
    refine j_goto (tgt := 21) hC dL_addRecord_10 (by decide) ?_
    refine j_iconst (v := nI 0) hC dL_addRecord_21 (by decide) ?_
    exact j_iret hC9 rfl rfl dL_addRecord_22 (lq_0 h90 hQ ho rfl)
  · obtain ⟨k9, h90, hE9, hQ⟩ := h9
    rcases k9 with _ | _ | k9
    · have hE8 : "java/lang/IllegalArgumentException" = E9 := Option.some.inj hE9
      subst hE8
      refine jx_catch hC (by decide) [] ⟨0, 10, 13, 13⟩ [⟨0, 10, 17, 15⟩] rfl (fun z hz => absurd hz List.not_mem_nil) (by decide) (by decide) kc_L_13 (fun q9 => ?_)
      refine j_astore_4 hC dL_addRecord_13 (jrf_ref _) (by decide) rfl ?_
      refine j_iconst (v := nI 1) hC dL_addRecord_15 (by decide) ?_
      exact j_iret hC9 rfl rfl dL_addRecord_16 (lq_x h90 hQ ho)
    · have hE8 : "java/lang/IllegalStateException" = E9 := Option.some.inj hE9
      subst hE8
      refine jx_catch hC (by decide) [⟨0, 10, 13, 13⟩] ⟨0, 10, 17, 15⟩ [] rfl (fun z hz => by simp only [List.mem_cons, List.not_mem_nil, or_false] at hz; rcases hz with rfl <;> first | exact ⟨by decide, "java/lang/IllegalArgumentException", by decide, kc_L_13, by decide⟩) (by decide) (by decide) kc_L_15 (fun q9 => ?_)
      refine j_astore_4 hC dL_addRecord_17 (jrf_ref _) (by decide) rfl ?_
      refine j_iconst (v := nI 2) hC dL_addRecord_19 (by decide) ?_
      exact j_iret hC9 rfl rfl dL_addRecord_20 (lq_x h90 hQ ho)
    · simp at hE9
set_option maxHeartbeats 4000000 in
set_option maxRecDepth 100000 in
theorem w_removeRecord {G : jG} {M : jM} {c v ol : Nat} {S : aSet} {P : List aSet} {V : Option aSet} {b : List Nat} {e : Option Nat} {u : Option aRun} {Z : jH} {q : Int32} (hs : (gL G).stackTraces = false) (h : cJ G M Z c v S P V b e u) (ho : lO G M Z c v ol) : JMet G jL_removeRecord [.ref c, .int q, .ref ol] M 1 6 9 (LQ G M Z c v ol cvL (opRemove q) (S, P, V, b, e, u)) jNo := by
  refine jMet_ofH [some (.ref (c)), some (.int (q)), some (.ref (ol)), none] (by decide) (0, 9, 12, 24) [] rfl (Nat.le_of_ble_eq_true rfl) (rfl) hs ?_
  intro C hC9 hG
  have hC := hC9.z
  have hs9 := jOK0_tr hC
  subst hG
  obtain ⟨hzo, hoc, hov, hBo, g, hxo⟩ := id ho
  refine j_aload_n hC dL_removeRecord_0 rfl (jrf_ref _) ?_
  refine j_iconst (v := nI 0) hC dL_removeRecord_1 (by decide) ?_
  refine j_aload_n hC dL_removeRecord_2 rfl (jrf_ref _) ?_
  refine j_iload_n hC dL_removeRecord_3 rfl ?_
  refine j_callV hC kv_L_21 dL_removeRecord_4 (m_X9_removeRecord (q := q) hs9 h) h.1.1 rfl rfl rfl rfl (by decide) (Nat.le_refl _) (Nat.le_refl _) (Nat.le_of_ble_eq_true rfl) (fun v9 M1 h9 => ?_) (fun E9 M1 h9 => ?_)
  · obtain ⟨h90, rfl, hQ⟩ := h9
    have hrow := lw_row hQ hxo hoc hov
    refine j_i2l hC dL_removeRecord_7 ?_
    refine j_last hC dL_removeRecord_8 hrow hBo (vp_in_nI (by decide) (by decide)) ?_
    refine j_goto (tgt := 15) hC dL_removeRecord_9 (by decide) ?_
    refine j_iconst (v := nI 0) hC dL_removeRecord_15 (by decide) ?_
    exact j_iret hC9 rfl rfl dL_removeRecord_16 (lq_0 h90 hQ ho rfl)
  · obtain ⟨k9, h90, hE9, hQ⟩ := h9
    rcases k9 with _ | k9
    · have hE8 : "java/lang/IndexOutOfBoundsException" = E9 := Option.some.inj hE9
      subst hE8
      refine jx_catch hC (by decide) [] ⟨0, 9, 12, 24⟩ [] rfl (fun z hz => absurd hz List.not_mem_nil) (by decide) (by decide) kc_L_24 (fun q9 => ?_)
      refine j_astore_n3 hC dL_removeRecord_12 (jrf_ref _) (by decide) rfl ?_
      refine j_iconst (v := nI 1) hC dL_removeRecord_13 (by decide) ?_
      exact j_iret hC9 rfl rfl dL_removeRecord_14 (lq_x h90 hQ ho)
    · simp at hE9
set_option maxHeartbeats 4000000 in
set_option maxRecDepth 100000 in
theorem w_moveRecord {G : jG} {M : jM} {c v ol : Nat} {S : aSet} {P : List aSet} {V : Option aSet} {b : List Nat} {e : Option Nat} {u : Option aRun} {Z : jH} {q r : Int32} (hs : (gL G).stackTraces = false) (h : cJ G M Z c v S P V b e u) (ho : lO G M Z c v ol) : JMet G jL_moveRecord [.ref c, .int q, .int r, .ref ol] M 2 12 9 (LQ G M Z c v ol cvL (opMove q r) (S, P, V, b, e, u)) jNo := by
  refine jMet_ofH [some (.ref (c)), some (.int (q)), some (.int (r)), some (.ref (ol)), none] (by decide) (0, 10, 13, 24) [] rfl (Nat.le_of_ble_eq_true rfl) (rfl) hs ?_
  intro C hC9 hG
  have hC := hC9.z
  have hs9 := jOK0_tr hC
  subst hG
  obtain ⟨hzo, hoc, hov, hBo, g, hxo⟩ := id ho
  refine j_aload_n hC dL_moveRecord_0 rfl (jrf_ref _) ?_
  refine j_iconst (v := nI 0) hC dL_moveRecord_1 (by decide) ?_
  refine j_aload_n hC dL_moveRecord_2 rfl (jrf_ref _) ?_
  refine j_iload_n hC dL_moveRecord_3 rfl ?_
  refine j_iload_n hC dL_moveRecord_4 rfl ?_
  refine j_callV hC kv_L_26 dL_moveRecord_5 (m_X9_moveRecord (q := q) (r := r) hs9 h) h.1.1 rfl rfl rfl rfl (by decide) (Nat.le_refl _) (Nat.le_refl _) (Nat.le_of_ble_eq_true rfl) (fun v9 M1 h9 => ?_) (fun E9 M1 h9 => ?_)
  · obtain ⟨h90, rfl, hQ⟩ := h9
    have hrow := lw_row hQ hxo hoc hov
    refine j_i2l hC dL_moveRecord_8 ?_
    refine j_last hC dL_moveRecord_9 hrow hBo (vp_in_nI (by decide) (by decide)) ?_
    refine j_goto (tgt := 17) hC dL_moveRecord_10 (by decide) ?_
    refine j_iconst (v := nI 0) hC dL_moveRecord_17 (by decide) ?_
    exact j_iret hC9 rfl rfl dL_moveRecord_18 (lq_0 h90 hQ ho rfl)
  · obtain ⟨k9, h90, hE9, hQ⟩ := h9
    rcases k9 with _ | k9
    · have hE8 : "java/lang/IndexOutOfBoundsException" = E9 := Option.some.inj hE9
      subst hE8
      refine jx_catch hC (by decide) [] ⟨0, 10, 13, 24⟩ [] rfl (fun z hz => absurd hz List.not_mem_nil) (by decide) (by decide) kc_L_24 (fun q9 => ?_)
      refine j_astore_4 hC dL_moveRecord_13 (jrf_ref _) (by decide) rfl ?_
      refine j_iconst (v := nI 1) hC dL_moveRecord_15 (by decide) ?_
      exact j_iret hC9 rfl rfl dL_moveRecord_16 (lq_x h90 hQ ho)
    · simp at hE9
set_option maxHeartbeats 4000000 in
set_option maxRecDepth 100000 in
theorem w_sort {G : jG} {M : jM} {c v ol : Nat} {S : aSet} {P : List aSet} {V : Option aSet} {b : List Nat} {e : Option Nat} {u : Option aRun} {Z : jH} {q : Int32} {r : Bool} (hs : (gL G).stackTraces = false) (h : cJ G M Z c v S P V b e u) (ho : lO G M Z c v ol) : JMet G jL_sort [.ref c, .int q, .int (jb (r = true)), .ref ol] M 1 6 9 (LQ G M Z c v ol cvL (opSort q r) (S, P, V, b, e, u)) jNo := by
  refine jMet_ofH [some (.ref (c)), some (.int (q)), some (.int (jb (r = true))), some (.ref (ol)), none] (by decide) (0, 10, 13, 24) [] rfl (Nat.le_of_ble_eq_true rfl) (rfl) hs ?_
  intro C hC9 hG
  have hC := hC9.z
  have hs9 := jOK0_tr hC
  subst hG
  obtain ⟨hzo, hoc, hov, hBo, g, hxo⟩ := id ho
  refine j_aload_n hC dL_sort_0 rfl (jrf_ref _) ?_
  refine j_iconst (v := nI 0) hC dL_sort_1 (by decide) ?_
  refine j_aload_n hC dL_sort_2 rfl (jrf_ref _) ?_
  refine j_iload_n hC dL_sort_3 rfl ?_
  refine j_iload_n hC dL_sort_4 rfl ?_
  refine j_callV hC kv_L_29 dL_sort_5 (m_X9_sort (q := q) (r := r) hs9 h) h.1.1 rfl rfl rfl rfl (by decide) (Nat.le_refl _) (Nat.le_refl _) (Nat.le_of_ble_eq_true rfl) (fun v9 M1 h9 => ?_) (fun E9 M1 h9 => ?_)
  · obtain ⟨h90, rfl, hQ⟩ := h9
    have hrow := lw_row hQ hxo hoc hov
    refine j_i2l hC dL_sort_8 ?_
    refine j_last hC dL_sort_9 hrow hBo (vp_in_nI (by decide) (by decide)) ?_
    refine j_goto (tgt := 17) hC dL_sort_10 (by decide) ?_
    refine j_iconst (v := nI 0) hC dL_sort_17 (by decide) ?_
    exact j_iret hC9 rfl rfl dL_sort_18 (lq_0 h90 hQ ho rfl)
  · obtain ⟨k9, h90, hE9, hQ⟩ := h9
    rcases k9 with _ | k9
    · have hE8 : "java/lang/IndexOutOfBoundsException" = E9 := Option.some.inj hE9
      subst hE8
      refine jx_catch hC (by decide) [] ⟨0, 10, 13, 24⟩ [] rfl (fun z hz => absurd hz List.not_mem_nil) (by decide) (by decide) kc_L_24 (fun q9 => ?_)
      refine j_astore_4 hC dL_sort_13 (jrf_ref _) (by decide) rfl ?_
      refine j_iconst (v := nI 1) hC dL_sort_15 (by decide) ?_
      exact j_iret hC9 rfl rfl dL_sort_16 (lq_x h90 hQ ho)
    · simp at hE9
set_option maxHeartbeats 4000000 in
set_option maxRecDepth 100000 in
theorem w_setField {G : jG} {M : jM} {c v ol : Nat} {S : aSet} {P : List aSet} {V : Option aSet} {b : List Nat} {e : Option Nat} {u : Option aRun} {Z : jH} {q r : Int32} (hs : (gL G).stackTraces = false) (h : cJ G M Z c v S P V b e u) (ho : lO G M Z c v ol) : JMet G jL_setField [.ref c, .int q, .int r, .ref ol] M 7 151 10 (LQ G M Z c v ol cvL (opSetFld q r) (S, P, V, b, e, u)) jNo := by
  refine jMet_ofH [some (.ref (c)), some (.int (q)), some (.int (r)), some (.ref (ol)), none] (by decide) (0, 10, 13, 24) [(0, 10, 17, 13)] rfl (Nat.le_of_ble_eq_true rfl) (rfl) hs ?_
  intro C hC9 hG
  have hC := hC9.z
  have hs9 := jOK0_tr hC
  subst hG
  obtain ⟨hzo, hoc, hov, hBo, g, hxo⟩ := id ho
  refine j_aload_n hC dL_setField_0 rfl (jrf_ref _) ?_
  refine j_iconst (v := nI 0) hC dL_setField_1 (by decide) ?_
  refine j_aload_n hC dL_setField_2 rfl (jrf_ref _) ?_
  refine j_iload_n hC dL_setField_3 rfl ?_
  refine j_iload_n hC dL_setField_4 rfl ?_
  refine j_callV hC kv_L_33 dL_setField_5 (m_X9_setField (q := q) (r := r) hs9 h) h.1.1 rfl rfl rfl rfl (by decide) (Nat.le_refl _) (Nat.le_refl _) (Nat.le_of_ble_eq_true rfl) (fun v9 M1 h9 => ?_) (fun E9 M1 h9 => ?_)
  · obtain ⟨h90, rfl, hQ⟩ := h9
    have hrow := lw_row hQ hxo hoc hov
    refine j_i2l hC dL_setField_8 ?_
    refine j_last hC dL_setField_9 hrow hBo (vp_in_nI (by decide) (by decide)) ?_
    refine j_goto (tgt := 21) hC dL_setField_10 (by decide) ?_
    refine j_iconst (v := nI 0) hC dL_setField_21 (by decide) ?_
    exact j_iret hC9 rfl rfl dL_setField_22 (lq_0 h90 hQ ho rfl)
  · obtain ⟨k9, h90, hE9, hQ⟩ := h9
    rcases k9 with _ | _ | k9
    · have hE8 : "java/lang/IndexOutOfBoundsException" = E9 := Option.some.inj hE9
      subst hE8
      refine jx_catch hC (by decide) [] ⟨0, 10, 13, 24⟩ [⟨0, 10, 17, 13⟩] rfl (fun z hz => absurd hz List.not_mem_nil) (by decide) (by decide) kc_L_24 (fun q9 => ?_)
      refine j_astore_4 hC dL_setField_13 (jrf_ref _) (by decide) rfl ?_
      refine j_iconst (v := nI 1) hC dL_setField_15 (by decide) ?_
      exact j_iret hC9 rfl rfl dL_setField_16 (lq_x h90 hQ ho)
    · have hE8 : "java/lang/IllegalArgumentException" = E9 := Option.some.inj hE9
      subst hE8
      refine jx_catch hC (by decide) [⟨0, 10, 13, 24⟩] ⟨0, 10, 17, 13⟩ [] rfl (fun z hz => by simp only [List.mem_cons, List.not_mem_nil, or_false] at hz; rcases hz with rfl <;> first | exact ⟨by decide, "java/lang/IndexOutOfBoundsException", by decide, kc_L_24, by decide⟩) (by decide) (by decide) kc_L_13 (fun q9 => ?_)
      refine j_astore_4 hC dL_setField_17 (jrf_ref _) (by decide) rfl ?_
      refine j_iconst (v := nI 2) hC dL_setField_19 (by decide) ?_
      exact j_iret hC9 rfl rfl dL_setField_20 (lq_x h90 hQ ho)
    · simp at hE9
set_option maxHeartbeats 4000000 in
set_option maxRecDepth 100000 in
theorem w_setNumber {G : jG} {M : jM} {c v ol : Nat} {S : aSet} {P : List aSet} {V : Option aSet} {b : List Nat} {e : Option Nat} {u : Option aRun} {Z : jH} {q r : Int32} {qb : Bool} (hs : (gL G).stackTraces = false) (h : cJ G M Z c v S P V b e u) (ho : lO G M Z c v ol) : JMet G jL_setNumber [.ref c, .int q, .int (jb (qb = true)), .int r, .ref ol] M 2 12 9 (LQ G M Z c v ol cvL (opNumber q qb r) (S, P, V, b, e, u)) jNo := by
  refine jMet_ofH [some (.ref (c)), some (.int (q)), some (.int (jb (qb = true))), some (.int (r)), some (.ref (ol)), none] (by decide) (0, 12, 15, 24) [(0, 12, 19, 13)] rfl (Nat.le_of_ble_eq_true rfl) (rfl) hs ?_
  intro C hC9 hG
  have hC := hC9.z
  have hs9 := jOK0_tr hC
  subst hG
  obtain ⟨hzo, hoc, hov, hBo, g, hxo⟩ := id ho
  refine j_aload hC dL_setNumber_0 rfl (jrf_ref _) ?_
  refine j_iconst (v := nI 0) hC dL_setNumber_2 (by decide) ?_
  refine j_aload_n hC dL_setNumber_3 rfl (jrf_ref _) ?_
  refine j_iload_n hC dL_setNumber_4 rfl ?_
  refine j_iload_n hC dL_setNumber_5 rfl ?_
  refine j_iload_n hC dL_setNumber_6 rfl ?_
  refine j_callV hC kv_L_36 dL_setNumber_7 (m_X9_setNumber (q := q) (qb := qb) (r := r) hs9 h) h.1.1 rfl rfl rfl rfl (by decide) (Nat.le_refl _) (Nat.le_refl _) (Nat.le_of_ble_eq_true rfl) (fun v9 M1 h9 => ?_) (fun E9 M1 h9 => ?_)
  · obtain ⟨h90, rfl, hQ⟩ := h9
    have hrow := lw_row hQ hxo hoc hov
    refine j_i2l hC dL_setNumber_10 ?_
    refine j_last hC dL_setNumber_11 hrow hBo (vp_in_nI (by decide) (by decide)) ?_
    refine j_goto (tgt := 23) hC dL_setNumber_12 (by decide) ?_
    refine j_iconst (v := nI 0) hC dL_setNumber_23 (by decide) ?_
    exact j_iret hC9 rfl rfl dL_setNumber_24 (lq_0 h90 hQ ho rfl)
  · obtain ⟨k9, h90, hE9, hQ⟩ := h9
    rcases k9 with _ | _ | k9
    · have hE8 : "java/lang/IndexOutOfBoundsException" = E9 := Option.some.inj hE9
      subst hE8
      refine jx_catch hC (by decide) [] ⟨0, 12, 15, 24⟩ [⟨0, 12, 19, 13⟩] rfl (fun z hz => absurd hz List.not_mem_nil) (by decide) (by decide) kc_L_24 (fun q9 => ?_)
      refine j_astore_5 hC dL_setNumber_15 (jrf_ref _) (by decide) rfl ?_
      refine j_iconst (v := nI 1) hC dL_setNumber_17 (by decide) ?_
      exact j_iret hC9 rfl rfl dL_setNumber_18 (lq_x h90 hQ ho)
    · have hE8 : "java/lang/IllegalArgumentException" = E9 := Option.some.inj hE9
      subst hE8
      refine jx_catch hC (by decide) [⟨0, 12, 15, 24⟩] ⟨0, 12, 19, 13⟩ [] rfl (fun z hz => by simp only [List.mem_cons, List.not_mem_nil, or_false] at hz; rcases hz with rfl <;> first | exact ⟨by decide, "java/lang/IndexOutOfBoundsException", by decide, kc_L_24, by decide⟩) (by decide) (by decide) kc_L_13 (fun q9 => ?_)
      refine j_astore_5 hC dL_setNumber_19 (jrf_ref _) (by decide) rfl ?_
      refine j_iconst (v := nI 2) hC dL_setNumber_21 (by decide) ?_
      exact j_iret hC9 rfl rfl dL_setNumber_22 (lq_x h90 hQ ho)
    · simp at hE9
set_option maxHeartbeats 4000000 in
set_option maxRecDepth 100000 in
theorem w_field {G : jG} {M : jM} {c v ol : Nat} {S : aSet} {P : List aSet} {V : Option aSet} {b : List Nat} {e : Option Nat} {u : Option aRun} {Z : jH} {q r r2 : Int32} (hs : (gL G).stackTraces = false) (h : cJ G M Z c v S P V b e u) (ho : lO G M Z c v ol) : JMet G jL_field [.ref c, .int q, .int r, .int r2, .ref ol] M 3 18 9 (LQ G M Z c v ol cvL (opFieldAt q r r2) (S, P, V, b, e, u)) jNo := by
  refine jMet_ofH [some (.ref (c)), some (.int (q)), some (.int (r)), some (.int (r2)), some (.ref (ol)), none] (by decide) (0, 12, 15, 24) [(0, 12, 19, 44)] rfl (Nat.le_of_ble_eq_true rfl) (rfl) hs ?_
  intro C hC9 hG
  have hC := hC9.z
  have hs9 := jOK0_tr hC
  subst hG
  obtain ⟨hzo, hoc, hov, hBo, g, hxo⟩ := id ho
  refine j_aload hC dL_field_0 rfl (jrf_ref _) ?_
  refine j_iconst (v := nI 0) hC dL_field_2 (by decide) ?_
  refine j_aload_n hC dL_field_3 rfl (jrf_ref _) ?_
  refine j_iload_n hC dL_field_4 rfl ?_
  refine j_iload_n hC dL_field_5 rfl ?_
  refine j_iload_n hC dL_field_6 rfl ?_
  refine j_callV hC kv_L_40 dL_field_7 (m_X9_field (q := q) (r := r) (r2 := r2) hs9 h) h.1.1 rfl rfl rfl rfl (by decide) (Nat.le_refl _) (Nat.le_refl _) (Nat.le_of_ble_eq_true rfl) (fun v9 M1 h9 => ?_) (fun E9 M1 h9 => ?_)
  · obtain ⟨h90, rfl, hQ⟩ := h9
    have hrow := lw_row hQ hxo hoc hov
    refine j_i2l hC dL_field_10 ?_
    refine j_last hC dL_field_11 hrow hBo (vp_in_nI (by decide) (by decide)) ?_
    refine j_goto (tgt := 23) hC dL_field_12 (by decide) ?_
    refine j_iconst (v := nI 0) hC dL_field_23 (by decide) ?_
    exact j_iret hC9 rfl rfl dL_field_24 (lq_0 h90 hQ ho rfl)
  · obtain ⟨k9, h90, hE9, hQ⟩ := h9
    rcases k9 with _ | _ | k9
    · have hE8 : "java/lang/IndexOutOfBoundsException" = E9 := Option.some.inj hE9
      subst hE8
      refine jx_catch hC (by decide) [] ⟨0, 12, 15, 24⟩ [⟨0, 12, 19, 44⟩] rfl (fun z hz => absurd hz List.not_mem_nil) (by decide) (by decide) kc_L_24 (fun q9 => ?_)
      refine j_astore_5 hC dL_field_15 (jrf_ref _) (by decide) rfl ?_
      refine j_iconst (v := nI 1) hC dL_field_17 (by decide) ?_
      exact j_iret hC9 rfl rfl dL_field_18 (lq_x h90 hQ ho)
    · have hE8 : "java/util/NoSuchElementException" = E9 := Option.some.inj hE9
      subst hE8
      refine jx_catch hC (by decide) [⟨0, 12, 15, 24⟩] ⟨0, 12, 19, 44⟩ [] rfl (fun z hz => by simp only [List.mem_cons, List.not_mem_nil, or_false] at hz; rcases hz with rfl <;> first | exact ⟨by decide, "java/lang/IndexOutOfBoundsException", by decide, kc_L_24, by decide⟩) (by decide) (by decide) kc_L_44 (fun q9 => ?_)
      refine j_astore_5 hC dL_field_19 (jrf_ref _) (by decide) rfl ?_
      refine j_iconst (v := nI 2) hC dL_field_21 (by decide) ?_
      exact j_iret hC9 rfl rfl dL_field_22 (lq_x h90 hQ ho)
    · simp at hE9
set_option maxHeartbeats 4000000 in
set_option maxRecDepth 100000 in
theorem w_record {G : jG} {M : jM} {c v ol : Nat} {S : aSet} {P : List aSet} {V : Option aSet} {b : List Nat} {e : Option Nat} {u : Option aRun} {Z : jH} {q r : Int32} (hs : (gL G).stackTraces = false) (h : cJ G M Z c v S P V b e u) (ho : lO G M Z c v ol) : JMet G jL_record [.ref c, .int q, .int r, .ref ol] M 2 12 9 (LQ G M Z c v ol cvL (opRecord q r) (S, P, V, b, e, u)) jNo := by
  refine jMet_ofH [some (.ref (c)), some (.int (q)), some (.int (r)), some (.ref (ol)), none] (by decide) (0, 10, 13, 24) [(0, 10, 17, 13)] rfl (Nat.le_of_ble_eq_true rfl) (rfl) hs ?_
  intro C hC9 hG
  have hC := hC9.z
  have hs9 := jOK0_tr hC
  subst hG
  obtain ⟨hzo, hoc, hov, hBo, g, hxo⟩ := id ho
  refine j_aload_n hC dL_record_0 rfl (jrf_ref _) ?_
  refine j_iconst (v := nI 0) hC dL_record_1 (by decide) ?_
  refine j_aload_n hC dL_record_2 rfl (jrf_ref _) ?_
  refine j_iload_n hC dL_record_3 rfl ?_
  refine j_iload_n hC dL_record_4 rfl ?_
  refine j_callV hC kv_L_46 dL_record_5 (m_X9_record (q := q) (r := r) hs9 h) h.1.1 rfl rfl rfl rfl (by decide) (Nat.le_refl _) (Nat.le_refl _) (Nat.le_of_ble_eq_true rfl) (fun v9 M1 h9 => ?_) (fun E9 M1 h9 => ?_)
  · obtain ⟨h90, rfl, hQ⟩ := h9
    have hrow := lw_row hQ hxo hoc hov
    refine j_i2l hC dL_record_8 ?_
    refine j_last hC dL_record_9 hrow hBo (vp_in_nI (by decide) (by decide)) ?_
    refine j_goto (tgt := 21) hC dL_record_10 (by decide) ?_
    refine j_iconst (v := nI 0) hC dL_record_21 (by decide) ?_
    exact j_iret hC9 rfl rfl dL_record_22 (lq_0 h90 hQ ho rfl)
  · obtain ⟨k9, h90, hE9, hQ⟩ := h9
    rcases k9 with _ | _ | k9
    · have hE8 : "java/lang/IndexOutOfBoundsException" = E9 := Option.some.inj hE9
      subst hE8
      refine jx_catch hC (by decide) [] ⟨0, 10, 13, 24⟩ [⟨0, 10, 17, 13⟩] rfl (fun z hz => absurd hz List.not_mem_nil) (by decide) (by decide) kc_L_24 (fun q9 => ?_)
      refine j_astore_4 hC dL_record_13 (jrf_ref _) (by decide) rfl ?_
      refine j_iconst (v := nI 1) hC dL_record_15 (by decide) ?_
      exact j_iret hC9 rfl rfl dL_record_16 (lq_x h90 hQ ho)
    · have hE8 : "java/lang/IllegalArgumentException" = E9 := Option.some.inj hE9
      subst hE8
      refine jx_catch hC (by decide) [⟨0, 10, 13, 24⟩] ⟨0, 10, 17, 13⟩ [] rfl (fun z hz => by simp only [List.mem_cons, List.not_mem_nil, or_false] at hz; rcases hz with rfl <;> first | exact ⟨by decide, "java/lang/IndexOutOfBoundsException", by decide, kc_L_24, by decide⟩) (by decide) (by decide) kc_L_13 (fun q9 => ?_)
      refine j_astore_4 hC dL_record_17 (jrf_ref _) (by decide) rfl ?_
      refine j_iconst (v := nI 2) hC dL_record_19 (by decide) ?_
      exact j_iret hC9 rfl rfl dL_record_20 (lq_x h90 hQ ho)
    · simp at hE9
set_option maxHeartbeats 4000000 in
set_option maxRecDepth 100000 in
theorem w_setTemplate {G : jG} {M : jM} {c v ol : Nat} {S : aSet} {P : List aSet} {V : Option aSet} {b : List Nat} {e : Option Nat} {u : Option aRun} {Z : jH}  (hs : (gL G).stackTraces = false) (h : cJ G M Z c v S P V b e u) (ho : lO G M Z c v ol) : JMet G jL_setTemplate [.ref c, .ref ol] M 614 11457 11 (LQ G M Z c v ol cvL (opSetTmpl) (S, P, V, b, e, u)) jNo := by
  refine jMet_ofH [some (.ref (c)), some (.ref (ol)), none] (by decide) (0, 8, 11, 13) [] rfl (Nat.le_of_ble_eq_true rfl) (rfl) hs ?_
  intro C hC9 hG
  have hC := hC9.z
  have hs9 := jOK0_tr hC
  subst hG
  obtain ⟨hzo, hoc, hov, hBo, g, hxo⟩ := id ho
  refine j_aload_n hC dL_setTemplate_0 rfl (jrf_ref _) ?_
  refine j_iconst (v := nI 0) hC dL_setTemplate_1 (by decide) ?_
  refine j_aload_n hC dL_setTemplate_2 rfl (jrf_ref _) ?_
  refine j_callV hC kv_L_49 dL_setTemplate_3 (m_X9_setTemplate hs9 h) h.1.1 rfl rfl rfl rfl (by decide) (Nat.le_refl _) (Nat.le_refl _) (Nat.le_of_ble_eq_true rfl) (fun v9 M1 h9 => ?_) (fun E9 M1 h9 => ?_)
  · obtain ⟨h90, rfl, hQ⟩ := h9
    have hrow := lw_row hQ hxo hoc hov
    refine j_i2l hC dL_setTemplate_6 ?_
    refine j_last hC dL_setTemplate_7 hrow hBo (vp_in_nI (by decide) (by decide)) ?_
    refine j_goto (tgt := 14) hC dL_setTemplate_8 (by decide) ?_
    refine j_iconst (v := nI 0) hC dL_setTemplate_14 (by decide) ?_
    exact j_iret hC9 rfl rfl dL_setTemplate_15 (lq_0 h90 hQ ho rfl)
  · obtain ⟨k9, h90, hE9, hQ⟩ := h9
    rcases k9 with _ | k9
    · have hE8 : "java/lang/IllegalArgumentException" = E9 := Option.some.inj hE9
      subst hE8
      refine jx_catch hC (by decide) [] ⟨0, 8, 11, 13⟩ [] rfl (fun z hz => absurd hz List.not_mem_nil) (by decide) (by decide) kc_L_13 (fun q9 => ?_)
      refine j_astore_n2 hC dL_setTemplate_11 (jrf_ref _) (by decide) rfl ?_
      refine j_iconst (v := nI 1) hC dL_setTemplate_12 (by decide) ?_
      exact j_iret hC9 rfl rfl dL_setTemplate_13 (lq_x h90 hQ ho)
    · simp at hE9
set_option maxHeartbeats 4000000 in
set_option maxRecDepth 100000 in
theorem w_errorPosition {G : jG} {M : jM} {c v ol : Nat} {S : aSet} {P : List aSet} {V : Option aSet} {b : List Nat} {e : Option Nat} {u : Option aRun} {Z : jH}  (hs : (gL G).stackTraces = false) (h : cJ G M Z c v S P V b e u) (ho : lO G M Z c v ol) : JMet G jL_errorPosition [.ref c, .ref ol] M 1 6 8 (LQ G M Z c v ol cvL (opErrPos) (S, P, V, b, e, u)) jNo := by
  refine jMet_ofH [some (.ref (c)), some (.ref (ol)), none] (by decide) (0, 8, 11, 44) [] rfl (Nat.le_of_ble_eq_true rfl) (rfl) hs ?_
  intro C hC9 hG
  have hC := hC9.z
  have hs9 := jOK0_tr hC
  subst hG
  obtain ⟨hzo, hoc, hov, hBo, g, hxo⟩ := id ho
  refine j_aload_n hC dL_errorPosition_0 rfl (jrf_ref _) ?_
  refine j_iconst (v := nI 0) hC dL_errorPosition_1 (by decide) ?_
  refine j_aload_n hC dL_errorPosition_2 rfl (jrf_ref _) ?_
  refine j_callV hC kv_L_53 dL_errorPosition_3 (m_X9_errorPosition hs9 h) h.1.1 rfl rfl rfl rfl (by decide) (Nat.le_refl _) (Nat.le_refl _) (Nat.le_of_ble_eq_true rfl) (fun v9 M1 h9 => ?_) (fun E9 M1 h9 => ?_)
  · obtain ⟨h90, rfl, hQ⟩ := h9
    have hrow := lw_row hQ hxo hoc hov
    refine j_i2l hC dL_errorPosition_6 ?_
    refine j_last hC dL_errorPosition_7 hrow hBo (vp_in_nI (by decide) (by decide)) ?_
    refine j_goto (tgt := 14) hC dL_errorPosition_8 (by decide) ?_
    refine j_iconst (v := nI 0) hC dL_errorPosition_14 (by decide) ?_
    exact j_iret hC9 rfl rfl dL_errorPosition_15 (lq_0 h90 hQ ho rfl)
  · obtain ⟨k9, h90, hE9, hQ⟩ := h9
    rcases k9 with _ | k9
    · have hE8 : "java/util/NoSuchElementException" = E9 := Option.some.inj hE9
      subst hE8
      refine jx_catch hC (by decide) [] ⟨0, 8, 11, 44⟩ [] rfl (fun z hz => absurd hz List.not_mem_nil) (by decide) (by decide) kc_L_44 (fun q9 => ?_)
      refine j_astore_n2 hC dL_errorPosition_11 (jrf_ref _) (by decide) rfl ?_
      refine j_iconst (v := nI 1) hC dL_errorPosition_12 (by decide) ?_
      exact j_iret hC9 rfl rfl dL_errorPosition_13 (lq_x h90 hQ ho)
    · simp at hE9
set_option maxHeartbeats 4000000 in
set_option maxRecDepth 100000 in
theorem w_template {G : jG} {M : jM} {c v ol : Nat} {S : aSet} {P : List aSet} {V : Option aSet} {b : List Nat} {e : Option Nat} {u : Option aRun} {Z : jH} {q : Int32} (hs : (gL G).stackTraces = false) (h : cJ G M Z c v S P V b e u) (ho : lO G M Z c v ol) : JMet G jL_template [.ref c, .int q, .ref ol] M 1 6 7 (LQ G M Z c v ol cvL (opTemplate q) (S, P, V, b, e, u)) jNo := by
  refine jMet_ofH [some (.ref (c)), some (.int (q)), some (.ref (ol)), none] (by decide) (0, 9, 12, 13) [] rfl (Nat.le_of_ble_eq_true rfl) (rfl) hs ?_
  intro C hC9 hG
  have hC := hC9.z
  have hs9 := jOK0_tr hC
  subst hG
  obtain ⟨hzo, hoc, hov, hBo, g, hxo⟩ := id ho
  refine j_aload_n hC dL_template_0 rfl (jrf_ref _) ?_
  refine j_iconst (v := nI 0) hC dL_template_1 (by decide) ?_
  refine j_aload_n hC dL_template_2 rfl (jrf_ref _) ?_
  refine j_iload_n hC dL_template_3 rfl ?_
  refine j_callV hC kv_L_56 dL_template_4 (m_X9_template (q := q) hs9 h) h.1.1 rfl rfl rfl rfl (by decide) (Nat.le_refl _) (Nat.le_refl _) (Nat.le_of_ble_eq_true rfl) (fun v9 M1 h9 => ?_) (fun E9 M1 h9 => ?_)
  · obtain ⟨h90, rfl, hQ⟩ := h9
    have hrow := lw_row hQ hxo hoc hov
    refine j_i2l hC dL_template_7 ?_
    refine j_last hC dL_template_8 hrow hBo (vp_in_nI (by decide) (by decide)) ?_
    refine j_goto (tgt := 15) hC dL_template_9 (by decide) ?_
    refine j_iconst (v := nI 0) hC dL_template_15 (by decide) ?_
    exact j_iret hC9 rfl rfl dL_template_16 (lq_0 h90 hQ ho rfl)
  · obtain ⟨k9, h90, hE9, hQ⟩ := h9
    rcases k9 with _ | k9
    · have hE8 : "java/lang/IllegalArgumentException" = E9 := Option.some.inj hE9
      subst hE8
      refine jx_catch hC (by decide) [] ⟨0, 9, 12, 13⟩ [] rfl (fun z hz => absurd hz List.not_mem_nil) (by decide) (by decide) kc_L_13 (fun q9 => ?_)
      refine j_astore_n3 hC dL_template_12 (jrf_ref _) (by decide) rfl ?_
      refine j_iconst (v := nI 1) hC dL_template_13 (by decide) ?_
      exact j_iret hC9 rfl rfl dL_template_14 (lq_x h90 hQ ho)
    · simp at hE9
set_option maxHeartbeats 4000000 in
set_option maxRecDepth 100000 in
theorem w_item {G : jG} {M : jM} {c v ol : Nat} {S : aSet} {P : List aSet} {V : Option aSet} {b : List Nat} {e : Option Nat} {u : Option aRun} {Z : jH} {q r : Int32} (hs : (gL G).stackTraces = false) (h : cJ G M Z c v S P V b e u) (ho : lO G M Z c v ol) : JMet G jL_item [.ref c, .int q, .int r, .ref ol] M 2 12 9 (LQ G M Z c v ol cvL (opItem q r) (S, P, V, b, e, u)) jNo := by
  refine jMet_ofH [some (.ref (c)), some (.int (q)), some (.int (r)), some (.ref (ol)), none] (by decide) (0, 10, 13, 44) [(0, 10, 17, 13)] rfl (Nat.le_of_ble_eq_true rfl) (rfl) hs ?_
  intro C hC9 hG
  have hC := hC9.z
  have hs9 := jOK0_tr hC
  subst hG
  obtain ⟨hzo, hoc, hov, hBo, g, hxo⟩ := id ho
  refine j_aload_n hC dL_item_0 rfl (jrf_ref _) ?_
  refine j_iconst (v := nI 0) hC dL_item_1 (by decide) ?_
  refine j_aload_n hC dL_item_2 rfl (jrf_ref _) ?_
  refine j_iload_n hC dL_item_3 rfl ?_
  refine j_iload_n hC dL_item_4 rfl ?_
  refine j_callV hC kv_L_59 dL_item_5 (m_X9_item (q := q) (r := r) hs9 h) h.1.1 rfl rfl rfl rfl (by decide) (Nat.le_refl _) (Nat.le_refl _) (Nat.le_of_ble_eq_true rfl) (fun v9 M1 h9 => ?_) (fun E9 M1 h9 => ?_)
  · obtain ⟨h90, rfl, hQ⟩ := h9
    have hrow := lw_row hQ hxo hoc hov
    refine j_i2l hC dL_item_8 ?_
    refine j_last hC dL_item_9 hrow hBo (vp_in_nI (by decide) (by decide)) ?_
    refine j_goto (tgt := 21) hC dL_item_10 (by decide) ?_
    refine j_iconst (v := nI 0) hC dL_item_21 (by decide) ?_
    exact j_iret hC9 rfl rfl dL_item_22 (lq_0 h90 hQ ho rfl)
  · obtain ⟨k9, h90, hE9, hQ⟩ := h9
    rcases k9 with _ | _ | k9
    · have hE8 : "java/util/NoSuchElementException" = E9 := Option.some.inj hE9
      subst hE8
      refine jx_catch hC (by decide) [] ⟨0, 10, 13, 44⟩ [⟨0, 10, 17, 13⟩] rfl (fun z hz => absurd hz List.not_mem_nil) (by decide) (by decide) kc_L_44 (fun q9 => ?_)
      refine j_astore_4 hC dL_item_13 (jrf_ref _) (by decide) rfl ?_
      refine j_iconst (v := nI 1) hC dL_item_15 (by decide) ?_
      exact j_iret hC9 rfl rfl dL_item_16 (lq_x h90 hQ ho)
    · have hE8 : "java/lang/IllegalArgumentException" = E9 := Option.some.inj hE9
      subst hE8
      refine jx_catch hC (by decide) [⟨0, 10, 13, 44⟩] ⟨0, 10, 17, 13⟩ [] rfl (fun z hz => by simp only [List.mem_cons, List.not_mem_nil, or_false] at hz; rcases hz with rfl <;> first | exact ⟨by decide, "java/util/NoSuchElementException", by decide, kc_L_44, by decide⟩) (by decide) (by decide) kc_L_13 (fun q9 => ?_)
      refine j_astore_4 hC dL_item_17 (jrf_ref _) (by decide) rfl ?_
      refine j_iconst (v := nI 2) hC dL_item_19 (by decide) ?_
      exact j_iret hC9 rfl rfl dL_item_20 (lq_x h90 hQ ho)
    · simp at hE9
set_option maxHeartbeats 4000000 in
set_option maxRecDepth 100000 in
theorem w_counts {G : jG} {M : jM} {c v ol : Nat} {S : aSet} {P : List aSet} {V : Option aSet} {b : List Nat} {e : Option Nat} {u : Option aRun} {Z : jH} {q r : Int32} (hs : (gL G).stackTraces = false) (h : cJ G M Z c v S P V b e u) (ho : lO G M Z c v ol) : JMet G jL_counts [.ref c, .int q, .int r, .ref ol] M 2 12 9 (LQ G M Z c v ol cvB (opCounts q r) (S, P, V, b, e, u)) jNo := by
  refine jMet_ofH [some (.ref (c)), some (.int (q)), some (.int (r)), some (.ref (ol)), none] (by decide) (0, 17, 20, 24) [(0, 17, 24, 44)] rfl (Nat.le_of_ble_eq_true rfl) (rfl) hs ?_
  intro C hC9 hG
  have hC := hC9.z
  have hs9 := jOK0_tr hC
  subst hG
  obtain ⟨hzo, hoc, hov, hBo, g, hxo⟩ := id ho
  refine j_aload_n hC dL_counts_0 rfl (jrf_ref _) ?_
  refine j_iconst (v := nI 0) hC dL_counts_1 (by decide) ?_
  refine j_aload_n hC dL_counts_2 rfl (jrf_ref _) ?_
  refine j_iload_n hC dL_counts_3 rfl ?_
  refine j_iload_n hC dL_counts_4 rfl ?_
  refine j_callV hC kv_L_62 dL_counts_5 (m_X9_counts (q := q) (r := r) hs9 h) h.1.1 rfl rfl rfl rfl (by decide) (Nat.le_refl _) (Nat.le_refl _) (Nat.le_of_ble_eq_true rfl) (fun v9 M1 h9 => ?_) (fun E9 M1 h9 => ?_)
  · obtain ⟨h90, rfl, hQ⟩ := h9
    have hrow := lw_row hQ hxo hoc hov
    refine j_if_eq (tgt := 15) hC dL_counts_8 (by decide) (fun c1 => ?_) (fun c1 => ?_)
    · refine j_lconst (n := 0) (v := 0) hC dL_counts_15 rfl ?_
      refine j_last hC dL_counts_16 hrow hBo (vp_in_nI (by decide) (by decide)) ?_
      refine j_goto (tgt := 28) hC dL_counts_17 (by decide) ?_
      refine j_iconst (v := nI 0) hC dL_counts_28 (by decide) ?_
      exact j_iret hC9 rfl rfl dL_counts_29 (lq_0 h90 hQ ho (show (0 : Int64) = cvB _ from (if_pos (by assumption)).symm))
    · refine j_lconst (n := 1) (v := 1) hC dL_counts_11 rfl ?_
      refine j_goto (tgt := 16) hC dL_counts_12 (by decide) ?_
      refine j_last hC dL_counts_16 hrow hBo (vp_in_nI (by decide) (by decide)) ?_
      refine j_goto (tgt := 28) hC dL_counts_17 (by decide) ?_
      refine j_iconst (v := nI 0) hC dL_counts_28 (by decide) ?_
      exact j_iret hC9 rfl rfl dL_counts_29 (lq_0 h90 hQ ho (show (1 : Int64) = cvB _ from (if_neg (by assumption)).symm))
  · obtain ⟨k9, h90, hE9, hQ⟩ := h9
    rcases k9 with _ | _ | k9
    · have hE8 : "java/lang/IndexOutOfBoundsException" = E9 := Option.some.inj hE9
      subst hE8
      refine jx_catch hC (by decide) [] ⟨0, 17, 20, 24⟩ [⟨0, 17, 24, 44⟩] rfl (fun z hz => absurd hz List.not_mem_nil) (by decide) (by decide) kc_L_24 (fun q9 => ?_)
      refine j_astore_4 hC dL_counts_20 (jrf_ref _) (by decide) rfl ?_
      refine j_iconst (v := nI 1) hC dL_counts_22 (by decide) ?_
      exact j_iret hC9 rfl rfl dL_counts_23 (lq_x h90 hQ ho)
    · have hE8 : "java/util/NoSuchElementException" = E9 := Option.some.inj hE9
      subst hE8
      refine jx_catch hC (by decide) [⟨0, 17, 20, 24⟩] ⟨0, 17, 24, 44⟩ [] rfl (fun z hz => by simp only [List.mem_cons, List.not_mem_nil, or_false] at hz; rcases hz with rfl <;> first | exact ⟨by decide, "java/lang/IndexOutOfBoundsException", by decide, kc_L_24, by decide⟩) (by decide) (by decide) kc_L_44 (fun q9 => ?_)
      refine j_astore_4 hC dL_counts_24 (jrf_ref _) (by decide) rfl ?_
      refine j_iconst (v := nI 2) hC dL_counts_26 (by decide) ?_
      exact j_iret hC9 rfl rfl dL_counts_27 (lq_x h90 hQ ho)
    · simp at hE9
set_option maxHeartbeats 4000000 in
set_option maxRecDepth 100000 in
theorem w_setHome {G : jG} {M : jM} {c v ol : Nat} {S : aSet} {P : List aSet} {V : Option aSet} {b : List Nat} {e : Option Nat} {u : Option aRun} {Z : jH}  (hs : (gL G).stackTraces = false) (h : cJ G M Z c v S P V b e u) (ho : lO G M Z c v ol) : JMet G jL_setHome [.ref c, .ref ol] M 3 131 9 (LQ G M Z c v ol cvL (opHome) (S, P, V, b, e, u)) jNo := by
  refine jMet_ofH [some (.ref (c)), some (.ref (ol)), none] (by decide) (0, 8, 11, 13) [] rfl (Nat.le_of_ble_eq_true rfl) (rfl) hs ?_
  intro C hC9 hG
  have hC := hC9.z
  have hs9 := jOK0_tr hC
  subst hG
  obtain ⟨hzo, hoc, hov, hBo, g, hxo⟩ := id ho
  refine j_aload_n hC dL_setHome_0 rfl (jrf_ref _) ?_
  refine j_iconst (v := nI 0) hC dL_setHome_1 (by decide) ?_
  refine j_aload_n hC dL_setHome_2 rfl (jrf_ref _) ?_
  refine j_callV hC kv_L_66 dL_setHome_3 (m_X9_setHome hs9 h) h.1.1 rfl rfl rfl rfl (by decide) (Nat.le_refl _) (Nat.le_refl _) (Nat.le_of_ble_eq_true rfl) (fun v9 M1 h9 => ?_) (fun E9 M1 h9 => ?_)
  · obtain ⟨h90, rfl, hQ⟩ := h9
    have hrow := lw_row hQ hxo hoc hov
    refine j_i2l hC dL_setHome_6 ?_
    refine j_last hC dL_setHome_7 hrow hBo (vp_in_nI (by decide) (by decide)) ?_
    refine j_goto (tgt := 14) hC dL_setHome_8 (by decide) ?_
    refine j_iconst (v := nI 0) hC dL_setHome_14 (by decide) ?_
    exact j_iret hC9 rfl rfl dL_setHome_15 (lq_0 h90 hQ ho rfl)
  · obtain ⟨k9, h90, hE9, hQ⟩ := h9
    rcases k9 with _ | k9
    · have hE8 : "java/lang/IllegalArgumentException" = E9 := Option.some.inj hE9
      subst hE8
      refine jx_catch hC (by decide) [] ⟨0, 8, 11, 13⟩ [] rfl (fun z hz => absurd hz List.not_mem_nil) (by decide) (by decide) kc_L_13 (fun q9 => ?_)
      refine j_astore_n2 hC dL_setHome_11 (jrf_ref _) (by decide) rfl ?_
      refine j_iconst (v := nI 1) hC dL_setHome_12 (by decide) ?_
      exact j_iret hC9 rfl rfl dL_setHome_13 (lq_x h90 hQ ho)
    · simp at hE9
set_option maxHeartbeats 4000000 in
set_option maxRecDepth 100000 in
theorem w_setKeys {G : jG} {M : jM} {c v ol : Nat} {S : aSet} {P : List aSet} {V : Option aSet} {b : List Nat} {e : Option Nat} {u : Option aRun} {Z : jH} {q : Int32} (hs : (gL G).stackTraces = false) (h : cJ G M Z c v S P V b e u) (ho : lO G M Z c v ol) : JMet G jL_setKeys [.ref c, .int q, .ref ol] M 1 6 8 (LQ G M Z c v ol cvL (opSets 1 0 31 q) (S, P, V, b, e, u)) jNo := by
  refine jMet_ofH [some (.ref (c)), some (.int (q)), some (.ref (ol)), none] (by decide) (0, 9, 12, 13) [] rfl (Nat.le_of_ble_eq_true rfl) (rfl) hs ?_
  intro C hC9 hG
  have hC := hC9.z
  have hs9 := jOK0_tr hC
  subst hG
  obtain ⟨hzo, hoc, hov, hBo, g, hxo⟩ := id ho
  refine j_aload_n hC dL_setKeys_0 rfl (jrf_ref _) ?_
  refine j_iconst (v := nI 0) hC dL_setKeys_1 (by decide) ?_
  refine j_aload_n hC dL_setKeys_2 rfl (jrf_ref _) ?_
  refine j_iload_n hC dL_setKeys_3 rfl ?_
  refine j_callV hC kv_L_69 dL_setKeys_4 (m_X9_setKeys (q := q) hs9 h) h.1.1 rfl rfl rfl rfl (by decide) (Nat.le_refl _) (Nat.le_refl _) (Nat.le_of_ble_eq_true rfl) (fun v9 M1 h9 => ?_) (fun E9 M1 h9 => ?_)
  · obtain ⟨h90, rfl, hQ⟩ := h9
    have hrow := lw_row hQ hxo hoc hov
    refine j_i2l hC dL_setKeys_7 ?_
    refine j_last hC dL_setKeys_8 hrow hBo (vp_in_nI (by decide) (by decide)) ?_
    refine j_goto (tgt := 15) hC dL_setKeys_9 (by decide) ?_
    refine j_iconst (v := nI 0) hC dL_setKeys_15 (by decide) ?_
    exact j_iret hC9 rfl rfl dL_setKeys_16 (lq_0 h90 hQ ho rfl)
  · obtain ⟨k9, h90, hE9, hQ⟩ := h9
    rcases k9 with _ | k9
    · have hE8 : "java/lang/IllegalArgumentException" = E9 := Option.some.inj hE9
      subst hE8
      refine jx_catch hC (by decide) [] ⟨0, 9, 12, 13⟩ [] rfl (fun z hz => absurd hz List.not_mem_nil) (by decide) (by decide) kc_L_13 (fun q9 => ?_)
      refine j_astore_n3 hC dL_setKeys_12 (jrf_ref _) (by decide) rfl ?_
      refine j_iconst (v := nI 1) hC dL_setKeys_13 (by decide) ?_
      exact j_iret hC9 rfl rfl dL_setKeys_14 (lq_x h90 hQ ho)
    · simp at hE9
set_option maxHeartbeats 4000000 in
set_option maxRecDepth 100000 in
theorem w_setPolicy {G : jG} {M : jM} {c v ol : Nat} {S : aSet} {P : List aSet} {V : Option aSet} {b : List Nat} {e : Option Nat} {u : Option aRun} {Z : jH} {q : Int32} (hs : (gL G).stackTraces = false) (h : cJ G M Z c v S P V b e u) (ho : lO G M Z c v ol) : JMet G jL_setPolicy [.ref c, .int q, .ref ol] M 1 6 8 (LQ G M Z c v ol cvL (opSets 2 0 2 q) (S, P, V, b, e, u)) jNo := by
  refine jMet_ofH [some (.ref (c)), some (.int (q)), some (.ref (ol)), none] (by decide) (0, 9, 12, 13) [] rfl (Nat.le_of_ble_eq_true rfl) (rfl) hs ?_
  intro C hC9 hG
  have hC := hC9.z
  have hs9 := jOK0_tr hC
  subst hG
  obtain ⟨hzo, hoc, hov, hBo, g, hxo⟩ := id ho
  refine j_aload_n hC dL_setPolicy_0 rfl (jrf_ref _) ?_
  refine j_iconst (v := nI 0) hC dL_setPolicy_1 (by decide) ?_
  refine j_aload_n hC dL_setPolicy_2 rfl (jrf_ref _) ?_
  refine j_iload_n hC dL_setPolicy_3 rfl ?_
  refine j_callV hC kv_L_72 dL_setPolicy_4 (m_X9_setPolicy (q := q) hs9 h) h.1.1 rfl rfl rfl rfl (by decide) (Nat.le_refl _) (Nat.le_refl _) (Nat.le_of_ble_eq_true rfl) (fun v9 M1 h9 => ?_) (fun E9 M1 h9 => ?_)
  · obtain ⟨h90, rfl, hQ⟩ := h9
    have hrow := lw_row hQ hxo hoc hov
    refine j_i2l hC dL_setPolicy_7 ?_
    refine j_last hC dL_setPolicy_8 hrow hBo (vp_in_nI (by decide) (by decide)) ?_
    refine j_goto (tgt := 15) hC dL_setPolicy_9 (by decide) ?_
    refine j_iconst (v := nI 0) hC dL_setPolicy_15 (by decide) ?_
    exact j_iret hC9 rfl rfl dL_setPolicy_16 (lq_0 h90 hQ ho rfl)
  · obtain ⟨k9, h90, hE9, hQ⟩ := h9
    rcases k9 with _ | k9
    · have hE8 : "java/lang/IllegalArgumentException" = E9 := Option.some.inj hE9
      subst hE8
      refine jx_catch hC (by decide) [] ⟨0, 9, 12, 13⟩ [] rfl (fun z hz => absurd hz List.not_mem_nil) (by decide) (by decide) kc_L_13 (fun q9 => ?_)
      refine j_astore_n3 hC dL_setPolicy_12 (jrf_ref _) (by decide) rfl ?_
      refine j_iconst (v := nI 1) hC dL_setPolicy_13 (by decide) ?_
      exact j_iret hC9 rfl rfl dL_setPolicy_14 (lq_x h90 hQ ho)
    · simp at hE9
set_option maxHeartbeats 4000000 in
set_option maxRecDepth 100000 in
theorem w_exclude {G : jG} {M : jM} {c v ol : Nat} {S : aSet} {P : List aSet} {V : Option aSet} {b : List Nat} {e : Option Nat} {u : Option aRun} {Z : jH} {q : Int32} {r : Bool} (hs : (gL G).stackTraces = false) (h : cJ G M Z c v S P V b e u) (ho : lO G M Z c v ol) : JMet G jL_exclude [.ref c, .int q, .int (jb (r = true)), .ref ol] M 1 6 8 (LQ G M Z c v ol cvB (opExclude q r) (S, P, V, b, e, u)) jNo := by
  refine jMet_ofH [some (.ref (c)), some (.int (q)), some (.int (jb (r = true))), some (.ref (ol)), none] (by decide) (0, 17, 20, 24) [] rfl (Nat.le_of_ble_eq_true rfl) (rfl) hs ?_
  intro C hC9 hG
  have hC := hC9.z
  have hs9 := jOK0_tr hC
  subst hG
  obtain ⟨hzo, hoc, hov, hBo, g, hxo⟩ := id ho
  refine j_aload_n hC dL_exclude_0 rfl (jrf_ref _) ?_
  refine j_iconst (v := nI 0) hC dL_exclude_1 (by decide) ?_
  refine j_aload_n hC dL_exclude_2 rfl (jrf_ref _) ?_
  refine j_iload_n hC dL_exclude_3 rfl ?_
  refine j_iload_n hC dL_exclude_4 rfl ?_
  refine j_callV hC kv_L_75 dL_exclude_5 (m_X9_exclude (g := q) (q := r) hs9 h) h.1.1 rfl rfl rfl rfl (by decide) (Nat.le_refl _) (Nat.le_refl _) (Nat.le_of_ble_eq_true rfl) (fun v9 M1 h9 => ?_) (fun E9 M1 h9 => ?_)
  · obtain ⟨h90, rfl, hQ⟩ := h9
    have hrow := lw_row hQ hxo hoc hov
    refine j_if_eq (tgt := 15) hC dL_exclude_8 (by decide) (fun c1 => ?_) (fun c1 => ?_)
    · refine j_lconst (n := 0) (v := 0) hC dL_exclude_15 rfl ?_
      refine j_last hC dL_exclude_16 hrow hBo (vp_in_nI (by decide) (by decide)) ?_
      refine j_goto (tgt := 24) hC dL_exclude_17 (by decide) ?_
      refine j_iconst (v := nI 0) hC dL_exclude_24 (by decide) ?_
      exact j_iret hC9 rfl rfl dL_exclude_25 (lq_0 h90 hQ ho (show (0 : Int64) = cvB _ from (if_pos (by assumption)).symm))
    · refine j_lconst (n := 1) (v := 1) hC dL_exclude_11 rfl ?_
      refine j_goto (tgt := 16) hC dL_exclude_12 (by decide) ?_
      refine j_last hC dL_exclude_16 hrow hBo (vp_in_nI (by decide) (by decide)) ?_
      refine j_goto (tgt := 24) hC dL_exclude_17 (by decide) ?_
      refine j_iconst (v := nI 0) hC dL_exclude_24 (by decide) ?_
      exact j_iret hC9 rfl rfl dL_exclude_25 (lq_0 h90 hQ ho (show (1 : Int64) = cvB _ from (if_neg (by assumption)).symm))
  · obtain ⟨k9, h90, hE9, hQ⟩ := h9
    rcases k9 with _ | k9
    · have hE8 : "java/lang/IndexOutOfBoundsException" = E9 := Option.some.inj hE9
      subst hE8
      refine jx_catch hC (by decide) [] ⟨0, 17, 20, 24⟩ [] rfl (fun z hz => absurd hz List.not_mem_nil) (by decide) (by decide) kc_L_24 (fun q9 => ?_)
      refine j_astore_4 hC dL_exclude_20 (jrf_ref _) (by decide) rfl ?_
      refine j_iconst (v := nI 1) hC dL_exclude_22 (by decide) ?_
      exact j_iret hC9 rfl rfl dL_exclude_23 (lq_x h90 hQ ho)
    · simp at hE9
set_option maxHeartbeats 4000000 in
set_option maxRecDepth 100000 in
theorem w_setLimit {G : jG} {M : jM} {c v ol : Nat} {S : aSet} {P : List aSet} {V : Option aSet} {b : List Nat} {e : Option Nat} {u : Option aRun} {Z : jH} {q : Int32} (hs : (gL G).stackTraces = false) (h : cJ G M Z c v S P V b e u) (ho : lO G M Z c v ol) : JMet G jL_setLimit [.ref c, .int q, .ref ol] M 1 6 8 (LQ G M Z c v ol cvL (opSets 4 1 200 q) (S, P, V, b, e, u)) jNo := by
  refine jMet_ofH [some (.ref (c)), some (.int (q)), some (.ref (ol)), none] (by decide) (0, 9, 12, 13) [] rfl (Nat.le_of_ble_eq_true rfl) (rfl) hs ?_
  intro C hC9 hG
  have hC := hC9.z
  have hs9 := jOK0_tr hC
  subst hG
  obtain ⟨hzo, hoc, hov, hBo, g, hxo⟩ := id ho
  refine j_aload_n hC dL_setLimit_0 rfl (jrf_ref _) ?_
  refine j_iconst (v := nI 0) hC dL_setLimit_1 (by decide) ?_
  refine j_aload_n hC dL_setLimit_2 rfl (jrf_ref _) ?_
  refine j_iload_n hC dL_setLimit_3 rfl ?_
  refine j_callV hC kv_L_79 dL_setLimit_4 (m_X9_setLimit (q := q) hs9 h) h.1.1 rfl rfl rfl rfl (by decide) (Nat.le_refl _) (Nat.le_refl _) (Nat.le_of_ble_eq_true rfl) (fun v9 M1 h9 => ?_) (fun E9 M1 h9 => ?_)
  · obtain ⟨h90, rfl, hQ⟩ := h9
    have hrow := lw_row hQ hxo hoc hov
    refine j_i2l hC dL_setLimit_7 ?_
    refine j_last hC dL_setLimit_8 hrow hBo (vp_in_nI (by decide) (by decide)) ?_
    refine j_goto (tgt := 15) hC dL_setLimit_9 (by decide) ?_
    refine j_iconst (v := nI 0) hC dL_setLimit_15 (by decide) ?_
    exact j_iret hC9 rfl rfl dL_setLimit_16 (lq_0 h90 hQ ho rfl)
  · obtain ⟨k9, h90, hE9, hQ⟩ := h9
    rcases k9 with _ | k9
    · have hE8 : "java/lang/IllegalArgumentException" = E9 := Option.some.inj hE9
      subst hE8
      refine jx_catch hC (by decide) [] ⟨0, 9, 12, 13⟩ [] rfl (fun z hz => absurd hz List.not_mem_nil) (by decide) (by decide) kc_L_13 (fun q9 => ?_)
      refine j_astore_n3 hC dL_setLimit_12 (jrf_ref _) (by decide) rfl ?_
      refine j_iconst (v := nI 1) hC dL_setLimit_13 (by decide) ?_
      exact j_iret hC9 rfl rfl dL_setLimit_14 (lq_x h90 hQ ho)
    · simp at hE9
set_option maxHeartbeats 4000000 in
set_option maxRecDepth 100000 in
theorem w_setting {G : jG} {M : jM} {c v ol : Nat} {S : aSet} {P : List aSet} {V : Option aSet} {b : List Nat} {e : Option Nat} {u : Option aRun} {Z : jH} {q : Int32} (hs : (gL G).stackTraces = false) (h : cJ G M Z c v S P V b e u) (ho : lO G M Z c v ol) : JMet G jL_setting [.ref c, .int q, .ref ol] M 1 6 7 (LQ G M Z c v ol cvL (opSetting q) (S, P, V, b, e, u)) jNo := by
  refine jMet_ofH [some (.ref (c)), some (.int (q)), some (.ref (ol)), none] (by decide) (0, 9, 12, 13) [] rfl (Nat.le_of_ble_eq_true rfl) (rfl) hs ?_
  intro C hC9 hG
  have hC := hC9.z
  have hs9 := jOK0_tr hC
  subst hG
  obtain ⟨hzo, hoc, hov, hBo, g, hxo⟩ := id ho
  refine j_aload_n hC dL_setting_0 rfl (jrf_ref _) ?_
  refine j_iconst (v := nI 0) hC dL_setting_1 (by decide) ?_
  refine j_aload_n hC dL_setting_2 rfl (jrf_ref _) ?_
  refine j_iload_n hC dL_setting_3 rfl ?_
  refine j_callV hC kv_L_82 dL_setting_4 (m_X9_setting (q := q) hs9 h) h.1.1 rfl rfl rfl rfl (by decide) (Nat.le_refl _) (Nat.le_refl _) (Nat.le_of_ble_eq_true rfl) (fun v9 M1 h9 => ?_) (fun E9 M1 h9 => ?_)
  · obtain ⟨h90, rfl, hQ⟩ := h9
    have hrow := lw_row hQ hxo hoc hov
    refine j_i2l hC dL_setting_7 ?_
    refine j_last hC dL_setting_8 hrow hBo (vp_in_nI (by decide) (by decide)) ?_
    refine j_goto (tgt := 15) hC dL_setting_9 (by decide) ?_
    refine j_iconst (v := nI 0) hC dL_setting_15 (by decide) ?_
    exact j_iret hC9 rfl rfl dL_setting_16 (lq_0 h90 hQ ho rfl)
  · obtain ⟨k9, h90, hE9, hQ⟩ := h9
    rcases k9 with _ | k9
    · have hE8 : "java/lang/IllegalArgumentException" = E9 := Option.some.inj hE9
      subst hE8
      refine jx_catch hC (by decide) [] ⟨0, 9, 12, 13⟩ [] rfl (fun z hz => absurd hz List.not_mem_nil) (by decide) (by decide) kc_L_13 (fun q9 => ?_)
      refine j_astore_n3 hC dL_setting_12 (jrf_ref _) (by decide) rfl ?_
      refine j_iconst (v := nI 1) hC dL_setting_13 (by decide) ?_
      exact j_iret hC9 rfl rfl dL_setting_14 (lq_x h90 hQ ho)
    · simp at hE9
set_option maxHeartbeats 4000000 in
set_option maxRecDepth 100000 in
theorem w_run {G : jG} {M : jM} {c v ol : Nat} {S : aSet} {P : List aSet} {V : Option aSet} {b : List Nat} {e : Option Nat} {u : Option aRun} {Z : jH}  (hs : (gL G).stackTraces = false) (h : cJ G M Z c v S P V b e u) (ho : lO G M Z c v ol) : JMet G jL_run [.ref c, .ref ol] M 1 6 11 (LQ G M Z c v ol cvL (opRun) (S, P, V, b, e, u)) jNo := by
  refine jMet_ofH [some (.ref (c)), some (.ref (ol)), none] (by decide) (0, 8, 11, 15) [] rfl (Nat.le_of_ble_eq_true rfl) (rfl) hs ?_
  intro C hC9 hG
  have hC := hC9.z
  have hs9 := jOK0_tr hC
  subst hG
  obtain ⟨hzo, hoc, hov, hBo, g, hxo⟩ := id ho
  refine j_aload_n hC dL_run_0 rfl (jrf_ref _) ?_
  refine j_iconst (v := nI 0) hC dL_run_1 (by decide) ?_
  refine j_aload_n hC dL_run_2 rfl (jrf_ref _) ?_
  refine j_callV hC kv_L_85 dL_run_3 (m_X9_run hs9 h) h.1.1 rfl rfl rfl rfl (by decide) (Nat.le_refl _) (Nat.le_refl _) (Nat.le_of_ble_eq_true rfl) (fun v9 M1 h9 => ?_) (fun E9 M1 h9 => ?_)
  · obtain ⟨h90, rfl, hQ⟩ := h9
    have hrow := lw_row hQ hxo hoc hov
    refine j_i2l hC dL_run_6 ?_
    refine j_last hC dL_run_7 hrow hBo (vp_in_nI (by decide) (by decide)) ?_
    refine j_goto (tgt := 14) hC dL_run_8 (by decide) ?_
    refine j_iconst (v := nI 0) hC dL_run_14 (by decide) ?_
    exact j_iret hC9 rfl rfl dL_run_15 (lq_0 h90 hQ ho rfl)
  · obtain ⟨k9, h90, hE9, hQ⟩ := h9
    rcases k9 with _ | k9
    · have hE8 : "java/lang/IllegalStateException" = E9 := Option.some.inj hE9
      subst hE8
      refine jx_catch hC (by decide) [] ⟨0, 8, 11, 15⟩ [] rfl (fun z hz => absurd hz List.not_mem_nil) (by decide) (by decide) kc_L_15 (fun q9 => ?_)
      refine j_astore_n2 hC dL_run_11 (jrf_ref _) (by decide) rfl ?_
      refine j_iconst (v := nI 1) hC dL_run_12 (by decide) ?_
      exact j_iret hC9 rfl rfl dL_run_13 (lq_x h90 hQ ho)
    · simp at hE9
set_option maxHeartbeats 4000000 in
set_option maxRecDepth 100000 in
theorem w_reason {G : jG} {M : jM} {c v ol : Nat} {S : aSet} {P : List aSet} {V : Option aSet} {b : List Nat} {e : Option Nat} {u : Option aRun} {Z : jH} {q : Int32} (hs : (gL G).stackTraces = false) (h : cJ G M Z c v S P V b e u) (ho : lO G M Z c v ol) : JMet G jL_reason [.ref c, .int q, .ref ol] M 2 12 9 (LQ G M Z c v ol cvL (opReason q) (S, P, V, b, e, u)) jNo := by
  refine jMet_ofH [some (.ref (c)), some (.int (q)), some (.ref (ol)), none] (by decide) (0, 9, 12, 15) [(0, 9, 15, 24)] rfl (Nat.le_of_ble_eq_true rfl) (rfl) hs ?_
  intro C hC9 hG
  have hC := hC9.z
  have hs9 := jOK0_tr hC
  subst hG
  obtain ⟨hzo, hoc, hov, hBo, g, hxo⟩ := id ho
  refine j_aload_n hC dL_reason_0 rfl (jrf_ref _) ?_
  refine j_iconst (v := nI 0) hC dL_reason_1 (by decide) ?_
  refine j_aload_n hC dL_reason_2 rfl (jrf_ref _) ?_
  refine j_iload_n hC dL_reason_3 rfl ?_
  refine j_callV hC kv_L_88 dL_reason_4 (m_X9_reason (q := q) hs9 h) h.1.1 rfl rfl rfl rfl (by decide) (Nat.le_refl _) (Nat.le_refl _) (Nat.le_of_ble_eq_true rfl) (fun v9 M1 h9 => ?_) (fun E9 M1 h9 => ?_)
  · obtain ⟨h90, rfl, hQ⟩ := h9
    have hrow := lw_row hQ hxo hoc hov
    refine j_i2l hC dL_reason_7 ?_
    refine j_last hC dL_reason_8 hrow hBo (vp_in_nI (by decide) (by decide)) ?_
    refine j_goto (tgt := 18) hC dL_reason_9 (by decide) ?_
    refine j_iconst (v := nI 0) hC dL_reason_18 (by decide) ?_
    exact j_iret hC9 rfl rfl dL_reason_19 (lq_0 h90 hQ ho rfl)
  · obtain ⟨k9, h90, hE9, hQ⟩ := h9
    rcases k9 with _ | _ | k9
    · have hE8 : "java/lang/IllegalStateException" = E9 := Option.some.inj hE9
      subst hE8
      refine jx_catch hC (by decide) [] ⟨0, 9, 12, 15⟩ [⟨0, 9, 15, 24⟩] rfl (fun z hz => absurd hz List.not_mem_nil) (by decide) (by decide) kc_L_15 (fun q9 => ?_)
      refine j_astore_n3 hC dL_reason_12 (jrf_ref _) (by decide) rfl ?_
      refine j_iconst (v := nI 1) hC dL_reason_13 (by decide) ?_
      exact j_iret hC9 rfl rfl dL_reason_14 (lq_x h90 hQ ho)
    · have hE8 : "java/lang/IndexOutOfBoundsException" = E9 := Option.some.inj hE9
      subst hE8
      refine jx_catch hC (by decide) [⟨0, 9, 12, 15⟩] ⟨0, 9, 15, 24⟩ [] rfl (fun z hz => by simp only [List.mem_cons, List.not_mem_nil, or_false] at hz; rcases hz with rfl <;> first | exact ⟨by decide, "java/lang/IllegalStateException", by decide, kc_L_15, by decide⟩) (by decide) (by decide) kc_L_24 (fun q9 => ?_)
      refine j_astore_n3 hC dL_reason_15 (jrf_ref _) (by decide) rfl ?_
      refine j_iconst (v := nI 2) hC dL_reason_16 (by decide) ?_
      exact j_iret hC9 rfl rfl dL_reason_17 (lq_x h90 hQ ho)
    · simp at hE9
set_option maxHeartbeats 4000000 in
set_option maxRecDepth 100000 in
theorem w_reasons {G : jG} {M : jM} {c v ol : Nat} {S : aSet} {P : List aSet} {V : Option aSet} {b : List Nat} {e : Option Nat} {u : Option aRun} {Z : jH} {q : Int32} (hs : (gL G).stackTraces = false) (h : cJ G M Z c v S P V b e u) (ho : lO G M Z c v ol) : JMet G jL_reasons [.ref c, .int q, .ref ol] M 2 12 8 (LQ G M Z c v ol cvL (opReasons q) (S, P, V, b, e, u)) jNo := by
  refine jMet_ofH [some (.ref (c)), some (.int (q)), some (.ref (ol)), none] (by decide) (0, 9, 12, 15) [(0, 9, 15, 13)] rfl (Nat.le_of_ble_eq_true rfl) (rfl) hs ?_
  intro C hC9 hG
  have hC := hC9.z
  have hs9 := jOK0_tr hC
  subst hG
  obtain ⟨hzo, hoc, hov, hBo, g, hxo⟩ := id ho
  refine j_aload_n hC dL_reasons_0 rfl (jrf_ref _) ?_
  refine j_iconst (v := nI 0) hC dL_reasons_1 (by decide) ?_
  refine j_aload_n hC dL_reasons_2 rfl (jrf_ref _) ?_
  refine j_iload_n hC dL_reasons_3 rfl ?_
  refine j_callV hC kv_L_91 dL_reasons_4 (m_X9_reasons (q := q) hs9 h) h.1.1 rfl rfl rfl rfl (by decide) (Nat.le_refl _) (Nat.le_refl _) (Nat.le_of_ble_eq_true rfl) (fun v9 M1 h9 => ?_) (fun E9 M1 h9 => ?_)
  · obtain ⟨h90, rfl, hQ⟩ := h9
    have hrow := lw_row hQ hxo hoc hov
    refine j_i2l hC dL_reasons_7 ?_
    refine j_last hC dL_reasons_8 hrow hBo (vp_in_nI (by decide) (by decide)) ?_
    refine j_goto (tgt := 18) hC dL_reasons_9 (by decide) ?_
    refine j_iconst (v := nI 0) hC dL_reasons_18 (by decide) ?_
    exact j_iret hC9 rfl rfl dL_reasons_19 (lq_0 h90 hQ ho rfl)
  · obtain ⟨k9, h90, hE9, hQ⟩ := h9
    rcases k9 with _ | _ | k9
    · have hE8 : "java/lang/IllegalStateException" = E9 := Option.some.inj hE9
      subst hE8
      refine jx_catch hC (by decide) [] ⟨0, 9, 12, 15⟩ [⟨0, 9, 15, 13⟩] rfl (fun z hz => absurd hz List.not_mem_nil) (by decide) (by decide) kc_L_15 (fun q9 => ?_)
      refine j_astore_n3 hC dL_reasons_12 (jrf_ref _) (by decide) rfl ?_
      refine j_iconst (v := nI 1) hC dL_reasons_13 (by decide) ?_
      exact j_iret hC9 rfl rfl dL_reasons_14 (lq_x h90 hQ ho)
    · have hE8 : "java/lang/IllegalArgumentException" = E9 := Option.some.inj hE9
      subst hE8
      refine jx_catch hC (by decide) [⟨0, 9, 12, 15⟩] ⟨0, 9, 15, 13⟩ [] rfl (fun z hz => by simp only [List.mem_cons, List.not_mem_nil, or_false] at hz; rcases hz with rfl <;> first | exact ⟨by decide, "java/lang/IllegalStateException", by decide, kc_L_15, by decide⟩) (by decide) (by decide) kc_L_13 (fun q9 => ?_)
      refine j_astore_n3 hC dL_reasons_15 (jrf_ref _) (by decide) rfl ?_
      refine j_iconst (v := nI 2) hC dL_reasons_16 (by decide) ?_
      exact j_iret hC9 rfl rfl dL_reasons_17 (lq_x h90 hQ ho)
    · simp at hE9
set_option maxHeartbeats 4000000 in
set_option maxRecDepth 100000 in
theorem w_letter {G : jG} {M : jM} {c v ol : Nat} {S : aSet} {P : List aSet} {V : Option aSet} {b : List Nat} {e : Option Nat} {u : Option aRun} {Z : jH} {q r : Int32} (hs : (gL G).stackTraces = false) (h : cJ G M Z c v S P V b e u) (ho : lO G M Z c v ol) : JMet G jL_letter [.ref c, .int q, .int r, .ref ol] M 3 18 9 (LQ G M Z c v ol cvL (opLetter q r) (S, P, V, b, e, u)) jNo := by
  refine jMet_ofH [some (.ref (c)), some (.int (q)), some (.int (r)), some (.ref (ol)), none] (by decide) (0, 10, 13, 15) [(0, 10, 17, 24), (0, 10, 21, 97), (0, 10, 25, 44)] rfl (Nat.le_of_ble_eq_true rfl) (rfl) hs ?_
  intro C hC9 hG
  have hC := hC9.z
  have hs9 := jOK0_tr hC
  subst hG
  obtain ⟨hzo, hoc, hov, hBo, g, hxo⟩ := id ho
  refine j_aload_n hC dL_letter_0 rfl (jrf_ref _) ?_
  refine j_iconst (v := nI 0) hC dL_letter_1 (by decide) ?_
  refine j_aload_n hC dL_letter_2 rfl (jrf_ref _) ?_
  refine j_iload_n hC dL_letter_3 rfl ?_
  refine j_iload_n hC dL_letter_4 rfl ?_
  refine j_callV hC kv_L_94 dL_letter_5 (m_X9_letter (q := q) (r := r) hs9 h) h.1.1 rfl rfl rfl rfl (by decide) (Nat.le_refl _) (Nat.le_refl _) (Nat.le_of_ble_eq_true rfl) (fun v9 M1 h9 => ?_) (fun E9 M1 h9 => ?_)
  · obtain ⟨h90, rfl, hQ⟩ := h9
    have hrow := lw_row hQ hxo hoc hov
    refine j_i2l hC dL_letter_8 ?_
    refine j_last hC dL_letter_9 hrow hBo (vp_in_nI (by decide) (by decide)) ?_
    refine j_goto (tgt := 29) hC dL_letter_10 (by decide) ?_
    refine j_iconst (v := nI 0) hC dL_letter_29 (by decide) ?_
    exact j_iret hC9 rfl rfl dL_letter_30 (lq_0 h90 hQ ho rfl)
  · obtain ⟨k9, h90, hE9, hQ⟩ := h9
    rcases k9 with _ | _ | _ | _ | k9
    · have hE8 : "java/lang/IllegalStateException" = E9 := Option.some.inj hE9
      subst hE8
      refine jx_catch hC (by decide) [] ⟨0, 10, 13, 15⟩ [⟨0, 10, 17, 24⟩, ⟨0, 10, 21, 97⟩, ⟨0, 10, 25, 44⟩] rfl (fun z hz => absurd hz List.not_mem_nil) (by decide) (by decide) kc_L_15 (fun q9 => ?_)
      refine j_astore_4 hC dL_letter_13 (jrf_ref _) (by decide) rfl ?_
      refine j_iconst (v := nI 1) hC dL_letter_15 (by decide) ?_
      exact j_iret hC9 rfl rfl dL_letter_16 (lq_x h90 hQ ho)
    · have hE8 : "java/lang/IndexOutOfBoundsException" = E9 := Option.some.inj hE9
      subst hE8
      refine jx_catch hC (by decide) [⟨0, 10, 13, 15⟩] ⟨0, 10, 17, 24⟩ [⟨0, 10, 21, 97⟩, ⟨0, 10, 25, 44⟩] rfl (fun z hz => by simp only [List.mem_cons, List.not_mem_nil, or_false] at hz; rcases hz with rfl <;> first | exact ⟨by decide, "java/lang/IllegalStateException", by decide, kc_L_15, by decide⟩) (by decide) (by decide) kc_L_24 (fun q9 => ?_)
      refine j_astore_4 hC dL_letter_17 (jrf_ref _) (by decide) rfl ?_
      refine j_iconst (v := nI 2) hC dL_letter_19 (by decide) ?_
      exact j_iret hC9 rfl rfl dL_letter_20 (lq_x h90 hQ ho)
    · have hE8 : "java/lang/UnsupportedOperationException" = E9 := Option.some.inj hE9
      subst hE8
      refine jx_catch hC (by decide) [⟨0, 10, 13, 15⟩, ⟨0, 10, 17, 24⟩] ⟨0, 10, 21, 97⟩ [⟨0, 10, 25, 44⟩] rfl (fun z hz => by simp only [List.mem_cons, List.not_mem_nil, or_false] at hz; rcases hz with rfl | rfl <;> first | exact ⟨by decide, "java/lang/IllegalStateException", by decide, kc_L_15, by decide⟩ | exact ⟨by decide, "java/lang/IndexOutOfBoundsException", by decide, kc_L_24, by decide⟩) (by decide) (by decide) kc_L_97 (fun q9 => ?_)
      refine j_astore_4 hC dL_letter_21 (jrf_ref _) (by decide) rfl ?_
      refine j_iconst (v := nI 3) hC dL_letter_23 (by decide) ?_
      exact j_iret hC9 rfl rfl dL_letter_24 (lq_x h90 hQ ho)
    · have hE8 : "java/util/NoSuchElementException" = E9 := Option.some.inj hE9
      subst hE8
      refine jx_catch hC (by decide) [⟨0, 10, 13, 15⟩, ⟨0, 10, 17, 24⟩, ⟨0, 10, 21, 97⟩] ⟨0, 10, 25, 44⟩ [] rfl (fun z hz => by simp only [List.mem_cons, List.not_mem_nil, or_false] at hz; rcases hz with rfl | rfl | rfl <;> first | exact ⟨by decide, "java/lang/IllegalStateException", by decide, kc_L_15, by decide⟩ | exact ⟨by decide, "java/lang/IndexOutOfBoundsException", by decide, kc_L_24, by decide⟩ | exact ⟨by decide, "java/lang/UnsupportedOperationException", by decide, kc_L_97, by decide⟩) (by decide) (by decide) kc_L_44 (fun q9 => ?_)
      refine j_astore_4 hC dL_letter_25 (jrf_ref _) (by decide) rfl ?_
      refine j_iconst (v := nI 4) hC dL_letter_27 (by decide) ?_
      exact j_iret hC9 rfl rfl dL_letter_28 (lq_x h90 hQ ho)
    · simp at hE9
set_option maxHeartbeats 4000000 in
set_option maxRecDepth 100000 in
theorem w_chain {G : jG} {M : jM} {c v ol : Nat} {S : aSet} {P : List aSet} {V : Option aSet} {b : List Nat} {e : Option Nat} {u : Option aRun} {Z : jH} {q r : Int32} (hs : (gL G).stackTraces = false) (h : cJ G M Z c v S P V b e u) (ho : lO G M Z c v ol) : JMet G jL_chain [.ref c, .int q, .int r, .ref ol] M 3 18 9 (LQ G M Z c v ol cvL (opChain q r) (S, P, V, b, e, u)) jNo := by
  refine jMet_ofH [some (.ref (c)), some (.int (q)), some (.int (r)), some (.ref (ol)), none] (by decide) (0, 10, 13, 15) [(0, 10, 17, 24), (0, 10, 21, 97), (0, 10, 25, 44)] rfl (Nat.le_of_ble_eq_true rfl) (rfl) hs ?_
  intro C hC9 hG
  have hC := hC9.z
  have hs9 := jOK0_tr hC
  subst hG
  obtain ⟨hzo, hoc, hov, hBo, g, hxo⟩ := id ho
  refine j_aload_n hC dL_chain_0 rfl (jrf_ref _) ?_
  refine j_iconst (v := nI 0) hC dL_chain_1 (by decide) ?_
  refine j_aload_n hC dL_chain_2 rfl (jrf_ref _) ?_
  refine j_iload_n hC dL_chain_3 rfl ?_
  refine j_iload_n hC dL_chain_4 rfl ?_
  refine j_callV hC kv_L_99 dL_chain_5 (m_X9_chain (q := q) (r := r) hs9 h) h.1.1 rfl rfl rfl rfl (by decide) (Nat.le_refl _) (Nat.le_refl _) (Nat.le_of_ble_eq_true rfl) (fun v9 M1 h9 => ?_) (fun E9 M1 h9 => ?_)
  · obtain ⟨h90, rfl, hQ⟩ := h9
    have hrow := lw_row hQ hxo hoc hov
    refine j_i2l hC dL_chain_8 ?_
    refine j_last hC dL_chain_9 hrow hBo (vp_in_nI (by decide) (by decide)) ?_
    refine j_goto (tgt := 29) hC dL_chain_10 (by decide) ?_
    refine j_iconst (v := nI 0) hC dL_chain_29 (by decide) ?_
    exact j_iret hC9 rfl rfl dL_chain_30 (lq_0 h90 hQ ho rfl)
  · obtain ⟨k9, h90, hE9, hQ⟩ := h9
    rcases k9 with _ | _ | _ | _ | k9
    · have hE8 : "java/lang/IllegalStateException" = E9 := Option.some.inj hE9
      subst hE8
      refine jx_catch hC (by decide) [] ⟨0, 10, 13, 15⟩ [⟨0, 10, 17, 24⟩, ⟨0, 10, 21, 97⟩, ⟨0, 10, 25, 44⟩] rfl (fun z hz => absurd hz List.not_mem_nil) (by decide) (by decide) kc_L_15 (fun q9 => ?_)
      refine j_astore_4 hC dL_chain_13 (jrf_ref _) (by decide) rfl ?_
      refine j_iconst (v := nI 1) hC dL_chain_15 (by decide) ?_
      exact j_iret hC9 rfl rfl dL_chain_16 (lq_x h90 hQ ho)
    · have hE8 : "java/lang/IndexOutOfBoundsException" = E9 := Option.some.inj hE9
      subst hE8
      refine jx_catch hC (by decide) [⟨0, 10, 13, 15⟩] ⟨0, 10, 17, 24⟩ [⟨0, 10, 21, 97⟩, ⟨0, 10, 25, 44⟩] rfl (fun z hz => by simp only [List.mem_cons, List.not_mem_nil, or_false] at hz; rcases hz with rfl <;> first | exact ⟨by decide, "java/lang/IllegalStateException", by decide, kc_L_15, by decide⟩) (by decide) (by decide) kc_L_24 (fun q9 => ?_)
      refine j_astore_4 hC dL_chain_17 (jrf_ref _) (by decide) rfl ?_
      refine j_iconst (v := nI 2) hC dL_chain_19 (by decide) ?_
      exact j_iret hC9 rfl rfl dL_chain_20 (lq_x h90 hQ ho)
    · have hE8 : "java/lang/UnsupportedOperationException" = E9 := Option.some.inj hE9
      subst hE8
      refine jx_catch hC (by decide) [⟨0, 10, 13, 15⟩, ⟨0, 10, 17, 24⟩] ⟨0, 10, 21, 97⟩ [⟨0, 10, 25, 44⟩] rfl (fun z hz => by simp only [List.mem_cons, List.not_mem_nil, or_false] at hz; rcases hz with rfl | rfl <;> first | exact ⟨by decide, "java/lang/IllegalStateException", by decide, kc_L_15, by decide⟩ | exact ⟨by decide, "java/lang/IndexOutOfBoundsException", by decide, kc_L_24, by decide⟩) (by decide) (by decide) kc_L_97 (fun q9 => ?_)
      refine j_astore_4 hC dL_chain_21 (jrf_ref _) (by decide) rfl ?_
      refine j_iconst (v := nI 3) hC dL_chain_23 (by decide) ?_
      exact j_iret hC9 rfl rfl dL_chain_24 (lq_x h90 hQ ho)
    · have hE8 : "java/util/NoSuchElementException" = E9 := Option.some.inj hE9
      subst hE8
      refine jx_catch hC (by decide) [⟨0, 10, 13, 15⟩, ⟨0, 10, 17, 24⟩, ⟨0, 10, 21, 97⟩] ⟨0, 10, 25, 44⟩ [] rfl (fun z hz => by simp only [List.mem_cons, List.not_mem_nil, or_false] at hz; rcases hz with rfl | rfl | rfl <;> first | exact ⟨by decide, "java/lang/IllegalStateException", by decide, kc_L_15, by decide⟩ | exact ⟨by decide, "java/lang/IndexOutOfBoundsException", by decide, kc_L_24, by decide⟩ | exact ⟨by decide, "java/lang/UnsupportedOperationException", by decide, kc_L_97, by decide⟩) (by decide) (by decide) kc_L_44 (fun q9 => ?_)
      refine j_astore_4 hC dL_chain_25 (jrf_ref _) (by decide) rfl ?_
      refine j_iconst (v := nI 4) hC dL_chain_27 (by decide) ?_
      exact j_iret hC9 rfl rfl dL_chain_28 (lq_x h90 hQ ho)
    · simp at hE9
set_option maxHeartbeats 4000000 in
set_option maxRecDepth 100000 in
theorem w_kept {G : jG} {M : jM} {c v ol : Nat} {S : aSet} {P : List aSet} {V : Option aSet} {b : List Nat} {e : Option Nat} {u : Option aRun} {Z : jH} {q : Int32} (hs : (gL G).stackTraces = false) (h : cJ G M Z c v S P V b e u) (ho : lO G M Z c v ol) : JMet G jL_kept [.ref c, .int q, .ref ol] M 2 12 9 (LQ G M Z c v ol cvL (opKept q) (S, P, V, b, e, u)) jNo := by
  refine jMet_ofH [some (.ref (c)), some (.int (q)), some (.ref (ol)), none] (by decide) (0, 9, 12, 24) [(0, 9, 15, 97)] rfl (Nat.le_of_ble_eq_true rfl) (rfl) hs ?_
  intro C hC9 hG
  have hC := hC9.z
  have hs9 := jOK0_tr hC
  subst hG
  obtain ⟨hzo, hoc, hov, hBo, g, hxo⟩ := id ho
  refine j_aload_n hC dL_kept_0 rfl (jrf_ref _) ?_
  refine j_iconst (v := nI 0) hC dL_kept_1 (by decide) ?_
  refine j_aload_n hC dL_kept_2 rfl (jrf_ref _) ?_
  refine j_iload_n hC dL_kept_3 rfl ?_
  refine j_callV hC kv_L_102 dL_kept_4 (m_X9_kept (q := q) hs9 h) h.1.1 rfl rfl rfl rfl (by decide) (Nat.le_refl _) (Nat.le_refl _) (Nat.le_of_ble_eq_true rfl) (fun v9 M1 h9 => ?_) (fun E9 M1 h9 => ?_)
  · obtain ⟨h90, rfl, hQ⟩ := h9
    have hrow := lw_row hQ hxo hoc hov
    refine j_i2l hC dL_kept_7 ?_
    refine j_last hC dL_kept_8 hrow hBo (vp_in_nI (by decide) (by decide)) ?_
    refine j_goto (tgt := 18) hC dL_kept_9 (by decide) ?_
    refine j_iconst (v := nI 0) hC dL_kept_18 (by decide) ?_
    exact j_iret hC9 rfl rfl dL_kept_19 (lq_0 h90 hQ ho rfl)
  · obtain ⟨k9, h90, hE9, hQ⟩ := h9
    rcases k9 with _ | _ | k9
    · have hE8 : "java/lang/IndexOutOfBoundsException" = E9 := Option.some.inj hE9
      subst hE8
      refine jx_catch hC (by decide) [] ⟨0, 9, 12, 24⟩ [⟨0, 9, 15, 97⟩] rfl (fun z hz => absurd hz List.not_mem_nil) (by decide) (by decide) kc_L_24 (fun q9 => ?_)
      refine j_astore_n3 hC dL_kept_12 (jrf_ref _) (by decide) rfl ?_
      refine j_iconst (v := nI 1) hC dL_kept_13 (by decide) ?_
      exact j_iret hC9 rfl rfl dL_kept_14 (lq_x h90 hQ ho)
    · have hE8 : "java/lang/UnsupportedOperationException" = E9 := Option.some.inj hE9
      subst hE8
      refine jx_catch hC (by decide) [⟨0, 9, 12, 24⟩] ⟨0, 9, 15, 97⟩ [] rfl (fun z hz => by simp only [List.mem_cons, List.not_mem_nil, or_false] at hz; rcases hz with rfl <;> first | exact ⟨by decide, "java/lang/IndexOutOfBoundsException", by decide, kc_L_24, by decide⟩) (by decide) (by decide) kc_L_97 (fun q9 => ?_)
      refine j_astore_n3 hC dL_kept_15 (jrf_ref _) (by decide) rfl ?_
      refine j_iconst (v := nI 2) hC dL_kept_16 (by decide) ?_
      exact j_iret hC9 rfl rfl dL_kept_17 (lq_x h90 hQ ho)
    · simp at hE9
set_option maxHeartbeats 4000000 in
set_option maxRecDepth 100000 in
theorem w_preview {G : jG} {M : jM} {c v ol : Nat} {S : aSet} {P : List aSet} {V : Option aSet} {b : List Nat} {e : Option Nat} {u : Option aRun} {Z : jH} {q : Int32} (hs : (gL G).stackTraces = false) (h : cJ G M Z c v S P V b e u) (ho : lO G M Z c v ol) : JMet G jL_preview [.ref c, .int q, .ref ol] M 1 6 10 (LQ G M Z c v ol cvL (opPreview q) (S, P, V, b, e, u)) jNo := by
  refine jMet_ofH [some (.ref (c)), some (.int (q)), some (.ref (ol)), none] (by decide) (0, 9, 12, 24) [] rfl (Nat.le_of_ble_eq_true rfl) (rfl) hs ?_
  intro C hC9 hG
  have hC := hC9.z
  have hs9 := jOK0_tr hC
  subst hG
  obtain ⟨hzo, hoc, hov, hBo, g, hxo⟩ := id ho
  refine j_aload_n hC dL_preview_0 rfl (jrf_ref _) ?_
  refine j_iconst (v := nI 0) hC dL_preview_1 (by decide) ?_
  refine j_aload_n hC dL_preview_2 rfl (jrf_ref _) ?_
  refine j_iload_n hC dL_preview_3 rfl ?_
  refine j_callV hC kv_L_105 dL_preview_4 (m_X9_preview (q := q) hs9 h) h.1.1 rfl rfl rfl rfl (by decide) (Nat.le_refl _) (Nat.le_refl _) (Nat.le_of_ble_eq_true rfl) (fun v9 M1 h9 => ?_) (fun E9 M1 h9 => ?_)
  · obtain ⟨h90, rfl, hQ⟩ := h9
    have hrow := lw_row hQ hxo hoc hov
    refine j_i2l hC dL_preview_7 ?_
    refine j_last hC dL_preview_8 hrow hBo (vp_in_nI (by decide) (by decide)) ?_
    refine j_goto (tgt := 15) hC dL_preview_9 (by decide) ?_
    refine j_iconst (v := nI 0) hC dL_preview_15 (by decide) ?_
    exact j_iret hC9 rfl rfl dL_preview_16 (lq_0 h90 hQ ho rfl)
  · obtain ⟨k9, h90, hE9, hQ⟩ := h9
    rcases k9 with _ | k9
    · have hE8 : "java/lang/IndexOutOfBoundsException" = E9 := Option.some.inj hE9
      subst hE8
      refine jx_catch hC (by decide) [] ⟨0, 9, 12, 24⟩ [] rfl (fun z hz => absurd hz List.not_mem_nil) (by decide) (by decide) kc_L_24 (fun q9 => ?_)
      refine j_astore_n3 hC dL_preview_12 (jrf_ref _) (by decide) rfl ?_
      refine j_iconst (v := nI 1) hC dL_preview_13 (by decide) ?_
      exact j_iret hC9 rfl rfl dL_preview_14 (lq_x h90 hQ ho)
    · simp at hE9
set_option maxHeartbeats 4000000 in
set_option maxRecDepth 100000 in
theorem w_meanLength {G : jG} {M : jM} {c v ol : Nat} {S : aSet} {P : List aSet} {V : Option aSet} {b : List Nat} {e : Option Nat} {u : Option aRun} {Z : jH}  (hs : (gL G).stackTraces = false) (h : cJ G M Z c v S P V b e u) (ho : lD G M Z c v ol) : JMet G jL_meanLength [.ref c, .ref ol] M 2 12 8 (LQd G M Z c v ol relD (opMean) (S, P, V, b, e, u)) jNo := by
  refine jMet_ofH [some (.ref (c)), some (.ref (ol)), none] (by decide) (0, 7, 10, 15) [(0, 7, 13, 112)] rfl (Nat.le_of_ble_eq_true rfl) (rfl) hs ?_
  intro C hC9 hG
  have hC := hC9.z
  have hs9 := jOK0_tr hC
  subst hG
  obtain ⟨hzo, hoc, hov, hBo, g, hxo⟩ := id ho
  refine j_aload_n hC dL_meanLength_0 rfl (jrf_ref _) ?_
  refine j_iconst (v := nI 0) hC dL_meanLength_1 (by decide) ?_
  refine j_aload_n hC dL_meanLength_2 rfl (jrf_ref _) ?_
  refine j_callV hC kv_L_108 dL_meanLength_3 (m_X9_meanLength hs9 h) h.1.1 rfl rfl rfl rfl (by decide) (Nat.le_refl _) (Nat.le_refl _) (Nat.le_of_ble_eq_true rfl) (fun v9 M1 h9 => ?_) (fun E9 M1 h9 => ?_)
  · obtain ⟨h90, rfl, hQ⟩ := h9
    have hrow := lw_row hQ hxo hoc hov
    obtain ⟨x9, hx9⟩ := mean_d (T := (S, P, V, b, e, u))
    rw [hx9]
    refine j_dast hC dL_meanLength_6 hrow hBo (vp_in_nI (by decide) (by decide)) ?_
    refine j_goto (tgt := 16) hC dL_meanLength_7 (by decide) ?_
    refine j_iconst (v := nI 0) hC dL_meanLength_16 (by decide) ?_
    exact j_iret hC9 rfl rfl dL_meanLength_17 (lqd_0 h90 hQ ho hx9)
  · obtain ⟨k9, h90, hE9, hQ⟩ := h9
    rcases k9 with _ | _ | k9
    · have hE8 : "java/lang/IllegalStateException" = E9 := Option.some.inj hE9
      subst hE8
      refine jx_catch hC (by decide) [] ⟨0, 7, 10, 15⟩ [⟨0, 7, 13, 112⟩] rfl (fun z hz => absurd hz List.not_mem_nil) (by decide) (by decide) kc_L_15 (fun q9 => ?_)
      refine j_astore_n2 hC dL_meanLength_10 (jrf_ref _) (by decide) rfl ?_
      refine j_iconst (v := nI 1) hC dL_meanLength_11 (by decide) ?_
      exact j_iret hC9 rfl rfl dL_meanLength_12 (lqd_x h90 hQ ho)
    · have hE8 : "java/lang/ArithmeticException" = E9 := Option.some.inj hE9
      subst hE8
      refine jx_catch hC (by decide) [⟨0, 7, 10, 15⟩] ⟨0, 7, 13, 112⟩ [] rfl (fun z hz => by simp only [List.mem_cons, List.not_mem_nil, or_false] at hz; rcases hz with rfl <;> first | exact ⟨by decide, "java/lang/IllegalStateException", by decide, kc_L_15, by decide⟩) (by decide) (by decide) kc_L_112 (fun q9 => ?_)
      refine j_astore_n2 hC dL_meanLength_13 (jrf_ref _) (by decide) rfl ?_
      refine j_iconst (v := nI 2) hC dL_meanLength_14 (by decide) ?_
      exact j_iret hC9 rfl rfl dL_meanLength_15 (lqd_x h90 hQ ho)
    · simp at hE9
set_option maxHeartbeats 4000000 in
set_option maxRecDepth 100000 in
theorem w_share {G : jG} {M : jM} {c v ol : Nat} {S : aSet} {P : List aSet} {V : Option aSet} {b : List Nat} {e : Option Nat} {u : Option aRun} {Z : jH}  (hs : (gL G).stackTraces = false) (h : cJ G M Z c v S P V b e u) (ho : lD G M Z c v ol) : JMet G jL_share [.ref c, .ref ol] M 1 6 8 (LQd G M Z c v ol relF (opShare) (S, P, V, b, e, u)) jNo := by
  refine jMet_ofH [some (.ref (c)), some (.ref (ol)), none] (by decide) (0, 8, 11, 15) [] rfl (Nat.le_of_ble_eq_true rfl) (rfl) hs ?_
  intro C hC9 hG
  have hC := hC9.z
  have hs9 := jOK0_tr hC
  subst hG
  obtain ⟨hzo, hoc, hov, hBo, g, hxo⟩ := id ho
  refine j_aload_n hC dL_share_0 rfl (jrf_ref _) ?_
  refine j_iconst (v := nI 0) hC dL_share_1 (by decide) ?_
  refine j_aload_n hC dL_share_2 rfl (jrf_ref _) ?_
  refine j_callV hC kv_L_114 dL_share_3 (m_X9_share hs9 h) h.1.1 rfl rfl rfl rfl (by decide) (Nat.le_refl _) (Nat.le_refl _) (Nat.le_of_ble_eq_true rfl) (fun v9 M1 h9 => ?_) (fun E9 M1 h9 => ?_)
  · obtain ⟨h90, rfl, hQ⟩ := h9
    have hrow := lw_row hQ hxo hoc hov
    obtain ⟨x9, hx9, hn9, -⟩ := share_f (T := (S, P, V, b, e, u)) h
    rw [hx9]
    refine j_f2d hC dL_share_6 hn9 ?_
    refine j_dast hC dL_share_7 hrow hBo (vp_in_nI (by decide) (by decide)) ?_
    refine j_goto (tgt := 14) hC dL_share_8 (by decide) ?_
    refine j_iconst (v := nI 0) hC dL_share_14 (by decide) ?_
    exact j_iret hC9 rfl rfl dL_share_15 (lqd_0 h90 hQ ho ⟨x9, hx9, rfl⟩)
  · obtain ⟨k9, h90, hE9, hQ⟩ := h9
    rcases k9 with _ | k9
    · have hE8 : "java/lang/IllegalStateException" = E9 := Option.some.inj hE9
      subst hE8
      refine jx_catch hC (by decide) [] ⟨0, 8, 11, 15⟩ [] rfl (fun z hz => absurd hz List.not_mem_nil) (by decide) (by decide) kc_L_15 (fun q9 => ?_)
      refine j_astore_n2 hC dL_share_11 (jrf_ref _) (by decide) rfl ?_
      refine j_iconst (v := nI 1) hC dL_share_12 (by decide) ?_
      exact j_iret hC9 rfl rfl dL_share_13 (lqd_x h90 hQ ho)
    · simp at hE9
set_option maxHeartbeats 4000000 in
set_option maxRecDepth 100000 in
theorem w_undo {G : jG} {M : jM} {c v ol : Nat} {S : aSet} {P : List aSet} {V : Option aSet} {b : List Nat} {e : Option Nat} {u : Option aRun} {Z : jH}  (hs : (gL G).stackTraces = false) (h : cJ G M Z c v S P V b e u) (ho : lO G M Z c v ol) : JMet G jL_undo [.ref c, .ref ol] M 1 6 8 (LQ G M Z c v ol cvL (opUndo) (S, P, V, b, e, u)) jNo := by
  refine jMet_ofH [some (.ref (c)), some (.ref (ol)), none] (by decide) (0, 8, 11, 15) [] rfl (Nat.le_of_ble_eq_true rfl) (rfl) hs ?_
  intro C hC9 hG
  have hC := hC9.z
  have hs9 := jOK0_tr hC
  subst hG
  obtain ⟨hzo, hoc, hov, hBo, g, hxo⟩ := id ho
  refine j_aload_n hC dL_undo_0 rfl (jrf_ref _) ?_
  refine j_iconst (v := nI 0) hC dL_undo_1 (by decide) ?_
  refine j_aload_n hC dL_undo_2 rfl (jrf_ref _) ?_
  refine j_callV hC kv_L_118 dL_undo_3 (m_X9_undo hs9 h) h.1.1 rfl rfl rfl rfl (by decide) (Nat.le_refl _) (Nat.le_refl _) (Nat.le_of_ble_eq_true rfl) (fun v9 M1 h9 => ?_) (fun E9 M1 h9 => ?_)
  · obtain ⟨h90, rfl, hQ⟩ := h9
    have hrow := lw_row hQ hxo hoc hov
    refine j_i2l hC dL_undo_6 ?_
    refine j_last hC dL_undo_7 hrow hBo (vp_in_nI (by decide) (by decide)) ?_
    refine j_goto (tgt := 14) hC dL_undo_8 (by decide) ?_
    refine j_iconst (v := nI 0) hC dL_undo_14 (by decide) ?_
    exact j_iret hC9 rfl rfl dL_undo_15 (lq_0 h90 hQ ho rfl)
  · obtain ⟨k9, h90, hE9, hQ⟩ := h9
    rcases k9 with _ | k9
    · have hE8 : "java/lang/IllegalStateException" = E9 := Option.some.inj hE9
      subst hE8
      refine jx_catch hC (by decide) [] ⟨0, 8, 11, 15⟩ [] rfl (fun z hz => absurd hz List.not_mem_nil) (by decide) (by decide) kc_L_15 (fun q9 => ?_)
      refine j_astore_n2 hC dL_undo_11 (jrf_ref _) (by decide) rfl ?_
      refine j_iconst (v := nI 1) hC dL_undo_12 (by decide) ?_
      exact j_iret hC9 rfl rfl dL_undo_13 (lq_x h90 hQ ho)
    · simp at hE9
set_option maxHeartbeats 4000000 in
set_option maxRecDepth 100000 in
theorem w_restore {G : jG} {M : jM} {c v ol : Nat} {S : aSet} {P : List aSet} {V : Option aSet} {b : List Nat} {e : Option Nat} {u : Option aRun} {Z : jH}  (hs : (gL G).stackTraces = false) (h : cJ G M Z c v S P V b e u) (ho : lO G M Z c v ol) : JMet G jL_restore [.ref c, .ref ol] M 1 6 8 (LQ G M Z c v ol cvL (opRestore) (S, P, V, b, e, u)) jNo := by
  refine jMet_ofH [some (.ref (c)), some (.ref (ol)), none] (by decide) (0, 8, 11, 15) [] rfl (Nat.le_of_ble_eq_true rfl) (rfl) hs ?_
  intro C hC9 hG
  have hC := hC9.z
  have hs9 := jOK0_tr hC
  subst hG
  obtain ⟨hzo, hoc, hov, hBo, g, hxo⟩ := id ho
  refine j_aload_n hC dL_restore_0 rfl (jrf_ref _) ?_
  refine j_iconst (v := nI 0) hC dL_restore_1 (by decide) ?_
  refine j_aload_n hC dL_restore_2 rfl (jrf_ref _) ?_
  refine j_callV hC kv_L_121 dL_restore_3 (m_X9_restore hs9 h) h.1.1 rfl rfl rfl rfl (by decide) (Nat.le_refl _) (Nat.le_refl _) (Nat.le_of_ble_eq_true rfl) (fun v9 M1 h9 => ?_) (fun E9 M1 h9 => ?_)
  · obtain ⟨h90, rfl, hQ⟩ := h9
    have hrow := lw_row hQ hxo hoc hov
    refine j_i2l hC dL_restore_6 ?_
    refine j_last hC dL_restore_7 hrow hBo (vp_in_nI (by decide) (by decide)) ?_
    refine j_goto (tgt := 14) hC dL_restore_8 (by decide) ?_
    refine j_iconst (v := nI 0) hC dL_restore_14 (by decide) ?_
    exact j_iret hC9 rfl rfl dL_restore_15 (lq_0 h90 hQ ho rfl)
  · obtain ⟨k9, h90, hE9, hQ⟩ := h9
    rcases k9 with _ | k9
    · have hE8 : "java/lang/IllegalStateException" = E9 := Option.some.inj hE9
      subst hE8
      refine jx_catch hC (by decide) [] ⟨0, 8, 11, 15⟩ [] rfl (fun z hz => absurd hz List.not_mem_nil) (by decide) (by decide) kc_L_15 (fun q9 => ?_)
      refine j_astore_n2 hC dL_restore_11 (jrf_ref _) (by decide) rfl ?_
      refine j_iconst (v := nI 1) hC dL_restore_12 (by decide) ?_
      exact j_iret hC9 rfl rfl dL_restore_13 (lq_x h90 hQ ho)
    · simp at hE9
