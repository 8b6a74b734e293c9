/-! ===== a reader of templates: items ===== -/
def opR (op : Nat → Int32) (dp : Nat) (o : Int) : Prop := dp ≤ 4 ∧ (0 < dp → op (dp - 1) = zI o) ∧ (dp = 0 → o = -1)
abbrev pcF (k p d : Nat) (o : Int) (v4 v5 v6 v7 v8 v9 v10 : Value) : List Value := [.int (nI k), .int (nI p), .int (nI d), .int (zI o), v4, v5, v6, v7, v8, v9, v10]
set_option maxHeartbeats 4000000 in
set_option maxRecDepth 100000 in
theorem m_X2_addLast {G : jG} {M : jM} {a e n dd f br : Nat} {L : List Nat} {g : Nat → Value} {fs : List Value} (hs : (gL G).stackTraces = false) (hly : M.1 (a + 4) = some (.inr (6, lyF a L n dd f br))) (hrw : M.1 (a + 5) = some (.inl (.object RX4, L.length, g))) (he : M.1 e = some (.inr (8, fs))) (hn : n < L.length) (hL : L.length ≤ 120) (hBa : gB G ≤ a) : JMet G jX2_addLast [.ref (a + 4), .ref e] (M) 0 0 0 (fun w M' => w = none ∧ M' = jput (jput M (a + 5) (.inl (.object RX4, L.length, updV g n (.ref e)))) (a + 4) (.inr (6, lyF a L (n + 1) dd f br))) jNo := by
  refine jMet_of [some (.ref (a + 4)), some (.ref (e))] (by decide) rfl (Nat.le_of_ble_eq_true rfl) (rfl) hs ?_
  intro C hC9 hG
  have hC := hC9.z
  have hs9 := jOK0_tr hC
  refine j_lt (fun hlt => ?_)
  have hBg : jB C = gB G := by rw [jB, hG]
  subst hG
  refine j_aload_n hC dX2_addLast_0 rfl (jrf_ref _) ?_
  refine j_get (v := .int (nI (n))) hC kf_X2_7 dX2_addLast_1 (hly) (rfl) ?_
  refine j_aload_n hC dX2_addLast_4 rfl (jrf_ref _) ?_
  refine j_get (v := .ref (a + 5)) hC kf_X2_33 dX2_addLast_5 (hly) (rfl) ?_
  refine c_alen hC dX2_addLast_8 (hrw) ?_
  refine n_icmp_ge (tgt := 32) hC dX2_addLast_9 (by decide) (by omega) (by omega) (fun c1 => ?_) (fun c1 => ?_)
  · exact (show False by omega).elim
  · refine j_aload_n hC dX2_addLast_12 rfl (jrf_ref _) ?_
    refine j_get (v := .ref (a + 5)) hC kf_X2_33 dX2_addLast_13 (hly) (rfl) ?_
    refine j_aload_n hC dX2_addLast_16 rfl (jrf_ref _) ?_
    refine j_get (v := .int (nI (n))) hC kf_X2_7 dX2_addLast_17 (hly) (rfl) ?_
    refine j_aload_n hC dX2_addLast_20 rfl (jrf_ref _) ?_
    refine c_aast (i := n) hC dX2_addLast_21 (hrw) (he) rfl (by omega) (by omega) (by omega) ?_
    refine j_aload_n hC dX2_addLast_22 rfl (jrf_ref _) ?_
    refine j_dup hC dX2_addLast_23 rfl ?_
    refine j_get (v := .int (nI (n))) hC kf_X2_7 dX2_addLast_24 ((jput_ne (by show (a + 4) ≠ (a + 5); omega)).trans (hly)) (rfl) ?_
    refine j_iconst (v := nI 1) hC dX2_addLast_27 (by decide) ?_
    refine n_iadd hC dX2_addLast_28 ?_
    refine c_put (fs' := [.int (nI L.length), .ref (a + 5), .int (nI (n + 1)), .int (nI dd), .int (nI f), .int (nI br)]) hC kp_X2_7 dX2_addLast_29 ((jput_ne (by show (a + 4) ≠ (a + 5); omega)).trans (hly)) (by omega) (rfl) (rfl) rfl ?_
    exact j_vret hC9 rfl dX2_addLast_32 (⟨rfl, rfl⟩)
set_option maxHeartbeats 4000000 in
set_option maxRecDepth 100000 in
theorem m_X7_addPiece {G : jG} {M : jM} {a tx dp n dd f br k : Nat} {L : List Nat} {σ : pS} {g : Nat → Value} {op : Nat → Int32} {o : Int} (hs : (gL G).stackTraces = false) (h1 : M.1 a = some (.inr (11, rdF a tx σ dp))) (hly : M.1 (a + 4) = some (.inr (6, lyF a L n dd f br))) (hrw : M.1 (a + 5) = some (.inl (.object RX4, L.length, g))) (hop : M.1 (a + 3) = some (.inl (.int, 4, fun j => .int (op j)))) (ho : opR op dp o) (hn : n < L.length) (hL : L.length ≤ 120) (hBa : gB G ≤ a) (hk : k ≤ 5) : JMet G jX7_addPiece [.ref a, .int (nI k)] (M) 1 11 2 (fun w M' => w = some (.ref M.2) ∧ M'.1 a = some (.inr (11, rdF a tx (σ.1 + 1, σ.2) dp)) ∧ M'.1 (a + 4) = some (.inr (6, lyF a L (n + 1) dd f br)) ∧ M'.1 (a + 5) = some (.inl (.object RX4, L.length, updV g n (.ref M.2))) ∧ M'.1 M.2 = some (.inr (8, pcF k σ.1 dp o (.int (nI 32)) (.int (nI 0)) (.int (nI 32)) (.ref (gK G 18)) (.ref (gK G 18)) .null (.int (nI 0)))) ∧ (∀ b o, M.1 b = some o → b ≠ a → b ≠ a + 4 → b ≠ a + 5 → M'.1 b = some o) ∧ M'.2 = M.2 + 1) jNo := by
  refine jMet_of [some (.ref (a)), some (.int (nI (k))), none, none] (by decide) rfl (Nat.le_of_ble_eq_true rfl) (rfl) hs ?_
  intro C hC9 hG
  have hC := hC9.z
  have hs9 := jOK0_tr hC
  refine j_lt (fun hlt => ?_)
  have hBg : jB C = gB G := by rw [jB, hG]
  subst hG
  have ha2 := hlt _ _ h1
  have hal := hlt _ _ hly
  have har := hlt _ _ hrw
  have hao := hlt _ _ hop
  have hd4 := ho.1
  suffices K : J C (M) 1 11 34 [some (.ref (a)), some (.int (nI (k))), none, none] [.int (zI (o))] by
    refine j_aload_n hC dX7_addPiece_0 rfl (jrf_ref _) ?_
    refine j_get (v := .int (nI (dp))) hC kf_X7_19 dX7_addPiece_1 (h1) (rfl) ?_
    refine n_if_le (tgt := 33) hC dX7_addPiece_4 (by decide) (by omega) (fun c1 => ?_) (fun c1 => ?_)
    · refine j_iconst (v := zI (-1)) hC dX7_addPiece_33 (by decide) ?_
      exact j_top (by first | rw [ho.2.2 (by omega)] | exact absurd hd4 (by omega)) K
    · refine j_aload_n hC dX7_addPiece_7 rfl (jrf_ref _) ?_
      refine j_get (v := .int (nI (dp))) hC kf_X7_19 dX7_addPiece_8 (h1) (rfl) ?_
      refine j_aload_n hC dX7_addPiece_11 rfl (jrf_ref _) ?_
      refine j_get (v := .ref (a + 3)) hC kf_X7_15 dX7_addPiece_12 (h1) (rfl) ?_
      refine c_alen hC dX7_addPiece_15 (hop) ?_
      refine n_icmp_gt (tgt := 33) hC dX7_addPiece_16 (by decide) (by omega) (by omega) (fun c2 => ?_) (fun c2 => ?_)
      · refine j_iconst (v := zI (-1)) hC dX7_addPiece_33 (by decide) ?_
        exact j_top (by first | rw [ho.2.2 (by omega)] | exact absurd hd4 (by omega)) K
      · refine j_aload_n hC dX7_addPiece_19 rfl (jrf_ref _) ?_
        refine j_get (v := .ref (a + 3)) hC kf_X7_15 dX7_addPiece_20 (h1) (rfl) ?_
        refine j_aload_n hC dX7_addPiece_23 rfl (jrf_ref _) ?_
        refine j_get (v := .int (nI (dp))) hC kf_X7_19 dX7_addPiece_24 (h1) (rfl) ?_
        refine j_iconst (v := nI 1) hC dX7_addPiece_27 (by decide) ?_
        refine n_isub hC dX7_addPiece_28 (by omega) ?_
        refine c_iald (i := dp - 1) (x := op (dp - 1)) hC dX7_addPiece_29 (hop) (by omega) (by omega) (rfl) ?_
        refine j_goto (tgt := 34) hC dX7_addPiece_30 (by decide) ?_
        exact j_top (ho.2.1 (by omega)) K
  refine j_istore_n2 hC dX7_addPiece_34 (by decide) rfl ?_
  refine c_new (kc := 0) (ks := 0) hC kn_X7_72 dX7_addPiece_35 rfl ?_
  refine j_dup hC dX7_addPiece_38 rfl ?_
  refine j_iload_n hC dX7_addPiece_39 rfl ?_
  refine j_aload_n hC dX7_addPiece_40 rfl (jrf_ref _) ?_
  refine j_get (v := .int (nI (σ.1))) hC kf_X7_9 dX7_addPiece_41 ((jnew_ne (by show (a) ≠ M.2; omega)).trans (h1)) (rfl) ?_
  refine j_aload_n hC dX7_addPiece_44 rfl (jrf_ref _) ?_
  refine j_get (v := .int (nI (dp))) hC kf_X7_19 dX7_addPiece_45 ((jnew_ne (by show (a) ≠ M.2; omega)).trans (h1)) (rfl) ?_
  refine j_iload_n hC dX7_addPiece_48 rfl ?_
  refine c_Ik (kc' := 0) (ks' := 0) (kc := 0) (ks := 0) hC ki_X7_156 dX7_addPiece_49 (m_X4_init (k := k) (p := σ.1) (d := dp) (o := o) hs9 (jnew_at) (by show _ ≤ M.2; omega)) rfl rfl (by decide) (Nat.le_of_ble_eq_true rfl) ?_
  refine j_astore_n3 hC dX7_addPiece_52 (jrf_ref _) (by decide) rfl ?_
  refine j_aload_n hC dX7_addPiece_53 rfl (jrf_ref _) ?_
  refine j_get (v := .ref (a + 4)) hC kf_X7_41 dX7_addPiece_54 ((jput_ne (by show (a) ≠ (M.2); omega)).trans ((jnew_ne (by show (a) ≠ M.2; omega)).trans (h1))) (rfl) ?_
  refine j_aload_n hC dX7_addPiece_57 rfl (jrf_ref _) ?_
  refine c_Pv (kc' := 0) (ks' := 0) hC kv_X7_159 dX7_addPiece_58 (m_X2_addLast hs9 ((jput_ne (by show (a + 4) ≠ (M.2); omega)).trans ((jnew_ne (by show (a + 4) ≠ M.2; omega)).trans (hly))) ((jput_ne (by show (a + 5) ≠ (M.2); omega)).trans ((jnew_ne (by show (a + 5) ≠ M.2; omega)).trans (hrw))) (jput_at) hn hL hBa) ((jput_ne (by show (a + 4) ≠ (M.2); omega)).trans ((jnew_ne (by show (a + 4) ≠ M.2; omega)).trans (hly))) rfl rfl rfl rfl (by decide) (Nat.le_of_ble_eq_true rfl) ?_
  intro v9 N3 h9
  obtain ⟨rfl, e9⟩ := h9
  refine j_M e9 ?_
  clear e9
  refine j_aload_n hC dX7_addPiece_61 rfl (jrf_ref _) ?_
  refine j_dup hC dX7_addPiece_62 rfl ?_
  refine j_get (v := .int (nI (σ.1))) hC kf_X7_9 dX7_addPiece_63 ((jput_ne (by show (a) ≠ (a + 4); omega)).trans ((jput_ne (by show (a) ≠ (a + 5); omega)).trans ((jput_ne (by show (a) ≠ (M.2); omega)).trans ((jnew_ne (by show (a) ≠ M.2; omega)).trans (h1))))) (rfl) ?_
  refine j_iconst (v := nI 1) hC dX7_addPiece_66 (by decide) ?_
  refine n_iadd hC dX7_addPiece_67 ?_
  refine c_put (fs' := [.ref (a + 4), .int (nI ((σ.1) + (1))), .ref tx, .ref (a + 3), .int (nI dp), .int (jb (σ.2 = false))]) hC kp_X7_9 dX7_addPiece_68 ((jput_ne (by show (a) ≠ (a + 4); omega)).trans ((jput_ne (by show (a) ≠ (a + 5); omega)).trans ((jput_ne (by show (a) ≠ (M.2); omega)).trans ((jnew_ne (by show (a) ≠ M.2; omega)).trans (h1))))) (by omega) (rfl) (rfl) rfl ?_
  refine j_aload_n hC dX7_addPiece_71 rfl (jrf_ref _) ?_
  exact j_aret hC9 rfl (by first | exact Or.inl ⟨_, rfl⟩ | exact Or.inr ⟨_, rfl⟩) dX7_addPiece_72 (⟨rfl, jput_at, (jput_ne (by show (a + 4) ≠ (a); omega)).trans (jput_at), (jput_ne (by show (a + 5) ≠ (a); omega)).trans ((jput_ne (by show (a + 5) ≠ (a + 4); omega)).trans (jput_at)), (jput_ne (by show (M.2) ≠ (a); omega)).trans ((jput_ne (by show (M.2) ≠ (a + 4); omega)).trans ((jput_ne (by show (M.2) ≠ (a + 5); omega)).trans (jput_at))), fun a9 o9 ha9 hn1 hn2 hn3 => by
  have hl9 := hlt _ _ ha9
  exact (jput_ne (by show (a9) ≠ (a); omega)).trans ((jput_ne (by show (a9) ≠ (a + 4); omega)).trans ((jput_ne (by show (a9) ≠ (a + 5); omega)).trans ((jput_ne (by show (a9) ≠ (M.2); omega)).trans ((jnew_ne (by show (a9) ≠ M.2; omega)).trans (ha9))))), rfl⟩) (jrf_ref _)
