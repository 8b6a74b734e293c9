/-- the letter under way holds this text -/
def mdR (R : rR) (l : List Nat) : rR := rs (rA R 27 (lnA (R.2 27) l l.length)) 28 (nI l.length)
theorem lnA_app {D : Nat → Int32} {l : List Nat} {c : Nat} : upd (lnA D l l.length) l.length (nI c) = lnA D (l ++ [c]) (l ++ [c]).length := by
  funext j
  rw [List.length_append, List.length_singleton]
  simp only [lnA, upd]
  by_cases h : j = l.length
  · subst h
    rw [if_pos rfl, if_pos (by omega), getD_appN]
  · rw [if_neg h]
    by_cases h2 : j < l.length
    · rw [if_pos h2, if_pos (by omega), getD_app h2]
    · rw [if_neg h2, if_neg (by omega)]
theorem mdR_s {R : rR} {l : List Nat} {c : Nat} : rs (ra (mdR R l) 27 l.length (nI c)) 28 (nI (l.length + 1)) = mdR R (l ++ [c]) := by
  refine Prod.ext (funext fun j => ?_) (funext fun j => ?_)
  · show (if j = 28 then nI (l.length + 1) else if j = 28 then nI l.length else R.1 j) = if j = 28 then nI (l ++ [c]).length else R.1 j
    by_cases e : j = 28
    · rw [if_pos e, if_pos e, List.length_append]
      rfl
    · rw [if_neg e, if_neg e, if_neg e]
  · show (if j = 27 then upd (if j = 27 then lnA (R.2 27) l l.length else R.2 j) l.length (nI c) else (if j = 27 then lnA (R.2 27) l l.length else R.2 j)) = if j = 27 then lnA (R.2 27) (l ++ [c]) (l ++ [c]).length else R.2 j
    by_cases e : j = 27
    · rw [if_pos e, if_pos e, if_pos e]
      exact lnA_app
    · rw [if_neg e, if_neg e, if_neg e]
set_option maxHeartbeats 4000000 in
set_option maxRecDepth 100000 in
theorem m_X10_hasRoom {R : rR} {S : aSet} {l : List Nat} {n : Nat} (hp : rPre (mdR R l) S) (hl : l.length ≤ 200) (hn : n ≤ 2000) : RI jX10_hasRoom 0 [.int (nI n)] (mdR R l) (jb (l.length + n ≤ sLim S)) (mdR R l) := by
  intro G o M0 hs hBo
  refine jMet_of [some (.ref o), some (.int (nI n))] (by decide) rfl (Nat.le_of_ble_eq_true rfl) rfl hs ?_
  intro C hC9 hG
  have hC := hC9.z
  have hB : jB C ≤ o := by rw [jB, hG]; exact hBo
  have hlim : sLim S ≤ 200 := hp.2.2.2.2.2.1.2
  refine j_aload_n hC dX10_hasRoom_0 rfl (jrf_ref _) ?_
  refine r_getN (x := nI (l.length)) hC kf_X10_215 dX10_hasRoom_1 rfl (rfl) ?_
  refine j_iload_n hC dX10_hasRoom_4 rfl ?_
  refine n_iadd hC dX10_hasRoom_5 ?_
  refine j_aload_n hC dX10_hasRoom_6 rfl (jrf_ref _) ?_
  refine r_get hC kf_X10_9 dX10_hasRoom_7 rfl ?_
  refine j_iconst (v := nI 4) hC dX10_hasRoom_10 (by decide) ?_
  refine r_aldN (k := 1) (j := 4) (x := nI (sLim S)) hC dX10_hasRoom_11 (c := 1) (n := 14790) (by decide) rfl rfl (by omega) (by decide) (rp_lim hp) ?_
  refine n_icmp_gt (tgt := 19) hC dX10_hasRoom_12 (by decide) (by omega) (by omega) (fun c1 => ?_) (fun c1 => ?_)
  · refine j_iconst (v := nI 0) hC dX10_hasRoom_19 (by decide) ?_
    exact j_iret hC9 rfl rfl dX10_hasRoom_20 ⟨_, ⟨(jv (jb_f0 (by omega))), rfl⟩, rfl⟩
  · refine j_iconst (v := nI 1) hC dX10_hasRoom_15 (by decide) ?_
    refine j_goto (tgt := 20) hC dX10_hasRoom_16 (by decide) ?_
    exact j_iret hC9 rfl rfl dX10_hasRoom_20 ⟨_, ⟨(jv (jb_t1 (by omega))), rfl⟩, rfl⟩
set_option maxHeartbeats 4000000 in
set_option maxRecDepth 100000 in
theorem m_X10_writes {R : rR} {l : List Nat} {c : Nat} (hl : l.length < 200) : RV jX10_writes 0 [.int (nI c)] (mdR R l) (mdR R (l ++ [c])) := by
  intro G o M0 hs hBo
  refine jMet_of [some (.ref o), some (.int (nI c))] (by decide) rfl (Nat.le_of_ble_eq_true rfl) rfl hs ?_
  intro C hC9 hG
  have hC := hC9.z
  have hB : jB C ≤ o := by rw [jB, hG]; exact hBo
  refine j_aload_n hC dX10_writes_0 rfl (jrf_ref _) ?_
  refine r_get hC kf_X10_57 dX10_writes_1 rfl ?_
  refine j_aload_n hC dX10_writes_4 rfl (jrf_ref _) ?_
  refine r_getN (x := nI (l.length)) hC kf_X10_215 dX10_writes_5 rfl (rfl) ?_
  refine j_iload_n hC dX10_writes_8 rfl ?_
  refine r_ast (k := 27) (j := l.length) hC dX10_writes_9 (c := 15) (n := 200) (by decide) (fun _ => rfl) (rO_k27) hB rfl (by omega) (by decide) ?_
  refine j_aload_n hC dX10_writes_10 rfl (jrf_ref _) ?_
  refine j_dup hC dX10_writes_11 rfl ?_
  refine r_getN (x := nI (l.length)) hC kf_X10_215 dX10_writes_12 rfl (rfl) ?_
  refine j_iconst (v := nI 1) hC dX10_writes_15 (by decide) ?_
  refine n_iadd hC dX10_writes_16 ?_
  refine r_put hC kp_X10_215 dX10_writes_17 hB rfl rfl rF_set_28 ?_
  exact j_vret hC9 rfl dX10_writes_20 ⟨_, ⟨rfl, mdR_s⟩, rfl⟩
