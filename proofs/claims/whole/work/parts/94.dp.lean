/-! ===== the merger: a template is set ===== -/
section ST
variable {G : jG} {M M' : jM} {Z Z' : jH} {c v : Nat} {S : aSet} {P : List aSet} {V : Option aSet} {t : List Nat} {e : Option Nat} {u : Option aRun} {W : Nat → Prop}
theorem cJ.moreW (h : cJ G M Z c v S P V t e u) (hg : zg M Z Z') (hz : sub Z' M'.1) (hk : kept M M' W) (hW : ∀ a, (c ≤ a ∧ a < c + 120) ∨ a = v → ¬ W a) : cJ G M' Z' c v S P V t e u := by
  obtain ⟨hA, hB, hSS, hV, ⟨pa, hP⟩, hO, hD, hN, hZ, h8, hE⟩ := h
  have w : ∀ k, k < 120 → ¬ W (c + k) := fun k hk9 => hW _ (Or.inl ⟨by omega, by omega⟩)
  exact ⟨hA.up hg hk (w 0 (by decide)), hB.up hg hk (w 1 (by decide)) (hW _ (Or.inr rfl)), hSS.up hg hk (w 3 (by decide)) (w 4 (by decide)), hV.up hg hk (w 8 (by decide)) (w 9 (by decide)), ⟨pa, hP.up h8 hg hk (w 13 (by decide)) (fun a h1 h2 => hW _ (Or.inl ⟨by omega, by omega⟩))⟩, hO.up hg hk (fun a h1 h2 => hW _ (Or.inl ⟨by omega, by omega⟩)), hD.up hg hk (fun a h1 h2 => hW _ (Or.inl ⟨by omega, by omega⟩)), hN.up hg hk (w 79 (by decide)), hZ.up hg hz hk (w 119 (by decide)), h8, hE⟩
/-- what never changes grows by objects that are there already, and are not the merger's -/
theorem cJ.zup (h : cJ G M Z c v S P V t e u) (hs : sub Z Z') (hz : sub Z' M'.1) (hk : kept M M' W) (hW : ∀ a, (c ≤ a ∧ a < c + 120) ∨ a = v → ¬ W a) (hZW : ∀ a o, Z a = some o → ¬ W a) (hn : ∀ a, (c ≤ a ∧ a < c + 120) ∨ a = v → Z a = none → Z' a = none) : cJ G M' Z' c v S P V t e u := by
  classical
  have hzM : sub Z M.1 := h.2.2.2.2.2.2.2.2.1.1
  have q : ∀ a, ((c ≤ a ∧ a < c + 120) ∨ a = v ∨ ∃ o, Z a = some o) → (if (c ≤ a ∧ a < c + 120) ∨ a = v ∨ ∃ o, Z a = some o then M.1 a else none) = M.1 a := fun a ha => if_pos ha
  have h1 : cJ G ((fun a => if (c ≤ a ∧ a < c + 120) ∨ a = v ∨ ∃ o, Z a = some o then M.1 a else none), M.2) Z c v S P V t e u :=
    h.moreW (W := fun a => ¬ ((c ≤ a ∧ a < c + 120) ∨ a = v ∨ ∃ o, Z a = some o)) zg_refl (fun a o ha => (q a (Or.inr (Or.inr ⟨o, ha⟩))).trans (hzM a o ha)) (fun a o ha hn => (q a (Classical.not_not.mp hn)).trans ha) (fun a ha hn => hn (ha.elim Or.inl (fun e9 => Or.inr (Or.inl e9))))
  refine h1.moreW (W := W) ⟨hs, fun a o ha => ?_⟩ hz (fun a o ha hw => ?_) hW
  · by_cases e9 : (c ≤ a ∧ a < c + 120) ∨ a = v ∨ ∃ o, Z a = some o
    · cases e8 : Z a with
      | some o8 => exact Or.inl ((hs a o8 e8).symm.trans ha)
      | none =>
        rcases e9 with e9 | e9 | ⟨o8, e9⟩
        · rw [hn a (Or.inl e9) e8] at ha; cases ha
        · rw [hn a (Or.inr e9) e8] at ha; cases ha
        · rw [e8] at e9; cases e9
    · exact Or.inr (if_neg e9)
  · have ha' : (if (c ≤ a ∧ a < c + 120) ∨ a = v ∨ ∃ o, Z a = some o then M.1 a else none) = some o := ha
    split at ha'
    · exact hk a o ha' hw
    · cases ha'
theorem pIter_le {L : List Nat} : ∀ (n : Nat) (P : pP), (pσ P).1 ≤ L.length → (pσ (pIter L n P)).1 ≤ L.length
  | 0, _, h => h
  | n + 1, P, h => pIter_le n _ (by
    unfold pStep
    split
    · exact (pStep_mo h).1
    · exact h)
theorem rk_le {L : List Nat} (h : L.length ≤ 120) : rkc L pP0 ≤ 607 ∧ rks L pP0 ≤ 11191 := by
  have e1 : rkc L pP0 = 5 * (L.length - 0) + 7 := if_pos rfl
  have e2 : rks L pP0 = 91 * (L.length - 0) + 271 := if_pos rfl
  omega
theorem zf_into {Z H : jH} {b : Nat} (h : sub Z H) : sub (zf Z H b) H := fun c o hc => by
  unfold zf at hc
  split at hc
  · exact hc
  · exact h c o hc
end ST
set_option maxHeartbeats 4000000 in
set_option maxRecDepth 100000 in
theorem m_X9_setTemplate {G : jG} {M : jM} {c v : Nat} {S : aSet} {P : List aSet} {V : Option aSet} {b : List Nat} {e : Option Nat} {u : Option aRun} {Z : jH}  (hs : (gL G).stackTraces = false) (h : cJ G M Z c v S P V b e u)  : JMet G jX9_setTemplate [.ref c] (M) 614 11457 10 (COq G M Z c v opSetTmpl (S, P, V, b, e, u)) (COx G M Z c v (opSetTmpl) ["java/lang/IllegalArgumentException"] (S, P, V, b, e, u)) := by
  refine jMet_of [some (.ref (c)), none] (by decide) rfl (Nat.le_of_ble_eq_true rfl) (rfl) hs ?_
  intro C hC9 hG
  have hC := hC9.z
  have hs9 := jOK0_tr hC
  refine j_lt (fun hlt => ?_)
  have hBg : jB C = gB G := by rw [jB, hG]
  subst hG
  obtain ⟨⟨a1, za⟩, ⟨⟨cap, hbu⟩, zb1, zbv, hv, hb120, hbc⟩, ⟨hS, zs3, zs4⟩, ⟨hVX, zv8, zv9, hVs⟩, ⟨pa, hPa⟩, ⟨ho, zo, hon⟩, ⟨⟨dX, dk, dr, dl, dch, hd⟩, zd⟩, ⟨⟨od, hod⟩, zn79⟩, ⟨hz, hkr, hBc, ⟨mk, hmk⟩⟩, hP8, hE⟩ := id h
  obtain ⟨p1, zp13, p3, p4, p5, p6⟩ := id hPa
  obtain ⟨⟨mb, bu, hb1, hb2, hb3, hb4, hb5⟩, hb6, hb7⟩ := id hbu
  obtain ⟨⟨lay, home, ff, xe, u1, u2, u5, u3, u6, u7⟩, u4⟩ := id hS
  obtain ⟨ho1, ho2, ho3, ho4, ho5⟩ := id ho
  have hn20 : (sRecs S).length ≤ 20 := u4.1.1
  have hk32 : sKeys S < 32 := u4.1.2.1
  have hp3 : sPol S < 3 := u4.1.2.2.1
  have ho10 : sOut S < 1024 := u4.1.2.2.2.1
  have hl2 : sLim S ≤ 200 := u4.1.2.2.2.2.1.2
  have hl1 : 1 ≤ sLim S := u4.1.2.2.2.2.1.1
  have hmk9 := hlt _ _ hmk
  refine c_new (kc := 613) (ks := 11451) hC kn_X9_192 dX9_setTemplate_0 rfl ?_
  have hJ0 : cJ (jCG C) (jnew (M) (.inr (11, [.null, .int 0, .null, .null, .int 0, .int 0]))) Z c v S P V b e u := h.more zg_refl (fun a o ha => (jnew_ne (by have := hlt _ _ (hz a o ha); omega)).trans (hz a o ha)) (fun a o ha _ => (jnew_ne (by have := hlt _ _ ha; omega)).trans ha)
  have hca : c + 120 ≤ M.2 := by omega
  have hva : v < M.2 := hlt _ _ hb2
  have hb00 := hb120
  have hbc0 := hbc
  refine j_dup hC dX9_setTemplate_3 rfl ?_
  refine j_aload_n hC dX9_setTemplate_4 rfl (jrf_ref _) ?_
  refine c_Pv (kc := 611) (ks := 11327) hC kv_X9_194 dX9_setTemplate_5 (m_X9_takeBuffer hs9 hJ0) ((jnew_ne (by show (c) ≠ M.2; omega)).trans (a1)) rfl rfl rfl rfl (by decide) (Nat.le_of_ble_eq_true rfl) ?_
  intro v9 M1 h9
  obtain ⟨p, Z1, rfl, hJ1, hg1, hZp, htx, hk1, hp, hM1, hZ1⟩ := h9
  obtain rfl : p = M.2 + 1 := hp
  replace hM1 : M1.2 = M.2 + 3 := hM1
  have hgB : gB (jCG C) ≤ c := hJ1.2.2.2.2.2.2.2.2.1.2.2.1
  have hkr1 : kR (jCG C) Z1 := hJ1.2.2.2.2.2.2.2.2.1.2.1
  have hz1 : sub Z1 M1.1 := hJ1.2.2.2.2.2.2.2.2.1.1
  have hZn : ∀ b9, M.2 ≤ b9 → b9 ≠ M.2 + 1 → b9 ≠ M.2 + 2 → Z1 b9 = none := fun b9 h1 h2 h3 => by
    have e0 : Z b9 = none := zg_at hz (by
      cases e9 : M.1 b9 with
      | none => rfl
      | some o => have := hlt _ _ e9; omega)
    by_cases e9 : Z1 b9 = Z b9
    · exact e9.trans e0
    · have := hZ1 b9 e9
      have e8 : (jnew (M) (.inr (11, [.null, .int 0, .null, .null, .int 0, .int 0]))).2 = M.2 + 1 := rfl
      omega
  have hBt : ∀ b9 fs, Z1 (M.2 + 1) = some (.inr (0, fs)) → fs[0]? = some (.ref b9) → gB (jCG C) ≤ b9 := fun b9 fs h1 h2 => by
    rw [hZp] at h1
    cases h1
    have e9 : M.2 + 1 + 1 = b9 := by injection h2 with h2; injection h2
    omega
  have hrd := rk_le hb00
  refine j_less (kc' := 608 + 3) (ks' := 11197 + (10 + b.length)) (by omega) (by omega) ?_
  refine c_Pi (kc := 608) (ks := 11197) hC ki_X9_198 dX9_setTemplate_8 (m_X7_init hs9 (hk1 _ _ jnew_at (by omega)) hM1 htx hz1 hZn (by omega) hb00) rfl rfl (by decide) (Nat.le_of_ble_eq_true rfl) ?_
  intro v9 M2 h9
  obtain ⟨rfl, f1, f2, f3, f4, f5, f6⟩ := h9
  have hz2 : sub Z1 M2.1 := fun a o ha => f5 a o (hz1 a o ha) (fun e9 => by rw [show a = M.2 from e9, hZn _ (Nat.le_refl _) (by omega) (by omega)] at ha; cases ha)
  refine j_astore_n1 hC dX9_setTemplate_11 (jrf_ref _) (by decide) rfl ?_
  refine j_aload_n hC dX9_setTemplate_12 rfl (jrf_ref _) ?_
  refine j_less (kc' := 1 + rkc b pP0) (ks' := 6 + rks b pP0) (by omega) (by omega) ?_
  refine c_Pv (kc := 1) (ks := 6) hC kv_X9_199 dX9_setTemplate_13 (m_X7_readAll (M := M2) (Z := Z1) hs9 (rdT_0 f1 f2 f3 f4) htx hz2 hZn (by omega) hb00 hkr1.2.2.1 hkr1.2.2.2.2 hkr1.2.2.2.1 hBt) f1 rfl rfl rfl rfl (by decide) (Nat.le_of_ble_eq_true rfl) ?_
  intro v9 M3 h9
  obtain ⟨rfl, ⟨x6, dp3, r1⟩, r2, r3⟩ := h9
  have hk3 : kept M1 M3 (fun a => a = M.2 ∨ M.2 + 3 ≤ a) := fun a o ha hn => r3 a o (by omega) (f5 a o ha (fun e9 => hn (Or.inl e9)))
  have hz3 : sub Z1 M3.1 := fun a o ha => hk3 a o (hz1 a o ha) (fun e9 => by rw [hZn a (by omega) (by omega) (by omega)] at ha; cases ha)
  have hJ3 : cJ (jCG C) M3 Z1 c v S P V [] e u := hJ1.moreW zg_refl hz3 hk3 (fun a h1 h2 => by omega)
  have hk03 : kept M M3 (fun a => a = c + 1) := fun a o ha hn => hk3 a o (hk1 _ _ ((jnew_ne (by have := hlt _ _ ha; omega)).trans ha) hn) (by have := hlt _ _ ha; omega)
  have hzg1 : zg M Z Z1 := ⟨hg1.1, fun a o ha => (hg1.2 a o ha).elim Or.inl (fun e9 => by
    cases e8 : M.1 a with
    | none => exact Or.inr rfl
    | some o8 => rw [jnew_ne (by have := hlt _ _ e8; omega), e8] at e9; cases e9)⟩
  refine j_lt (fun hlt3 => ?_)
  obtain ⟨⟨a1, za⟩, ⟨⟨cap, hbu⟩, zb1, zbv, hv, hb120, hbc⟩, ⟨hS, zs3, zs4⟩, ⟨hVX, zv8, zv9, hVs⟩, ⟨pa, hPa⟩, ⟨ho, zo, hon⟩, ⟨⟨dX, dk, dr, dl, dch, hd⟩, zd⟩, ⟨⟨od, hod⟩, zn79⟩, ⟨hz, hkr, hBc, ⟨mk, hmk⟩⟩, hP8, hE⟩ := id hJ3
  obtain ⟨p1, zp13, p3, p4, p5, p6⟩ := id hPa
  obtain ⟨⟨mb, bu, hb1, hb2, hb3, hb4, hb5⟩, hb6, hb7⟩ := id hbu
  obtain ⟨⟨lay, home, ff, xe, u1, u2, u5, u3, u6, u7⟩, u4⟩ := id hS
  obtain ⟨ho1, ho2, ho3, ho4, ho5⟩ := id ho
  have hn20 : (sRecs S).length ≤ 20 := u4.1.1
  have hk32 : sKeys S < 32 := u4.1.2.1
  have hp3 : sPol S < 3 := u4.1.2.2.1
  have ho10 : sOut S < 1024 := u4.1.2.2.2.1
  have hl2 : sLim S ≤ 200 := u4.1.2.2.2.2.1.2
  have hl1 : 1 ≤ sLim S := u4.1.2.2.2.2.1.1
  have hmk9 := hlt3 _ _ hmk
  refine jb_if_ne (tgt := 37) hC dX9_setTemplate_16 (by decide) (fun c1 => ?_) (fun c1 => ?_)
  · refine j_aload_n hC dX9_setTemplate_37 rfl (jrf_ref _) ?_
    obtain ⟨op, g, xp, dp, hT⟩ := r2 (by assumption)
    have hlay := hT.lay hb00 hbc0 (by assumption)
    have hZ2g : sub Z1 (zf Z1 M3.1 M.2) := zf_sub hz3
    have hZ2n : ∀ a, a < M.2 → zf Z1 M3.1 M.2 a = Z1 a := fun a ha => if_neg (by omega)
    have hz32 : sub (zf Z1 M3.1 M.2) M3.1 := zf_into hz3
    have hJ4 : cJ (jCG C) M3 (zf Z1 M3.1 M.2) c v S P V [] e u := hJ3.zup hZ2g hz32 (W := fun _ => False) (fun a o ha _ => ha) (fun _ _ => id) (fun _ _ _ => id) (fun a ha hn => (hZ2n a (by omega)).trans hn)
    have hzg2 : zg M Z (zf Z1 M3.1 M.2) := ⟨fun a o ha => hZ2g a o (hg1.1 a o ha), fun a o ha => by
      by_cases e9 : a < M.2
      · rw [hZ2n a e9] at ha
        exact hzg1.2 a o ha
      · right
        cases e8 : M.1 a with
        | none => rfl
        | some o8 => have := hlt _ _ e8; omega⟩
    have z2a : zf Z1 M3.1 M.2 M.2 = some (.inr (11, rdF M.2 (M.2 + 1) (pσ (pEnd b)) dp)) := (zf_in (Nat.le_refl _)).trans hT.1
    have z2l : zf Z1 M3.1 M.2 (M.2 + 4) = some (.inr (6, lyF M.2 b (pIts (pEnd b)).length (pDeep (pEnd b)) (mskP (pEnd b)) (brN (pIts (pEnd b))))) := (zf_in (by omega)).trans hT.2.2.1
    have hil9 := its_le (L := b) (by assumption)
    refine c_Pv (kc := 1) (ks := 6) hC kv_X9_100 dX9_setTemplate_38 (m_X9_remember hs9 hJ4) (a1) rfl rfl rfl rfl (by decide) (Nat.le_of_ble_eq_true rfl) ?_
    intro v9 M5 h9
    obtain ⟨rfl, hJ5, hk5⟩ := h9
    refine j_lt (fun hlt5 => ?_)
    obtain ⟨⟨a1, za⟩, ⟨⟨cap, hbu⟩, zb1, zbv, hv, hb120, hbc⟩, ⟨hS, zs3, zs4⟩, ⟨hVX, zv8, zv9, hVs⟩, ⟨pa, hPa⟩, ⟨ho, zo, hon⟩, ⟨⟨dX, dk, dr, dl, dch, hd⟩, zd⟩, ⟨⟨od, hod⟩, zn79⟩, ⟨hz, hkr, hBc, ⟨mk, hmk⟩⟩, hP8, hE⟩ := id hJ5
    obtain ⟨p1, zp13, p3, p4, p5, p6⟩ := id hPa
    obtain ⟨⟨mb, bu, hb1, hb2, hb3, hb4, hb5⟩, hb6, hb7⟩ := id hbu
    obtain ⟨⟨lay, home, ff, xe, u1, u2, u5, u3, u6, u7⟩, u4⟩ := id hS
    obtain ⟨ho1, ho2, ho3, ho4, ho5⟩ := id ho
    have hn20 : (sRecs S).length ≤ 20 := u4.1.1
    have hk32 : sKeys S < 32 := u4.1.2.1
    have hp3 : sPol S < 3 := u4.1.2.2.1
    have ho10 : sOut S < 1024 := u4.1.2.2.2.1
    have hl2 : sLim S ≤ 200 := u4.1.2.2.2.2.1.2
    have hl1 : 1 ≤ sLim S := u4.1.2.2.2.2.1.1
    have hmk9 := hlt5 _ _ hmk
    refine j_aload_n hC dX9_setTemplate_41 rfl (jrf_ref _) ?_
    refine j_get (v := .ref (c + 3)) hC kf_X9_19 dX9_setTemplate_42 (a1) (rfl) ?_
    refine j_aload_n hC dX9_setTemplate_45 rfl (jrf_ref _) ?_
    refine j_get (v := .ref (M.2 + 4)) hC kf_X9_208 dX9_setTemplate_46 ((hz _ _ z2a)) (rfl) ?_
    refine c_put (fs' := [.ref (c + 3 + 1), .int (nI (sRecs S).length), .ref (M.2 + 4), .ref home, .int (nI (sKeys S)), .int (nI (sPol S)), .int (nI (sOut S)), .int (nI (sLim S))]) hC kp_X9_212 dX9_setTemplate_49 (u1) (by omega) (rfl) (rfl) rfl ?_
    refine j_aload_n hC dX9_setTemplate_52 rfl (jrf_ref _) ?_
    refine j_get (v := .ref (M.2 + 4)) hC kf_X9_208 dX9_setTemplate_53 ((jput_ne (by show (M.2) ≠ (c + 3); omega)).trans ((hz _ _ z2a))) (rfl) ?_
    refine j_get (v := .int (nI ((pIts (pEnd b)).length))) hC kf_X9_213 dX9_setTemplate_56 ((jput_ne (by show (M.2 + 4) ≠ (c + 3); omega)).trans ((hz _ _ z2l))) (rfl) ?_
    have hS9 : suR (jput (M5) (c + 3) (.inr (9, [.ref (c + 3 + 1), .int (nI (sRecs S).length), .ref (M.2 + 4), .ref home, .int (nI (sKeys S)), .int (nI (sPol S)), .int (nI (sOut S)), .int (nI (sLim S))]))).1 (zf Z1 M3.1 M.2) (c + 3) (withTmpl S b) := ⟨⟨M.2 + 4, home, ff, xe, jput_at, (jput_ne (by omega)).trans u2, u5, u3, hlay, u7⟩, setG_tmp u4 hb00 hbc0 (by assumption)⟩
    have hk9 : kept M5 (jput (M5) (c + 3) (.inr (9, [.ref (c + 3 + 1), .int (nI (sRecs S).length), .ref (M.2 + 4), .ref home, .int (nI (sKeys S)), .int (nI (sPol S)), .int (nI (sOut S)), .int (nI (sLim S))]))) (fun a => a = c + 3 ∨ a = c + 3 + 1) := fun a o ha hn => (jput_ne (fun e9 => hn (Or.inl e9))).trans ha
    have hz9 : sub (zf Z1 M3.1 M.2) (jput (M5) (c + 3) (.inr (9, [.ref (c + 3 + 1), .int (nI (sRecs S).length), .ref (M.2 + 4), .ref home, .int (nI (sKeys S)), .int (nI (sPol S)), .int (nI (sOut S)), .int (nI (sLim S))]))).1 := kept.sub hk9 hz (fun a e9 => by rcases e9 with e9 | e9 <;> rw [e9] <;> assumption)
    have hJ9 := hJ5.set (Z' := zf Z1 M3.1 M.2) (M' := jput (M5) (c + 3) (.inr (9, [.ref (c + 3 + 1), .int (nI (sRecs S).length), .ref (M.2 + 4), .ref home, .int (nI (sKeys S)), .int (nI (sPol S)), .int (nI (sOut S)), .int (nI (sLim S))]))) (S' := withTmpl S b) hS9 zg_refl hz9 hk9
    have hkf : kept M (jput (M5) (c + 3) (.inr (9, [.ref (c + 3 + 1), .int (nI (sRecs S).length), .ref (M.2 + 4), .ref home, .int (nI (sKeys S)), .int (nI (sPol S)), .int (nI (sOut S)), .int (nI (sLim S))]))) (fun a => a = v ∨ (c ≤ a ∧ a < c + 120)) := fun a o ha hn => hk9 _ _ (hk5 _ _ (hk03 _ _ ha (fun (e9 : a = c + 1) => hn (show _ ∨ _ from by omega))) (fun (e9 : a = c ∨ a = c + 13 ∨ (c + 80 ≤ a ∧ a < c + 119)) => hn (show _ ∨ _ from by omega))) (fun (e9 : a = c + 3 ∨ a = c + 3 + 1) => hn (show _ ∨ _ from by omega))
    exact j_iret hC9 rfl (rfl) dX9_setTemplate_59 (cr_of (T' := (withTmpl S b, (keepP P S), V, [], e, u)) (if_pos (by assumption)) (cQ_of hJ9 hkf hzg2))
  · refine j_aload_n hC dX9_setTemplate_19 rfl (jrf_ref _) ?_
    refine j_aload_n hC dX9_setTemplate_20 rfl (jrf_ref _) ?_
    refine j_get (v := .int (nI ((pσ (pEnd b)).1))) hC kf_X9_203 dX9_setTemplate_21 (r1) (rfl) ?_
    refine c_put (fs' := [.ref (c + 1), .ref (c + 3), .ref (c + 8), .ref (c + 13), .ref (c + 14), .ref (c + 76), .ref (c + 79), .int (nI P.length), .int (nI ((pσ (pEnd b)).1)), .int (jb (V.isSome = true))]) hC kp_X9_52 dX9_setTemplate_24 (a1) (by omega) (rfl) (rfl) rfl ?_
    have hle9 : (pσ (pEnd b)).1 ≤ 120 := Nat.le_trans (pIter_le 122 pP0 (Nat.zero_le _)) hb00
    have hJ9 := hJ3.err (M' := jput (M3) (c) (.inr (13, [.ref (c + 1), .ref (c + 3), .ref (c + 8), .ref (c + 13), .ref (c + 14), .ref (c + 76), .ref (c + 79), .int (nI P.length), .int (nI ((pσ (pEnd b)).1)), .int (jb (V.isSome = true))]))) (e' := some (pσ (pEnd b)).1) jput_at (fun k hk => by cases hk; exact hle9) (fun a o ha hn => (jput_ne hn).trans ha)
    exact j_throwS hC9 (i := 23) rfl kt_X9_69 rfl dX9_setTemplate_27 dX9_setTemplate_30 dX9_setTemplate_31 dX9_setTemplate_33 dX9_setTemplate_36 (by decide) (by decide) (by decide) (Nat.le_of_ble_eq_true rfl) (fun n9 => cx_of (k := 0) (x := nI 0) (T' := (S, P, V, [], some (pσ (pEnd b)).1, u)) (if_neg (by assumption)) rfl (cQ_of hJ9 (fun a o ha hn => (jput_ne (fun e9 => hn (Or.inr (by omega)))).trans (hk03 _ _ ha (fun (e9 : a = c + 1) => hn (Or.inr (by omega))))) hzg1))
