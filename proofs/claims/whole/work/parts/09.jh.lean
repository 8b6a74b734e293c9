/-! ===== the heap's rows ===== -/
def jput (M : jM) (a : Nat) (o : jO) : jM := (fun b => if b = a then some o else M.1 b, M.2)
def jnew (M : jM) (o : jO) : jM := (fun b => if b = M.2 then some o else M.1 b, M.2 + 1)
theorem jRel.put {G : jG} {M : jM} {s : State} {H H1 : Heap} {a : Nat} {o : jO} (h : jRel G M s H) (hB : gB G ≤ a) (hz : H1.size = H.size) (he : jSt G a o H1) (oq : ∀ q : Nat, q ≠ a → H1[q]? = H[q]?) : jRel G (jput M a o) s H1 := by
  refine ⟨hz.trans h.1, fun b ob hb => ?_⟩
  by_cases e : b = a
  · subst e
    have e2 : ob = o := by simpa [jput] using hb.symm
    rw [e2]
    exact Or.inl ⟨hB, he⟩
  · have hb' : M.1 b = some ob := by simpa [jput, e] using hb
    exact (h.2 b ob hb').kept (oq b e)
theorem jRel.new {G : jG} {M : jM} {s : State} {H H1 : Heap} {o : jO} (h : jRel G M s H) (hB : gB G ≤ H.size) (hz : H1.size = H.size + 1) (he : jSt G H.size o H1) (oq : ∀ q : Nat, q < H.size → H1[q]? = H[q]?) : jRel G (jnew M o) s H1 := by
  refine ⟨by rw [hz, h.1]; rfl, fun b ob hb => ?_⟩
  by_cases e : b = M.2
  · subst e
    have e2 : ob = o := by simpa [jnew] using hb.symm
    rw [e2, ← h.1]
    exact Or.inl ⟨hB, he⟩
  · have hb' : M.1 b = some ob := by simpa [jnew, e] using hb
    exact (h.2 b ob hb').kept (oq b (by rw [h.1]; exact h.lt hb'))
theorem jS_new {G : jG} {H0 H H1 : Heap} {locs : List Loc} (hS : va_S (jA G) H0 H locs) (hz : H1.size = H.size + 1) (oq : ∀ q : Nat, q < H.size → H1[q]? = H[q]?) : va_S (jA G) H0 H1 locs :=
  ⟨Nat.le_trans hS.1 (by omega), fun q h1 h2 => (oq q (Nat.lt_of_lt_of_le h1 hS.1)).trans (hS.2.1 q h1 h2), hS.2.2⟩
section JH
variable {C : jC} {y : jY} {d : Nat} {M : jM} {kc ks pc : Nat} {l : List (Option Value)} {st : List Value}
def jB (C : jC) : Nat := gB (jCG C)
theorem j_get (hC : jOK0 y d C) {a idx ci k : Nat} {ty : FieldType} {fin : Nat} {fs : List Value} {v : Value} (hf : jFl y.1.cls idx ci k ty fin) (hd : decode y.2.1 pc = .ok (.getfield idx, 3)) (hM : M.1 a = some (.inr (ci, fs))) (hv : fs[k]? = some v) (kk : J C M kc ks (pc + 3) l (v :: st)) : J C M kc ks pc l (.ref a :: st) := by
  obtain ⟨p, e, R, s, m, args, below, meth, c, Q, G⟩ := C
  obtain ⟨hx, hb, hr, hml, hown, hts, hlk, hnm, htb, hdf, hdl, hfl, hA⟩ := hC
  intro H locs cells slots ls h1 h2 h3 h4 h5
  obtain ⟨Cn, T, N, tyf, g1, g2, g3, g4, g5, g6, g7, g8, g9⟩ := hf
  obtain ⟨r, cell, q1, q2, q3, q4, q5, q6⟩ := (h1.2 a _ hM).wk hA
  cases q1.symm.trans g1
  obtain ⟨hS, hfc, kC, hkC, hkind⟩ := hA.1 ci _ g1
  obtain ⟨cf, kf, fi, f, hi, hsl⟩ := hS k g2
  exact W.getf hx hb hown (hts _ g9) hi (u_facts hfc hkC (u_lays hts g3 g2) hi).1 q2 q5 (v := v) (by rw [hsl]; exact q6 k v g2 hv) rfl rfl hd (kk H locs cells slots ls h1 h2 h3 h4 h5)
theorem j_put (hC : jOK0 y d C) {a idx ci k : Nat} {ty : FieldType} {fs : List Value} {v : Value} (hf : jFl y.1.cls idx ci k ty 1) (hd : decode y.2.1 pc = .ok (.putfield idx, 3)) (hM : M.1 a = some (.inr (ci, fs))) (hB : jB C ≤ a) (hn : narrow ty v = v) (hfit : fits ty v = true) (kk : J C (jput M a (.inr (ci, fs.set k v))) kc ks (pc + 3) l st) : J C M kc ks pc l (v :: .ref a :: st) := by
  obtain ⟨p, e, R, s, m, args, below, meth, c, Q, G⟩ := C
  obtain ⟨hx, hb, hr, hml, hown, hts, hlk, hnm, htb, hdf, hdl, hfl, hA⟩ := hC
  intro H locs cells slots ls h1 h2 h3 h4 h5
  obtain ⟨Cn, T, N, tyf, g1, g2, g3, g4, g5, g6, g7, g8, g9⟩ := hf
  have hB' : gB G ≤ a := hB
  rcases h1.2 a _ hM with ⟨-, r, q1, q2, cell, z1, z2, z3, z4⟩ | ⟨hlt, -⟩
  · cases q1.symm.trans g1
    have hap := va_apart (D := (gC G, gS G)) (cl := vwCl) (tys := []) (own := y.1.cls) hts g3 tyf g4 g5 ⟨hA.1, fun k q h => by simp at h⟩ g1
    obtain ⟨hS, hfc, kC, hkC, hkind⟩ := hA.1 ci _ g1
    obtain ⟨cf, kf, fi, f, hi, hsl⟩ := hS k g2
    have hlay := hts _ (g3 _ (u_in_lay g2))
    unfold u_lay at hlay
    rw [if_neg (by rw [g7 rfl]; decide)] at hlay
    have hst := (u_facts hfc hkC (u_lays hts g3 g2) hi).1
    have h6 := u_store hfc hkC hkind hlay hi (by rw [g4 k g2, g6]) hn hfit
    refine W.putK hx hb (f := f) ⟨hown, hts _ g9, ⟨_, _, _, hi⟩, hst⟩ (by rw [z2]; exact h6) z1 z3 (by rw [hsl]; exact k2_hasslot (z4 k g2)) rfl rfl hd fun H' e1 e2 e3 => ?_
    rw [hsl] at e1 ⊢
    refine kk H' _ cells slots ls (h1.put hB' e2 ?_ e3) (h2.put e2 e3 hB') h3 h4 h5
    exact ⟨_, g1, by rw [List.length_set]; exact q2, t_OB.to (V := updV (vp_V fs) k v) ⟨_, e1, z2, z3, t_set z4 hap g2 v⟩ (fun j _ => vp_updV_set (by rw [q2]; exact g2) v j)⟩
  · exact absurd hB' (Nat.not_le.mpr hlt)
theorem j_putF (hC : jOK0 y d C) {a idx ci k : Nat} {ty : FieldType} {fs : List Value} {v : Value} (hf : jFl y.1.cls idx ci k ty 2) (hini : y.1.name = "<init>") (hd : decode y.2.1 pc = .ok (.putfield idx, 3)) (hM : M.1 a = some (.inr (ci, fs))) (hB : jB C ≤ a) (hn : narrow ty v = v) (hfit : fits ty v = true) (kk : J C (jput M a (.inr (ci, fs.set k v))) kc ks (pc + 3) l st) : J C M kc ks pc l (v :: .ref a :: st) := by
  obtain ⟨p, e, R, s, m, args, below, meth, c, Q, G⟩ := C
  obtain ⟨hx, hb, hr, hml, hown, hts, hlk, hnm, htb, hdf, hdl, hfl, hA⟩ := hC
  intro H locs cells slots ls h1 h2 h3 h4 h5
  obtain ⟨Cn, T, N, tyf, g1, g2, g3, g4, g5, g6, g7, g8, g9⟩ := hf
  have hB' : gB G ≤ a := hB
  rcases h1.2 a _ hM with ⟨-, r, q1, q2, cell, z1, z2, z3, z4⟩ | ⟨hlt, -⟩
  · cases q1.symm.trans g1
    have hap := va_apart (D := (gC G, gS G)) (cl := vwCl) (tys := []) (own := y.1.cls) hts g3 tyf g4 g5 ⟨hA.1, fun k q h => by simp at h⟩ g1
    obtain ⟨hS, hfc, kC, hkC, hkind⟩ := hA.1 ci _ g1
    obtain ⟨cf, kf, fi, f, hi, hsl⟩ := hS k g2
    have hlay := hts _ (g3 _ (u_in_lay g2))
    unfold u_lay at hlay
    rw [if_pos (g8 rfl).1] at hlay
    have hst := (u_facts hfc hkC (u_lays hts g3 g2) hi).1
    have hcf : m.cls = cf := by
      obtain ⟨_, _, c', _, _, _, -, -, hf', -, -, -, hown2, -⟩ := Cond.laysFinal_spec hlay
      have e1 : c' = cf := by have := hi.symm.trans hf'; simp at this; exact this.1.symm
      rw [(g8 rfl).2] at hown2
      rw [← e1]; exact Option.some.inj (hown.symm.trans hown2)
    have h6 := u_fits hfc hkC hkind (Or.inr hlay) hi (by rw [g4 k g2, g6]) hn hfit
    refine W.putFinK hx hb hown (hts _ g9) hi hst hcf (hnm.trans hini) (by rw [z2]; exact h6) z1 z3 (by rw [hsl]; exact k2_hasslot (z4 k g2)) rfl rfl hd fun H' e1 e2 e3 => ?_
    rw [hsl] at e1 ⊢
    refine kk H' _ cells slots ls (h1.put hB' e2 ?_ e3) (h2.put e2 e3 hB') h3 h4 h5
    exact ⟨_, g1, by rw [List.length_set]; exact q2, t_OB.to (V := updV (vp_V fs) k v) ⟨_, e1, z2, z3, t_set z4 hap g2 v⟩ (fun j _ => vp_updV_set (by rw [q2]; exact g2) v j)⟩
  · exact absurd hB' (Nat.not_le.mpr hlt)
theorem j_new (hC : jOK0 y d C) {idx ci : Nat} {fs : List Value} (hf : jNw y.1.cls idx ci fs) (hd : decode y.2.1 pc = .ok (.new idx, 3)) (hkc : 1 ≤ kc) (hks : fs.length ≤ ks) (kk : J C (jnew M (.inr (ci, fs))) (kc - 1) (ks - fs.length) (pc + 3) l (.ref M.2 :: st)) : J C M kc ks pc l st := by
  obtain ⟨p, e, R, s, m, args, below, meth, c, Q, G⟩ := C
  obtain ⟨hx, hb, hr, hml, hown, hts, hlk, hnm, htb, hdf, hdl, hfl, hA⟩ := hC
  intro H locs cells slots ls h1 h2 h3 h4 h5
  obtain ⟨Cn, T, N, tyf, g1, g2, g3, g4, g5, g6, g7, g8⟩ := hf
  have hKn := hA.1 ci _ g1
  subst g4
  refine W.newcK hx hb hown (hts _ g6) (hts _ g7) (hts _ g8) rfl hd (by omega) (by omega) hKn.2.1 rfl fun H1 kC hkC e1 z1 o1 => ?_
  have e9 : H.size = M.2 := h1.1
  rw [e9] at e1 ⊢
  refine kk H1 locs _ _ ls (h1.new (Nat.le_trans hA.2.2.1 h2.1) z1 ?_ o1) (jS_new h2 z1 o1) h3 (by omega) (by omega)
  rw [h1.1]
  exact ⟨_, g1, rfl, (u_born tyf hts g2 hKn hkC e1 g3).to g5⟩
end JH
