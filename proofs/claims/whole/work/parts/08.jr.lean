theorem j_iconst {C : jC} {y : jY} {d : Nat} (hC : jOK0 y d C) {M : jM} {kc ks pc : Nat} {l : List (Option Value)} {st : List Value} {n : Int} {v : Int32} (hd : decode y.2.1 pc = .ok (.iconst n, 1)) (hv : Int32.ofInt n = v) (k : J C M kc ks (pc + 1) l (.int v :: st)) : J C M kc ks pc l (st) := by
  obtain ⟨p, e, R, s, m, args, below, meth, c, Q, G⟩ := C
  obtain ⟨hx, hb, hr, hml, hown, hts, hlk, hnm, htb, hdf, hdl, hfl, hA⟩ := hC
  intro H locs cells slots ls h1 h2 h3 h4 h5
  exact lv_iconst hx hb hd hv (k H locs cells slots ls h1 h2 h3 h4 h5)
theorem j_bipush {C : jC} {y : jY} {d : Nat} (hC : jOK0 y d C) {M : jM} {kc ks pc : Nat} {l : List (Option Value)} {st : List Value} {n : Int} {v : Int32} (hd : decode y.2.1 pc = .ok (.bipush n, 2)) (hv : (Int8.ofInt n).toInt32 = v) (k : J C M kc ks (pc + 2) l (.int v :: st)) : J C M kc ks pc l (st) := by
  obtain ⟨p, e, R, s, m, args, below, meth, c, Q, G⟩ := C
  obtain ⟨hx, hb, hr, hml, hown, hts, hlk, hnm, htb, hdf, hdl, hfl, hA⟩ := hC
  intro H locs cells slots ls h1 h2 h3 h4 h5
  exact lv_bipush hx hb hd hv (k H locs cells slots ls h1 h2 h3 h4 h5)
theorem j_sipush {C : jC} {y : jY} {d : Nat} (hC : jOK0 y d C) {M : jM} {kc ks pc : Nat} {l : List (Option Value)} {st : List Value} {n : Int} {v : Int32} (hd : decode y.2.1 pc = .ok (.sipush n, 3)) (hv : (Int16.ofInt n).toInt32 = v) (k : J C M kc ks (pc + 3) l (.int v :: st)) : J C M kc ks pc l (st) := by
  obtain ⟨p, e, R, s, m, args, below, meth, c, Q, G⟩ := C
  obtain ⟨hx, hb, hr, hml, hown, hts, hlk, hnm, htb, hdf, hdl, hfl, hA⟩ := hC
  intro H locs cells slots ls h1 h2 h3 h4 h5
  exact lv_sipush hx hb hd hv (k H locs cells slots ls h1 h2 h3 h4 h5)
theorem j_lconst {C : jC} {y : jY} {d : Nat} (hC : jOK0 y d C) {M : jM} {kc ks pc : Nat} {l : List (Option Value)} {st : List Value} {n : Fin 2} {v : Int64} (hd : decode y.2.1 pc = .ok (.lconst n, 1)) (hv : Int64.ofNat (n : Nat) = v) (k : J C M kc ks (pc + 1) l (.long v :: st)) : J C M kc ks pc l (st) := by
  obtain ⟨p, e, R, s, m, args, below, meth, c, Q, G⟩ := C
  obtain ⟨hx, hb, hr, hml, hown, hts, hlk, hnm, htb, hdf, hdl, hfl, hA⟩ := hC
  intro H locs cells slots ls h1 h2 h3 h4 h5
  exact lv_lconst hx hb hd hv (k H locs cells slots ls h1 h2 h3 h4 h5)
theorem j_fconst0 {C : jC} {y : jY} {d : Nat} (hC : jOK0 y d C) {M : jM} {kc ks pc : Nat} {l : List (Option Value)} {st : List Value}  (hd : decode y.2.1 pc = .ok (.fconst 0, 1))  (k : J C M kc ks (pc + 1) l (.float FP.fconst0 :: st)) : J C M kc ks pc l (st) := by
  obtain ⟨p, e, R, s, m, args, below, meth, c, Q, G⟩ := C
  obtain ⟨hx, hb, hr, hml, hown, hts, hlk, hnm, htb, hdf, hdl, hfl, hA⟩ := hC
  intro H locs cells slots ls h1 h2 h3 h4 h5
  exact lv_fconst0 hx hb hd (k H locs cells slots ls h1 h2 h3 h4 h5)
theorem j_dconst0 {C : jC} {y : jY} {d : Nat} (hC : jOK0 y d C) {M : jM} {kc ks pc : Nat} {l : List (Option Value)} {st : List Value}  (hd : decode y.2.1 pc = .ok (.dconst 0, 1))  (k : J C M kc ks (pc + 1) l (.double FP.dconst0 :: st)) : J C M kc ks pc l (st) := by
  obtain ⟨p, e, R, s, m, args, below, meth, c, Q, G⟩ := C
  obtain ⟨hx, hb, hr, hml, hown, hts, hlk, hnm, htb, hdf, hdl, hfl, hA⟩ := hC
  intro H locs cells slots ls h1 h2 h3 h4 h5
  exact lv_dconst0 hx hb hd (k H locs cells slots ls h1 h2 h3 h4 h5)
theorem j_null {C : jC} {y : jY} {d : Nat} (hC : jOK0 y d C) {M : jM} {kc ks pc : Nat} {l : List (Option Value)} {st : List Value}  (hd : decode y.2.1 pc = .ok (.aconst_null, 1))  (k : J C M kc ks (pc + 1) l (.null :: st)) : J C M kc ks pc l (st) := by
  obtain ⟨p, e, R, s, m, args, below, meth, c, Q, G⟩ := C
  obtain ⟨hx, hb, hr, hml, hown, hts, hlk, hnm, htb, hdf, hdl, hfl, hA⟩ := hC
  intro H locs cells slots ls h1 h2 h3 h4 h5
  exact lv_null hx hb hd (k H locs cells slots ls h1 h2 h3 h4 h5)
theorem j_iadd {C : jC} {y : jY} {d : Nat} (hC : jOK0 y d C) {M : jM} {kc ks pc : Nat} {l : List (Option Value)} {st : List Value} {x z : Int32} (hd : decode y.2.1 pc = .ok (.iadd, 1))  (k : J C M kc ks (pc + 1) l (.int (x + z) :: st)) : J C M kc ks pc l (.int z :: .int x :: st) := by
  obtain ⟨p, e, R, s, m, args, below, meth, c, Q, G⟩ := C
  obtain ⟨hx, hb, hr, hml, hown, hts, hlk, hnm, htb, hdf, hdl, hfl, hA⟩ := hC
  intro H locs cells slots ls h1 h2 h3 h4 h5
  exact lv_iadd hx hb hd (k H locs cells slots ls h1 h2 h3 h4 h5)
theorem j_isub {C : jC} {y : jY} {d : Nat} (hC : jOK0 y d C) {M : jM} {kc ks pc : Nat} {l : List (Option Value)} {st : List Value} {x z : Int32} (hd : decode y.2.1 pc = .ok (.isub, 1))  (k : J C M kc ks (pc + 1) l (.int (x - z) :: st)) : J C M kc ks pc l (.int z :: .int x :: st) := by
  obtain ⟨p, e, R, s, m, args, below, meth, c, Q, G⟩ := C
  obtain ⟨hx, hb, hr, hml, hown, hts, hlk, hnm, htb, hdf, hdl, hfl, hA⟩ := hC
  intro H locs cells slots ls h1 h2 h3 h4 h5
  exact lv_isub hx hb hd (k H locs cells slots ls h1 h2 h3 h4 h5)
theorem j_imul {C : jC} {y : jY} {d : Nat} (hC : jOK0 y d C) {M : jM} {kc ks pc : Nat} {l : List (Option Value)} {st : List Value} {x z : Int32} (hd : decode y.2.1 pc = .ok (.imul, 1))  (k : J C M kc ks (pc + 1) l (.int (x * z) :: st)) : J C M kc ks pc l (.int z :: .int x :: st) := by
  obtain ⟨p, e, R, s, m, args, below, meth, c, Q, G⟩ := C
  obtain ⟨hx, hb, hr, hml, hown, hts, hlk, hnm, htb, hdf, hdl, hfl, hA⟩ := hC
  intro H locs cells slots ls h1 h2 h3 h4 h5
  exact lv_imul hx hb hd (k H locs cells slots ls h1 h2 h3 h4 h5)
theorem j_iand {C : jC} {y : jY} {d : Nat} (hC : jOK0 y d C) {M : jM} {kc ks pc : Nat} {l : List (Option Value)} {st : List Value} {x z : Int32} (hd : decode y.2.1 pc = .ok (.iand, 1))  (k : J C M kc ks (pc + 1) l (.int (x &&& z) :: st)) : J C M kc ks pc l (.int z :: .int x :: st) := by
  obtain ⟨p, e, R, s, m, args, below, meth, c, Q, G⟩ := C
  obtain ⟨hx, hb, hr, hml, hown, hts, hlk, hnm, htb, hdf, hdl, hfl, hA⟩ := hC
  intro H locs cells slots ls h1 h2 h3 h4 h5
  exact lv_iand hx hb hd (k H locs cells slots ls h1 h2 h3 h4 h5)
theorem j_ior {C : jC} {y : jY} {d : Nat} (hC : jOK0 y d C) {M : jM} {kc ks pc : Nat} {l : List (Option Value)} {st : List Value} {x z : Int32} (hd : decode y.2.1 pc = .ok (.ior, 1))  (k : J C M kc ks (pc + 1) l (.int (x ||| z) :: st)) : J C M kc ks pc l (.int z :: .int x :: st) := by
  obtain ⟨p, e, R, s, m, args, below, meth, c, Q, G⟩ := C
  obtain ⟨hx, hb, hr, hml, hown, hts, hlk, hnm, htb, hdf, hdl, hfl, hA⟩ := hC
  intro H locs cells slots ls h1 h2 h3 h4 h5
  exact lv_ior hx hb hd (k H locs cells slots ls h1 h2 h3 h4 h5)
theorem j_ixor {C : jC} {y : jY} {d : Nat} (hC : jOK0 y d C) {M : jM} {kc ks pc : Nat} {l : List (Option Value)} {st : List Value} {x z : Int32} (hd : decode y.2.1 pc = .ok (.ixor, 1))  (k : J C M kc ks (pc + 1) l (.int (x ^^^ z) :: st)) : J C M kc ks pc l (.int z :: .int x :: st) := by
  obtain ⟨p, e, R, s, m, args, below, meth, c, Q, G⟩ := C
  obtain ⟨hx, hb, hr, hml, hown, hts, hlk, hnm, htb, hdf, hdl, hfl, hA⟩ := hC
  intro H locs cells slots ls h1 h2 h3 h4 h5
  exact lv_ixor hx hb hd (k H locs cells slots ls h1 h2 h3 h4 h5)
theorem j_ishl {C : jC} {y : jY} {d : Nat} (hC : jOK0 y d C) {M : jM} {kc ks pc : Nat} {l : List (Option Value)} {st : List Value} {x z : Int32} (hd : decode y.2.1 pc = .ok (.ishl, 1))  (k : J C M kc ks (pc + 1) l (.int (x <<< (z &&& 31)) :: st)) : J C M kc ks pc l (.int z :: .int x :: st) := by
  obtain ⟨p, e, R, s, m, args, below, meth, c, Q, G⟩ := C
  obtain ⟨hx, hb, hr, hml, hown, hts, hlk, hnm, htb, hdf, hdl, hfl, hA⟩ := hC
  intro H locs cells slots ls h1 h2 h3 h4 h5
  exact lv_ishl hx hb hd (k H locs cells slots ls h1 h2 h3 h4 h5)
theorem j_ishr {C : jC} {y : jY} {d : Nat} (hC : jOK0 y d C) {M : jM} {kc ks pc : Nat} {l : List (Option Value)} {st : List Value} {x z : Int32} (hd : decode y.2.1 pc = .ok (.ishr, 1))  (k : J C M kc ks (pc + 1) l (.int (x >>> (z &&& 31)) :: st)) : J C M kc ks pc l (.int z :: .int x :: st) := by
  obtain ⟨p, e, R, s, m, args, below, meth, c, Q, G⟩ := C
  obtain ⟨hx, hb, hr, hml, hown, hts, hlk, hnm, htb, hdf, hdl, hfl, hA⟩ := hC
  intro H locs cells slots ls h1 h2 h3 h4 h5
  exact lv_ishr hx hb hd (k H locs cells slots ls h1 h2 h3 h4 h5)
theorem j_iushr {C : jC} {y : jY} {d : Nat} (hC : jOK0 y d C) {M : jM} {kc ks pc : Nat} {l : List (Option Value)} {st : List Value} {x z : Int32} (hd : decode y.2.1 pc = .ok (.iushr, 1))  (k : J C M kc ks (pc + 1) l (.int ((x.toUInt32 >>> (z.toUInt32 &&& Int32.toUInt32 31)).toInt32) :: st)) : J C M kc ks pc l (.int z :: .int x :: st) := by
  obtain ⟨p, e, R, s, m, args, below, meth, c, Q, G⟩ := C
  obtain ⟨hx, hb, hr, hml, hown, hts, hlk, hnm, htb, hdf, hdl, hfl, hA⟩ := hC
  intro H locs cells slots ls h1 h2 h3 h4 h5
  exact lv_iushr hx hb hd rfl (k H locs cells slots ls h1 h2 h3 h4 h5)
theorem j_idiv {C : jC} {y : jY} {d : Nat} (hC : jOK0 y d C) {M : jM} {kc ks pc : Nat} {l : List (Option Value)} {st : List Value} {x z : Int32} (hd : decode y.2.1 pc = .ok (.idiv, 1)) (hz : ¬ z = 0) (k : J C M kc ks (pc + 1) l (.int (x / z) :: st)) : J C M kc ks pc l (.int z :: .int x :: st) := by
  obtain ⟨p, e, R, s, m, args, below, meth, c, Q, G⟩ := C
  obtain ⟨hx, hb, hr, hml, hown, hts, hlk, hnm, htb, hdf, hdl, hfl, hA⟩ := hC
  intro H locs cells slots ls h1 h2 h3 h4 h5
  exact lv_idiv hx hb hd hz (k H locs cells slots ls h1 h2 h3 h4 h5)
theorem j_irem {C : jC} {y : jY} {d : Nat} (hC : jOK0 y d C) {M : jM} {kc ks pc : Nat} {l : List (Option Value)} {st : List Value} {x z : Int32} (hd : decode y.2.1 pc = .ok (.irem, 1)) (hz : ¬ z = 0) (k : J C M kc ks (pc + 1) l (.int (x - x / z * z) :: st)) : J C M kc ks pc l (.int z :: .int x :: st) := by
  obtain ⟨p, e, R, s, m, args, below, meth, c, Q, G⟩ := C
  obtain ⟨hx, hb, hr, hml, hown, hts, hlk, hnm, htb, hdf, hdl, hfl, hA⟩ := hC
  intro H locs cells slots ls h1 h2 h3 h4 h5
  exact lv_irem hx hb hd hz (k H locs cells slots ls h1 h2 h3 h4 h5)
theorem j_ineg {C : jC} {y : jY} {d : Nat} (hC : jOK0 y d C) {M : jM} {kc ks pc : Nat} {l : List (Option Value)} {st : List Value} {x : Int32} (hd : decode y.2.1 pc = .ok (.ineg, 1))  (k : J C M kc ks (pc + 1) l (.int (-x) :: st)) : J C M kc ks pc l (.int x :: st) := by
  obtain ⟨p, e, R, s, m, args, below, meth, c, Q, G⟩ := C
  obtain ⟨hx, hb, hr, hml, hown, hts, hlk, hnm, htb, hdf, hdl, hfl, hA⟩ := hC
  intro H locs cells slots ls h1 h2 h3 h4 h5
  exact lv_ineg hx hb hd (k H locs cells slots ls h1 h2 h3 h4 h5)
theorem j_i2l {C : jC} {y : jY} {d : Nat} (hC : jOK0 y d C) {M : jM} {kc ks pc : Nat} {l : List (Option Value)} {st : List Value} {x : Int32} (hd : decode y.2.1 pc = .ok (.i2l, 1))  (k : J C M kc ks (pc + 1) l (.long x.toInt64 :: st)) : J C M kc ks pc l (.int x :: st) := by
  obtain ⟨p, e, R, s, m, args, below, meth, c, Q, G⟩ := C
  obtain ⟨hx, hb, hr, hml, hown, hts, hlk, hnm, htb, hdf, hdl, hfl, hA⟩ := hC
  intro H locs cells slots ls h1 h2 h3 h4 h5
  exact lv_i2l hx hb hd rfl (k H locs cells slots ls h1 h2 h3 h4 h5)
theorem j_i2c {C : jC} {y : jY} {d : Nat} (hC : jOK0 y d C) {M : jM} {kc ks pc : Nat} {l : List (Option Value)} {st : List Value} {x : Int32} (hd : decode y.2.1 pc = .ok (.i2c, 1))  (k : J C M kc ks (pc + 1) l (.int ((x.toUInt32 % 65536).toInt32) :: st)) : J C M kc ks pc l (.int x :: st) := by
  obtain ⟨p, e, R, s, m, args, below, meth, c, Q, G⟩ := C
  obtain ⟨hx, hb, hr, hml, hown, hts, hlk, hnm, htb, hdf, hdl, hfl, hA⟩ := hC
  intro H locs cells slots ls h1 h2 h3 h4 h5
  exact lv_i2c hx hb hd rfl (k H locs cells slots ls h1 h2 h3 h4 h5)
theorem j_i2b {C : jC} {y : jY} {d : Nat} (hC : jOK0 y d C) {M : jM} {kc ks pc : Nat} {l : List (Option Value)} {st : List Value} {x : Int32} (hd : decode y.2.1 pc = .ok (.i2b, 1))  (k : J C M kc ks (pc + 1) l (.int x.toInt8.toInt32 :: st)) : J C M kc ks pc l (.int x :: st) := by
  obtain ⟨p, e, R, s, m, args, below, meth, c, Q, G⟩ := C
  obtain ⟨hx, hb, hr, hml, hown, hts, hlk, hnm, htb, hdf, hdl, hfl, hA⟩ := hC
  intro H locs cells slots ls h1 h2 h3 h4 h5
  exact lv_i2b hx hb hd rfl (k H locs cells slots ls h1 h2 h3 h4 h5)
theorem j_i2f {C : jC} {y : jY} {d : Nat} (hC : jOK0 y d C) {M : jM} {kc ks pc : Nat} {l : List (Option Value)} {st : List Value} {x : Int32} (hd : decode y.2.1 pc = .ok (.i2f, 1))  (k : J C M kc ks (pc + 1) l (.float (FP.i2f x) :: st)) : J C M kc ks pc l (.int x :: st) := by
  obtain ⟨p, e, R, s, m, args, below, meth, c, Q, G⟩ := C
  obtain ⟨hx, hb, hr, hml, hown, hts, hlk, hnm, htb, hdf, hdl, hfl, hA⟩ := hC
  intro H locs cells slots ls h1 h2 h3 h4 h5
  exact lv_i2f hx hb hd (k H locs cells slots ls h1 h2 h3 h4 h5)
theorem j_i2d {C : jC} {y : jY} {d : Nat} (hC : jOK0 y d C) {M : jM} {kc ks pc : Nat} {l : List (Option Value)} {st : List Value} {x : Int32} (hd : decode y.2.1 pc = .ok (.i2d, 1))  (k : J C M kc ks (pc + 1) l (.double (FP.i2d x) :: st)) : J C M kc ks pc l (.int x :: st) := by
  obtain ⟨p, e, R, s, m, args, below, meth, c, Q, G⟩ := C
  obtain ⟨hx, hb, hr, hml, hown, hts, hlk, hnm, htb, hdf, hdl, hfl, hA⟩ := hC
  intro H locs cells slots ls h1 h2 h3 h4 h5
  exact lv_i2d hx hb hd (k H locs cells slots ls h1 h2 h3 h4 h5)
theorem j_f2d {C : jC} {y : jY} {d : Nat} (hC : jOK0 y d C) {M : jM} {kc ks pc : Nat} {l : List (Option Value)} {st : List Value} {x : UInt32} (hd : decode y.2.1 pc = .ok (.f2d, 1)) (hne : vf_n64 (FP.f2d x)) (k : J C M kc ks (pc + 1) l (.double (FP.f2d x) :: st)) : J C M kc ks pc l (.float x :: st) := by
  obtain ⟨p, e, R, s, m, args, below, meth, c, Q, G⟩ := C
  obtain ⟨hx, hb, hr, hml, hown, hts, hlk, hnm, htb, hdf, hdl, hfl, hA⟩ := hC
  intro H locs cells slots ls h1 h2 h3 h4 h5
  exact lv_f2d hx hb hd hne (k H locs cells slots ls h1 h2 h3 h4 h5)
theorem j_fdiv {C : jC} {y : jY} {d : Nat} (hC : jOK0 y d C) {M : jM} {kc ks pc : Nat} {l : List (Option Value)} {st : List Value} {x z : UInt32} (hd : decode y.2.1 pc = .ok (.fdiv, 1)) (hne : vf_n32 (FP.fdiv x z)) (k : J C M kc ks (pc + 1) l (.float (FP.fdiv x z) :: st)) : J C M kc ks pc l (.float z :: .float x :: st) := by
  obtain ⟨p, e, R, s, m, args, below, meth, c, Q, G⟩ := C
  obtain ⟨hx, hb, hr, hml, hown, hts, hlk, hnm, htb, hdf, hdl, hfl, hA⟩ := hC
  intro H locs cells slots ls h1 h2 h3 h4 h5
  exact lv_fdiv hx hb hd hne (k H locs cells slots ls h1 h2 h3 h4 h5)
theorem j_ddiv {C : jC} {y : jY} {d : Nat} (hC : jOK0 y d C) {M : jM} {kc ks pc : Nat} {l : List (Option Value)} {st : List Value} {x z : UInt64} (hd : decode y.2.1 pc = .ok (.ddiv, 1)) (hne : vf_n64 (FP.ddiv x z)) (k : J C M kc ks (pc + 1) l (.double (FP.ddiv x z) :: st)) : J C M kc ks pc l (.double z :: .double x :: st) := by
  obtain ⟨p, e, R, s, m, args, below, meth, c, Q, G⟩ := C
  obtain ⟨hx, hb, hr, hml, hown, hts, hlk, hnm, htb, hdf, hdl, hfl, hA⟩ := hC
  intro H locs cells slots ls h1 h2 h3 h4 h5
  exact lv_ddiv hx hb hd hne (k H locs cells slots ls h1 h2 h3 h4 h5)
theorem j_fcmp {C : jC} {y : jY} {d : Nat} (hC : jOK0 y d C) {M : jM} {kc ks pc : Nat} {l : List (Option Value)} {st : List Value} {x z : UInt32} {op : CmpOp} (hd : decode y.2.1 pc = .ok (.fcmp op, 1))  (k : J C M kc ks (pc + 1) l (.int (Op.cmpValue (FP.fcmp x z) op) :: st)) : J C M kc ks pc l (.float z :: .float x :: st) := by
  obtain ⟨p, e, R, s, m, args, below, meth, c, Q, G⟩ := C
  obtain ⟨hx, hb, hr, hml, hown, hts, hlk, hnm, htb, hdf, hdl, hfl, hA⟩ := hC
  intro H locs cells slots ls h1 h2 h3 h4 h5
  exact lv_fcmp hx hb hd (k H locs cells slots ls h1 h2 h3 h4 h5)
theorem j_dcmp {C : jC} {y : jY} {d : Nat} (hC : jOK0 y d C) {M : jM} {kc ks pc : Nat} {l : List (Option Value)} {st : List Value} {x z : UInt64} {op : CmpOp} (hd : decode y.2.1 pc = .ok (.dcmp op, 1))  (k : J C M kc ks (pc + 1) l (.int (Op.cmpValue (FP.dcmp x z) op) :: st)) : J C M kc ks pc l (.double z :: .double x :: st) := by
  obtain ⟨p, e, R, s, m, args, below, meth, c, Q, G⟩ := C
  obtain ⟨hx, hb, hr, hml, hown, hts, hlk, hnm, htb, hdf, hdl, hfl, hA⟩ := hC
  intro H locs cells slots ls h1 h2 h3 h4 h5
  exact lv_dcmp hx hb hd (k H locs cells slots ls h1 h2 h3 h4 h5)
theorem j_lcmp {C : jC} {y : jY} {d : Nat} (hC : jOK0 y d C) {M : jM} {kc ks pc : Nat} {l : List (Option Value)} {st : List Value} {x z : Int64} (hd : decode y.2.1 pc = .ok (.lcmp, 1))  (k : J C M kc ks (pc + 1) l (.int (lg_cmp x z) :: st)) : J C M kc ks pc l (.long z :: .long x :: st) := by
  obtain ⟨p, e, R, s, m, args, below, meth, c, Q, G⟩ := C
  obtain ⟨hx, hb, hr, hml, hown, hts, hlk, hnm, htb, hdf, hdl, hfl, hA⟩ := hC
  intro H locs cells slots ls h1 h2 h3 h4 h5
  exact W.lcmp hx hb hd (k H locs cells slots ls h1 h2 h3 h4 h5)
theorem j_dup {C : jC} {y : jY} {d : Nat} (hC : jOK0 y d C) {M : jM} {kc ks pc : Nat} {l : List (Option Value)} {st : List Value} {v : Value} (hd : decode y.2.1 pc = .ok (.dup, 1)) (hv : jc1 (some v) = true) (k : J C M kc ks (pc + 1) l (v :: v :: st)) : J C M kc ks pc l (v :: st) := by
  obtain ⟨p, e, R, s, m, args, below, meth, c, Q, G⟩ := C
  obtain ⟨hx, hb, hr, hml, hown, hts, hlk, hnm, htb, hdf, hdl, hfl, hA⟩ := hC
  intro H locs cells slots ls h1 h2 h3 h4 h5
  exact lv_dup hx hb hd (by simpa [jc1] using hv) (k H locs cells slots ls h1 h2 h3 h4 h5)
theorem j_dup_x1 {C : jC} {y : jY} {d : Nat} (hC : jOK0 y d C) {M : jM} {kc ks pc : Nat} {l : List (Option Value)} {st : List Value} {v u : Value} (hd : decode y.2.1 pc = .ok (.dup_x1, 1)) (hv : jc1 (some v) = true) (hu : jc1 (some u) = true) (k : J C M kc ks (pc + 1) l (v :: u :: v :: st)) : J C M kc ks pc l (v :: u :: st) := by
  obtain ⟨p, e, R, s, m, args, below, meth, c, Q, G⟩ := C
  obtain ⟨hx, hb, hr, hml, hown, hts, hlk, hnm, htb, hdf, hdl, hfl, hA⟩ := hC
  intro H locs cells slots ls h1 h2 h3 h4 h5
  exact lv_dup_x1 hx hb hd (by simpa [jc1] using hv) (by simpa [jc1] using hu) (k H locs cells slots ls h1 h2 h3 h4 h5)
theorem j_dup2_11 {C : jC} {y : jY} {d : Nat} (hC : jOK0 y d C) {M : jM} {kc ks pc : Nat} {l : List (Option Value)} {st : List Value} {v u : Value} (hd : decode y.2.1 pc = .ok (.dup2, 1)) (hv : jc1 (some v) = true) (hu : jc1 (some u) = true) (k : J C M kc ks (pc + 1) l (v :: u :: v :: u :: st)) : J C M kc ks pc l (v :: u :: st) := by
  obtain ⟨p, e, R, s, m, args, below, meth, c, Q, G⟩ := C
  obtain ⟨hx, hb, hr, hml, hown, hts, hlk, hnm, htb, hdf, hdl, hfl, hA⟩ := hC
  intro H locs cells slots ls h1 h2 h3 h4 h5
  exact lv_dup2_11 hx hb hd (by simpa [jc1] using hv) (by simpa [jc1] using hu) (k H locs cells slots ls h1 h2 h3 h4 h5)
theorem j_pop {C : jC} {y : jY} {d : Nat} (hC : jOK0 y d C) {M : jM} {kc ks pc : Nat} {l : List (Option Value)} {st : List Value} {v : Value} (hd : decode y.2.1 pc = .ok (.pop, 1)) (hv : jc1 (some v) = true) (k : J C M kc ks (pc + 1) l (st)) : J C M kc ks pc l (v :: st) := by
  obtain ⟨p, e, R, s, m, args, below, meth, c, Q, G⟩ := C
  obtain ⟨hx, hb, hr, hml, hown, hts, hlk, hnm, htb, hdf, hdl, hfl, hA⟩ := hC
  intro H locs cells slots ls h1 h2 h3 h4 h5
  exact lv_pop hx hb hd (by simpa [jc1] using hv) (k H locs cells slots ls h1 h2 h3 h4 h5)
theorem j_iload_n {C : jC} {y : jY} {d : Nat} (hC : jOK0 y d C) {M : jM} {kc ks pc : Nat} {l : List (Option Value)} {st : List Value} {n : Fin 4} {x : Int32} (hd : decode y.2.1 pc = .ok (.iload_n n, 1)) (hl : l[(n : Nat)]? = some (some (.int x))) (k : J C M kc ks (pc + 1) l (.int x :: st)) : J C M kc ks pc l (st) := by
  obtain ⟨p, e, R, s, m, args, below, meth, c, Q, G⟩ := C
  obtain ⟨hx, hb, hr, hml, hown, hts, hlk, hnm, htb, hdf, hdl, hfl, hA⟩ := hC
  intro H locs cells slots ls h1 h2 h3 h4 h5
  exact lv_iload_n hx hb hd rfl (jl_at h3 hl) (k H locs cells slots ls h1 h2 h3 h4 h5)
theorem j_iload {C : jC} {y : jY} {d : Nat} (hC : jOK0 y d C) {M : jM} {kc ks pc : Nat} {l : List (Option Value)} {st : List Value} {n : Nat} {x : Int32} (hd : decode y.2.1 pc = .ok (.iload n, 2)) (hl : l[n]? = some (some (.int x))) (k : J C M kc ks (pc + 2) l (.int x :: st)) : J C M kc ks pc l (st) := by
  obtain ⟨p, e, R, s, m, args, below, meth, c, Q, G⟩ := C
  obtain ⟨hx, hb, hr, hml, hown, hts, hlk, hnm, htb, hdf, hdl, hfl, hA⟩ := hC
  intro H locs cells slots ls h1 h2 h3 h4 h5
  exact lv_iload hx hb hd (jl_at h3 hl) (k H locs cells slots ls h1 h2 h3 h4 h5)
theorem j_fload_n {C : jC} {y : jY} {d : Nat} (hC : jOK0 y d C) {M : jM} {kc ks pc : Nat} {l : List (Option Value)} {st : List Value} {n : Fin 4} {x : UInt32} (hd : decode y.2.1 pc = .ok (.fload_n n, 1)) (hl : l[(n : Nat)]? = some (some (.float x))) (k : J C M kc ks (pc + 1) l (.float x :: st)) : J C M kc ks pc l (st) := by
  obtain ⟨p, e, R, s, m, args, below, meth, c, Q, G⟩ := C
  obtain ⟨hx, hb, hr, hml, hown, hts, hlk, hnm, htb, hdf, hdl, hfl, hA⟩ := hC
  intro H locs cells slots ls h1 h2 h3 h4 h5
  exact lv_fload_n hx hb hd rfl (jl_at h3 hl) (k H locs cells slots ls h1 h2 h3 h4 h5)
theorem j_fload {C : jC} {y : jY} {d : Nat} (hC : jOK0 y d C) {M : jM} {kc ks pc : Nat} {l : List (Option Value)} {st : List Value} {n : Nat} {x : UInt32} (hd : decode y.2.1 pc = .ok (.fload n, 2)) (hl : l[n]? = some (some (.float x))) (k : J C M kc ks (pc + 2) l (.float x :: st)) : J C M kc ks pc l (st) := by
  obtain ⟨p, e, R, s, m, args, below, meth, c, Q, G⟩ := C
  obtain ⟨hx, hb, hr, hml, hown, hts, hlk, hnm, htb, hdf, hdl, hfl, hA⟩ := hC
  intro H locs cells slots ls h1 h2 h3 h4 h5
  exact lv_fload hx hb hd (jl_at h3 hl) (k H locs cells slots ls h1 h2 h3 h4 h5)
theorem j_dload_n {C : jC} {y : jY} {d : Nat} (hC : jOK0 y d C) {M : jM} {kc ks pc : Nat} {l : List (Option Value)} {st : List Value} {n : Fin 4} {x : UInt64} (hd : decode y.2.1 pc = .ok (.dload_n n, 1)) (hl : l[(n : Nat)]? = some (some (.double x))) (k : J C M kc ks (pc + 1) l (.double x :: st)) : J C M kc ks pc l (st) := by
  obtain ⟨p, e, R, s, m, args, below, meth, c, Q, G⟩ := C
  obtain ⟨hx, hb, hr, hml, hown, hts, hlk, hnm, htb, hdf, hdl, hfl, hA⟩ := hC
  intro H locs cells slots ls h1 h2 h3 h4 h5
  exact lv_dload_n hx hb hd rfl (jl_at h3 hl) (k H locs cells slots ls h1 h2 h3 h4 h5)
theorem j_dload {C : jC} {y : jY} {d : Nat} (hC : jOK0 y d C) {M : jM} {kc ks pc : Nat} {l : List (Option Value)} {st : List Value} {n : Nat} {x : UInt64} (hd : decode y.2.1 pc = .ok (.dload n, 2)) (hl : l[n]? = some (some (.double x))) (k : J C M kc ks (pc + 2) l (.double x :: st)) : J C M kc ks pc l (st) := by
  obtain ⟨p, e, R, s, m, args, below, meth, c, Q, G⟩ := C
  obtain ⟨hx, hb, hr, hml, hown, hts, hlk, hnm, htb, hdf, hdl, hfl, hA⟩ := hC
  intro H locs cells slots ls h1 h2 h3 h4 h5
  exact lv_dload hx hb hd (jl_at h3 hl) (k H locs cells slots ls h1 h2 h3 h4 h5)
def jrf (v : Value) : Prop := v = .null ∨ ∃ a, v = .ref a
theorem jrf_rf (r : Option Nat) : jrf (va_rf r) := va_rf_or r
theorem jrf_ref (a : Nat) : jrf (.ref a) := Or.inr ⟨a, rfl⟩
theorem jrf_null : jrf .null := Or.inl rfl
section JW
variable {p : Program} {l : Launch} {e : Env} {R : Room} {s : State} {m : MethodId} {args : Array Value} {below : List Frame} {meth : Method} {c : Code} {H : Heap} {locs : List Loc} {cells slots : Nat} {Q : State → Prop}
variable {cc : ByteArray} {pc : Nat} {ls : Array Slot} {rest : List Value}
theorem jw_aload_n (hexec : p.tables.exec = Jvm.exec) (hb : c.code = cc) {k : Fin 4} {v : Value} (hdg : decode cc pc = .ok (.aload_n k, 1)) (hl : ls[(k : Nat)]? = some (.val v)) (hv : jrf v)
    (kk : W p l e R s m args below meth c H locs cells slots Q (F0 m (pc + 1) ls (v :: rest))) : W p l e R s m args below meth c H locs cells slots Q (F0 m pc ls (rest)) := by
  intro T hT X
  obtain ⟨t, a, b⟩ := kk T hT X
  refine ⟨t, ?_, b⟩
  rcases hv with rfl | ⟨x, rfl⟩
  · jvm_step X.here [X.here.top, hexec, hb, hdg, hl, Value.isRef]
    exact a
  · jvm_step X.here [X.here.top, hexec, hb, hdg, hl, Value.isRef]
    exact a
theorem jw_aload (hexec : p.tables.exec = Jvm.exec) (hb : c.code = cc) {k : Nat} {v : Value} (hdg : decode cc pc = .ok (.aload k, 2)) (hl : ls[k]? = some (.val v)) (hv : jrf v)
    (kk : W p l e R s m args below meth c H locs cells slots Q (F0 m (pc + 2) ls (v :: rest))) : W p l e R s m args below meth c H locs cells slots Q (F0 m pc ls (rest)) := by
  intro T hT X
  obtain ⟨t, a, b⟩ := kk T hT X
  refine ⟨t, ?_, b⟩
  rcases hv with rfl | ⟨x, rfl⟩
  · jvm_step X.here [X.here.top, hexec, hb, hdg, hl, Value.isRef]
    exact a
  · jvm_step X.here [X.here.top, hexec, hb, hdg, hl, Value.isRef]
    exact a
theorem jw_astore_n (hexec : p.tables.exec = Jvm.exec) (hb : c.code = cc) {k : Fin 4} {nL : Nat} {v : Value} {lv : List (Nat × Value)} (hdg : decode cc pc = .ok (.astore_n k, 1)) (h : lv_has ls nL lv) (hn : (k : Nat) < nL) (hv : jrf v)
    (kk : ∀ ls' : Array Slot, lv_has ls' nL (((k : Nat), v) :: lv.filter (fun q => !(q.1 == (k : Nat)) && !(q.1 + 1 == (k : Nat) && q.2.category == 2))) → W p l e R s m args below meth c H locs cells slots Q (F0 m (pc + 1) ls' rest)) : W p l e R s m args below meth c H locs cells slots Q (F0 m pc ls (v :: rest)) := by
  have hc : v.category = 1 := by rcases hv with rfl | ⟨x, rfl⟩ <;> rfl
  obtain ⟨ls', e', h'⟩ := lv_store1 (v := v) h hn hc
  intro T hT X
  obtain ⟨t, a, b⟩ := kk ls' h' T hT X
  refine ⟨t, ?_, b⟩
  rcases hv with rfl | ⟨x, rfl⟩
  · jvm_step X.here [X.here.top, ↓top_set X.here.top, hexec, hb, hdg, e', Value.isRef]
    exact a
  · jvm_step X.here [X.here.top, ↓top_set X.here.top, hexec, hb, hdg, e', Value.isRef]
    exact a
theorem jw_astore (hexec : p.tables.exec = Jvm.exec) (hb : c.code = cc) {k : Nat} {nL : Nat} {v : Value} {lv : List (Nat × Value)} (hdg : decode cc pc = .ok (.astore k, 2)) (h : lv_has ls nL lv) (hn : k < nL) (hv : jrf v)
    (kk : ∀ ls' : Array Slot, lv_has ls' nL ((k, v) :: lv.filter (fun q => !(q.1 == k) && !(q.1 + 1 == k && q.2.category == 2))) → W p l e R s m args below meth c H locs cells slots Q (F0 m (pc + 2) ls' rest)) : W p l e R s m args below meth c H locs cells slots Q (F0 m pc ls (v :: rest)) := by
  have hc : v.category = 1 := by rcases hv with rfl | ⟨x, rfl⟩ <;> rfl
  obtain ⟨ls', e', h'⟩ := lv_store1 (v := v) h hn hc
  intro T hT X
  obtain ⟨t, a, b⟩ := kk ls' h' T hT X
  refine ⟨t, ?_, b⟩
  rcases hv with rfl | ⟨x, rfl⟩
  · jvm_step X.here [X.here.top, ↓top_set X.here.top, hexec, hb, hdg, e', Value.isRef]
    exact a
  · jvm_step X.here [X.here.top, ↓top_set X.here.top, hexec, hb, hdg, e', Value.isRef]
    exact a
end JW
theorem j_aload_n {C : jC} {y : jY} {d : Nat} (hC : jOK0 y d C) {M : jM} {kc ks pc : Nat} {l : List (Option Value)} {st : List Value} {n : Fin 4} {v : Value} (hd : decode y.2.1 pc = .ok (.aload_n n, 1)) (hl : l[(n : Nat)]? = some (some v)) (hv : jrf v) (k : J C M kc ks (pc + 1) l (v :: st)) : J C M kc ks pc l (st) := by
  obtain ⟨p, e, R, s, m, args, below, meth, c, Q, G⟩ := C
  obtain ⟨hx, hb, hr, hml, hown, hts, hlk, hnm, htb, hdf, hdl, hfl, hA⟩ := hC
  intro H locs cells slots ls h1 h2 h3 h4 h5
  exact jw_aload_n hx hb hd (jl_at h3 hl) hv (k H locs cells slots ls h1 h2 h3 h4 h5)
theorem j_aload {C : jC} {y : jY} {d : Nat} (hC : jOK0 y d C) {M : jM} {kc ks pc : Nat} {l : List (Option Value)} {st : List Value} {n : Nat} {v : Value} (hd : decode y.2.1 pc = .ok (.aload n, 2)) (hl : l[n]? = some (some v)) (hv : jrf v) (k : J C M kc ks (pc + 2) l (v :: st)) : J C M kc ks pc l (st) := by
  obtain ⟨p, e, R, s, m, args, below, meth, c, Q, G⟩ := C
  obtain ⟨hx, hb, hr, hml, hown, hts, hlk, hnm, htb, hdf, hdl, hfl, hA⟩ := hC
  intro H locs cells slots ls h1 h2 h3 h4 h5
  exact jw_aload hx hb hd (jl_at h3 hl) hv (k H locs cells slots ls h1 h2 h3 h4 h5)
theorem j_istore_n0 {C : jC} {y : jY} {d : Nat} (hC : jOK0 y d C) {M : jM} {kc ks pc : Nat} {a0 : Option Value} {t : List (Option Value)} {st : List Value} {x : Int32} (hd : decode y.2.1 pc = .ok (.istore_n 0, 1))  (hn : 0 < y.2.2.1)  (k : J C M kc ks (pc + 1) (some (.int x) :: t) st) : J C M kc ks pc (a0 :: t) (.int x :: st) := by
  obtain ⟨p, e, R, s, m, args, below, meth, c, Q, G⟩ := C
  obtain ⟨hx, hb, hr, hml, hown, hts, hlk, hnm, htb, hdf, hdl, hfl, hA⟩ := hC
  intro H locs cells slots ls h1 h2 h3 h4 h5
  exact lv_istore_n (nL := c.maxLocals) (i := 0) hx hb hd rfl h3 (by rw [hml]; exact hn) rfl (fun ls' h' => k H locs cells slots ls' h1 h2 (jl_put (i := 0) (l := a0 :: t) (Or.inl rfl) h') h4 h5)
theorem j_istore_n1 {C : jC} {y : jY} {d : Nat} (hC : jOK0 y d C) {M : jM} {kc ks pc : Nat} {a0 a1 : Option Value} {t : List (Option Value)} {st : List Value} {x : Int32} (hd : decode y.2.1 pc = .ok (.istore_n 1, 1))  (hn : 1 < y.2.2.1) (hc : jc1 a0 = true) (k : J C M kc ks (pc + 1) (a0 :: some (.int x) :: t) st) : J C M kc ks pc (a0 :: a1 :: t) (.int x :: st) := by
  obtain ⟨p, e, R, s, m, args, below, meth, c, Q, G⟩ := C
  obtain ⟨hx, hb, hr, hml, hown, hts, hlk, hnm, htb, hdf, hdl, hfl, hA⟩ := hC
  intro H locs cells slots ls h1 h2 h3 h4 h5
  exact lv_istore_n (nL := c.maxLocals) (i := 1) hx hb hd rfl h3 (by rw [hml]; exact hn) rfl (fun ls' h' => k H locs cells slots ls' h1 h2 (jl_put (i := 1) (l := a0 :: a1 :: t) (Or.inr ⟨0, rfl, hc⟩) h') h4 h5)
theorem j_istore_n2 {C : jC} {y : jY} {d : Nat} (hC : jOK0 y d C) {M : jM} {kc ks pc : Nat} {a0 a1 a2 : Option Value} {t : List (Option Value)} {st : List Value} {x : Int32} (hd : decode y.2.1 pc = .ok (.istore_n 2, 1))  (hn : 2 < y.2.2.1) (hc : jc1 a1 = true) (k : J C M kc ks (pc + 1) (a0 :: a1 :: some (.int x) :: t) st) : J C M kc ks pc (a0 :: a1 :: a2 :: t) (.int x :: st) := by
  obtain ⟨p, e, R, s, m, args, below, meth, c, Q, G⟩ := C
  obtain ⟨hx, hb, hr, hml, hown, hts, hlk, hnm, htb, hdf, hdl, hfl, hA⟩ := hC
  intro H locs cells slots ls h1 h2 h3 h4 h5
  exact lv_istore_n (nL := c.maxLocals) (i := 2) hx hb hd rfl h3 (by rw [hml]; exact hn) rfl (fun ls' h' => k H locs cells slots ls' h1 h2 (jl_put (i := 2) (l := a0 :: a1 :: a2 :: t) (Or.inr ⟨1, rfl, hc⟩) h') h4 h5)
theorem j_istore_n3 {C : jC} {y : jY} {d : Nat} (hC : jOK0 y d C) {M : jM} {kc ks pc : Nat} {a0 a1 a2 a3 : Option Value} {t : List (Option Value)} {st : List Value} {x : Int32} (hd : decode y.2.1 pc = .ok (.istore_n 3, 1))  (hn : 3 < y.2.2.1) (hc : jc1 a2 = true) (k : J C M kc ks (pc + 1) (a0 :: a1 :: a2 :: some (.int x) :: t) st) : J C M kc ks pc (a0 :: a1 :: a2 :: a3 :: t) (.int x :: st) := by
  obtain ⟨p, e, R, s, m, args, below, meth, c, Q, G⟩ := C
  obtain ⟨hx, hb, hr, hml, hown, hts, hlk, hnm, htb, hdf, hdl, hfl, hA⟩ := hC
  intro H locs cells slots ls h1 h2 h3 h4 h5
  exact lv_istore_n (nL := c.maxLocals) (i := 3) hx hb hd rfl h3 (by rw [hml]; exact hn) rfl (fun ls' h' => k H locs cells slots ls' h1 h2 (jl_put (i := 3) (l := a0 :: a1 :: a2 :: a3 :: t) (Or.inr ⟨2, rfl, hc⟩) h') h4 h5)
theorem j_istore_4 {C : jC} {y : jY} {d : Nat} (hC : jOK0 y d C) {M : jM} {kc ks pc : Nat} {a0 a1 a2 a3 a4 : Option Value} {t : List (Option Value)} {st : List Value} {x : Int32} (hd : decode y.2.1 pc = .ok (.istore 4, 2))  (hn : 4 < y.2.2.1) (hc : jc1 a3 = true) (k : J C M kc ks (pc + 2) (a0 :: a1 :: a2 :: a3 :: some (.int x) :: t) st) : J C M kc ks pc (a0 :: a1 :: a2 :: a3 :: a4 :: t) (.int x :: st) := by
  obtain ⟨p, e, R, s, m, args, below, meth, c, Q, G⟩ := C
  obtain ⟨hx, hb, hr, hml, hown, hts, hlk, hnm, htb, hdf, hdl, hfl, hA⟩ := hC
  intro H locs cells slots ls h1 h2 h3 h4 h5
  exact lv_istore (nL := c.maxLocals) (i := 4) hx hb hd h3 (by rw [hml]; exact hn) rfl (fun ls' h' => k H locs cells slots ls' h1 h2 (jl_put (i := 4) (l := a0 :: a1 :: a2 :: a3 :: a4 :: t) (Or.inr ⟨3, rfl, hc⟩) h') h4 h5)
theorem j_istore_5 {C : jC} {y : jY} {d : Nat} (hC : jOK0 y d C) {M : jM} {kc ks pc : Nat} {a0 a1 a2 a3 a4 a5 : Option Value} {t : List (Option Value)} {st : List Value} {x : Int32} (hd : decode y.2.1 pc = .ok (.istore 5, 2))  (hn : 5 < y.2.2.1) (hc : jc1 a4 = true) (k : J C M kc ks (pc + 2) (a0 :: a1 :: a2 :: a3 :: a4 :: some (.int x) :: t) st) : J C M kc ks pc (a0 :: a1 :: a2 :: a3 :: a4 :: a5 :: t) (.int x :: st) := by
  obtain ⟨p, e, R, s, m, args, below, meth, c, Q, G⟩ := C
  obtain ⟨hx, hb, hr, hml, hown, hts, hlk, hnm, htb, hdf, hdl, hfl, hA⟩ := hC
  intro H locs cells slots ls h1 h2 h3 h4 h5
  exact lv_istore (nL := c.maxLocals) (i := 5) hx hb hd h3 (by rw [hml]; exact hn) rfl (fun ls' h' => k H locs cells slots ls' h1 h2 (jl_put (i := 5) (l := a0 :: a1 :: a2 :: a3 :: a4 :: a5 :: t) (Or.inr ⟨4, rfl, hc⟩) h') h4 h5)
theorem j_istore_6 {C : jC} {y : jY} {d : Nat} (hC : jOK0 y d C) {M : jM} {kc ks pc : Nat} {a0 a1 a2 a3 a4 a5 a6 : Option Value} {t : List (Option Value)} {st : List Value} {x : Int32} (hd : decode y.2.1 pc = .ok (.istore 6, 2))  (hn : 6 < y.2.2.1) (hc : jc1 a5 = true) (k : J C M kc ks (pc + 2) (a0 :: a1 :: a2 :: a3 :: a4 :: a5 :: some (.int x) :: t) st) : J C M kc ks pc (a0 :: a1 :: a2 :: a3 :: a4 :: a5 :: a6 :: t) (.int x :: st) := by
  obtain ⟨p, e, R, s, m, args, below, meth, c, Q, G⟩ := C
  obtain ⟨hx, hb, hr, hml, hown, hts, hlk, hnm, htb, hdf, hdl, hfl, hA⟩ := hC
  intro H locs cells slots ls h1 h2 h3 h4 h5
  exact lv_istore (nL := c.maxLocals) (i := 6) hx hb hd h3 (by rw [hml]; exact hn) rfl (fun ls' h' => k H locs cells slots ls' h1 h2 (jl_put (i := 6) (l := a0 :: a1 :: a2 :: a3 :: a4 :: a5 :: a6 :: t) (Or.inr ⟨5, rfl, hc⟩) h') h4 h5)
theorem j_istore_7 {C : jC} {y : jY} {d : Nat} (hC : jOK0 y d C) {M : jM} {kc ks pc : Nat} {a0 a1 a2 a3 a4 a5 a6 a7 : Option Value} {t : List (Option Value)} {st : List Value} {x : Int32} (hd : decode y.2.1 pc = .ok (.istore 7, 2))  (hn : 7 < y.2.2.1) (hc : jc1 a6 = true) (k : J C M kc ks (pc + 2) (a0 :: a1 :: a2 :: a3 :: a4 :: a5 :: a6 :: some (.int x) :: t) st) : J C M kc ks pc (a0 :: a1 :: a2 :: a3 :: a4 :: a5 :: a6 :: a7 :: t) (.int x :: st) := by
  obtain ⟨p, e, R, s, m, args, below, meth, c, Q, G⟩ := C
  obtain ⟨hx, hb, hr, hml, hown, hts, hlk, hnm, htb, hdf, hdl, hfl, hA⟩ := hC
  intro H locs cells slots ls h1 h2 h3 h4 h5
  exact lv_istore (nL := c.maxLocals) (i := 7) hx hb hd h3 (by rw [hml]; exact hn) rfl (fun ls' h' => k H locs cells slots ls' h1 h2 (jl_put (i := 7) (l := a0 :: a1 :: a2 :: a3 :: a4 :: a5 :: a6 :: a7 :: t) (Or.inr ⟨6, rfl, hc⟩) h') h4 h5)
theorem j_istore_8 {C : jC} {y : jY} {d : Nat} (hC : jOK0 y d C) {M : jM} {kc ks pc : Nat} {a0 a1 a2 a3 a4 a5 a6 a7 a8 : Option Value} {t : List (Option Value)} {st : List Value} {x : Int32} (hd : decode y.2.1 pc = .ok (.istore 8, 2))  (hn : 8 < y.2.2.1) (hc : jc1 a7 = true) (k : J C M kc ks (pc + 2) (a0 :: a1 :: a2 :: a3 :: a4 :: a5 :: a6 :: a7 :: some (.int x) :: t) st) : J C M kc ks pc (a0 :: a1 :: a2 :: a3 :: a4 :: a5 :: a6 :: a7 :: a8 :: t) (.int x :: st) := by
  obtain ⟨p, e, R, s, m, args, below, meth, c, Q, G⟩ := C
  obtain ⟨hx, hb, hr, hml, hown, hts, hlk, hnm, htb, hdf, hdl, hfl, hA⟩ := hC
  intro H locs cells slots ls h1 h2 h3 h4 h5
  exact lv_istore (nL := c.maxLocals) (i := 8) hx hb hd h3 (by rw [hml]; exact hn) rfl (fun ls' h' => k H locs cells slots ls' h1 h2 (jl_put (i := 8) (l := a0 :: a1 :: a2 :: a3 :: a4 :: a5 :: a6 :: a7 :: a8 :: t) (Or.inr ⟨7, rfl, hc⟩) h') h4 h5)
theorem j_astore_n0 {C : jC} {y : jY} {d : Nat} (hC : jOK0 y d C) {M : jM} {kc ks pc : Nat} {a0 : Option Value} {t : List (Option Value)} {st : List Value} {v : Value} (hd : decode y.2.1 pc = .ok (.astore_n 0, 1)) (hv : jrf v) (hn : 0 < y.2.2.1)  (k : J C M kc ks (pc + 1) (some (v) :: t) st) : J C M kc ks pc (a0 :: t) (v :: st) := by
  obtain ⟨p, e, R, s, m, args, below, meth, c, Q, G⟩ := C
  obtain ⟨hx, hb, hr, hml, hown, hts, hlk, hnm, htb, hdf, hdl, hfl, hA⟩ := hC
  intro H locs cells slots ls h1 h2 h3 h4 h5
  exact jw_astore_n (nL := c.maxLocals) hx hb hd h3 (by rw [hml]; exact hn) hv (fun ls' h' => k H locs cells slots ls' h1 h2 (jl_put (i := 0) (l := a0 :: t) (Or.inl rfl) h') h4 h5)
theorem j_astore_n1 {C : jC} {y : jY} {d : Nat} (hC : jOK0 y d C) {M : jM} {kc ks pc : Nat} {a0 a1 : Option Value} {t : List (Option Value)} {st : List Value} {v : Value} (hd : decode y.2.1 pc = .ok (.astore_n 1, 1)) (hv : jrf v) (hn : 1 < y.2.2.1) (hc : jc1 a0 = true) (k : J C M kc ks (pc + 1) (a0 :: some (v) :: t) st) : J C M kc ks pc (a0 :: a1 :: t) (v :: st) := by
  obtain ⟨p, e, R, s, m, args, below, meth, c, Q, G⟩ := C
  obtain ⟨hx, hb, hr, hml, hown, hts, hlk, hnm, htb, hdf, hdl, hfl, hA⟩ := hC
  intro H locs cells slots ls h1 h2 h3 h4 h5
  exact jw_astore_n (nL := c.maxLocals) hx hb hd h3 (by rw [hml]; exact hn) hv (fun ls' h' => k H locs cells slots ls' h1 h2 (jl_put (i := 1) (l := a0 :: a1 :: t) (Or.inr ⟨0, rfl, hc⟩) h') h4 h5)
theorem j_astore_n2 {C : jC} {y : jY} {d : Nat} (hC : jOK0 y d C) {M : jM} {kc ks pc : Nat} {a0 a1 a2 : Option Value} {t : List (Option Value)} {st : List Value} {v : Value} (hd : decode y.2.1 pc = .ok (.astore_n 2, 1)) (hv : jrf v) (hn : 2 < y.2.2.1) (hc : jc1 a1 = true) (k : J C M kc ks (pc + 1) (a0 :: a1 :: some (v) :: t) st) : J C M kc ks pc (a0 :: a1 :: a2 :: t) (v :: st) := by
  obtain ⟨p, e, R, s, m, args, below, meth, c, Q, G⟩ := C
  obtain ⟨hx, hb, hr, hml, hown, hts, hlk, hnm, htb, hdf, hdl, hfl, hA⟩ := hC
  intro H locs cells slots ls h1 h2 h3 h4 h5
  exact jw_astore_n (nL := c.maxLocals) hx hb hd h3 (by rw [hml]; exact hn) hv (fun ls' h' => k H locs cells slots ls' h1 h2 (jl_put (i := 2) (l := a0 :: a1 :: a2 :: t) (Or.inr ⟨1, rfl, hc⟩) h') h4 h5)
theorem j_astore_n3 {C : jC} {y : jY} {d : Nat} (hC : jOK0 y d C) {M : jM} {kc ks pc : Nat} {a0 a1 a2 a3 : Option Value} {t : List (Option Value)} {st : List Value} {v : Value} (hd : decode y.2.1 pc = .ok (.astore_n 3, 1)) (hv : jrf v) (hn : 3 < y.2.2.1) (hc : jc1 a2 = true) (k : J C M kc ks (pc + 1) (a0 :: a1 :: a2 :: some (v) :: t) st) : J C M kc ks pc (a0 :: a1 :: a2 :: a3 :: t) (v :: st) := by
  obtain ⟨p, e, R, s, m, args, below, meth, c, Q, G⟩ := C
  obtain ⟨hx, hb, hr, hml, hown, hts, hlk, hnm, htb, hdf, hdl, hfl, hA⟩ := hC
  intro H locs cells slots ls h1 h2 h3 h4 h5
  exact jw_astore_n (nL := c.maxLocals) hx hb hd h3 (by rw [hml]; exact hn) hv (fun ls' h' => k H locs cells slots ls' h1 h2 (jl_put (i := 3) (l := a0 :: a1 :: a2 :: a3 :: t) (Or.inr ⟨2, rfl, hc⟩) h') h4 h5)
theorem j_astore_4 {C : jC} {y : jY} {d : Nat} (hC : jOK0 y d C) {M : jM} {kc ks pc : Nat} {a0 a1 a2 a3 a4 : Option Value} {t : List (Option Value)} {st : List Value} {v : Value} (hd : decode y.2.1 pc = .ok (.astore 4, 2)) (hv : jrf v) (hn : 4 < y.2.2.1) (hc : jc1 a3 = true) (k : J C M kc ks (pc + 2) (a0 :: a1 :: a2 :: a3 :: some (v) :: t) st) : J C M kc ks pc (a0 :: a1 :: a2 :: a3 :: a4 :: t) (v :: st) := by
  obtain ⟨p, e, R, s, m, args, below, meth, c, Q, G⟩ := C
  obtain ⟨hx, hb, hr, hml, hown, hts, hlk, hnm, htb, hdf, hdl, hfl, hA⟩ := hC
  intro H locs cells slots ls h1 h2 h3 h4 h5
  exact jw_astore (nL := c.maxLocals) hx hb hd h3 (by rw [hml]; exact hn) hv (fun ls' h' => k H locs cells slots ls' h1 h2 (jl_put (i := 4) (l := a0 :: a1 :: a2 :: a3 :: a4 :: t) (Or.inr ⟨3, rfl, hc⟩) h') h4 h5)
theorem j_astore_5 {C : jC} {y : jY} {d : Nat} (hC : jOK0 y d C) {M : jM} {kc ks pc : Nat} {a0 a1 a2 a3 a4 a5 : Option Value} {t : List (Option Value)} {st : List Value} {v : Value} (hd : decode y.2.1 pc = .ok (.astore 5, 2)) (hv : jrf v) (hn : 5 < y.2.2.1) (hc : jc1 a4 = true) (k : J C M kc ks (pc + 2) (a0 :: a1 :: a2 :: a3 :: a4 :: some (v) :: t) st) : J C M kc ks pc (a0 :: a1 :: a2 :: a3 :: a4 :: a5 :: t) (v :: st) := by
  obtain ⟨p, e, R, s, m, args, below, meth, c, Q, G⟩ := C
  obtain ⟨hx, hb, hr, hml, hown, hts, hlk, hnm, htb, hdf, hdl, hfl, hA⟩ := hC
  intro H locs cells slots ls h1 h2 h3 h4 h5
  exact jw_astore (nL := c.maxLocals) hx hb hd h3 (by rw [hml]; exact hn) hv (fun ls' h' => k H locs cells slots ls' h1 h2 (jl_put (i := 5) (l := a0 :: a1 :: a2 :: a3 :: a4 :: a5 :: t) (Or.inr ⟨4, rfl, hc⟩) h') h4 h5)
theorem j_astore_6 {C : jC} {y : jY} {d : Nat} (hC : jOK0 y d C) {M : jM} {kc ks pc : Nat} {a0 a1 a2 a3 a4 a5 a6 : Option Value} {t : List (Option Value)} {st : List Value} {v : Value} (hd : decode y.2.1 pc = .ok (.astore 6, 2)) (hv : jrf v) (hn : 6 < y.2.2.1) (hc : jc1 a5 = true) (k : J C M kc ks (pc + 2) (a0 :: a1 :: a2 :: a3 :: a4 :: a5 :: some (v) :: t) st) : J C M kc ks pc (a0 :: a1 :: a2 :: a3 :: a4 :: a5 :: a6 :: t) (v :: st) := by
  obtain ⟨p, e, R, s, m, args, below, meth, c, Q, G⟩ := C
  obtain ⟨hx, hb, hr, hml, hown, hts, hlk, hnm, htb, hdf, hdl, hfl, hA⟩ := hC
  intro H locs cells slots ls h1 h2 h3 h4 h5
  exact jw_astore (nL := c.maxLocals) hx hb hd h3 (by rw [hml]; exact hn) hv (fun ls' h' => k H locs cells slots ls' h1 h2 (jl_put (i := 6) (l := a0 :: a1 :: a2 :: a3 :: a4 :: a5 :: a6 :: t) (Or.inr ⟨5, rfl, hc⟩) h') h4 h5)
theorem j_astore_7 {C : jC} {y : jY} {d : Nat} (hC : jOK0 y d C) {M : jM} {kc ks pc : Nat} {a0 a1 a2 a3 a4 a5 a6 a7 : Option Value} {t : List (Option Value)} {st : List Value} {v : Value} (hd : decode y.2.1 pc = .ok (.astore 7, 2)) (hv : jrf v) (hn : 7 < y.2.2.1) (hc : jc1 a6 = true) (k : J C M kc ks (pc + 2) (a0 :: a1 :: a2 :: a3 :: a4 :: a5 :: a6 :: some (v) :: t) st) : J C M kc ks pc (a0 :: a1 :: a2 :: a3 :: a4 :: a5 :: a6 :: a7 :: t) (v :: st) := by
  obtain ⟨p, e, R, s, m, args, below, meth, c, Q, G⟩ := C
  obtain ⟨hx, hb, hr, hml, hown, hts, hlk, hnm, htb, hdf, hdl, hfl, hA⟩ := hC
  intro H locs cells slots ls h1 h2 h3 h4 h5
  exact jw_astore (nL := c.maxLocals) hx hb hd h3 (by rw [hml]; exact hn) hv (fun ls' h' => k H locs cells slots ls' h1 h2 (jl_put (i := 7) (l := a0 :: a1 :: a2 :: a3 :: a4 :: a5 :: a6 :: a7 :: t) (Or.inr ⟨6, rfl, hc⟩) h') h4 h5)
theorem j_astore_8 {C : jC} {y : jY} {d : Nat} (hC : jOK0 y d C) {M : jM} {kc ks pc : Nat} {a0 a1 a2 a3 a4 a5 a6 a7 a8 : Option Value} {t : List (Option Value)} {st : List Value} {v : Value} (hd : decode y.2.1 pc = .ok (.astore 8, 2)) (hv : jrf v) (hn : 8 < y.2.2.1) (hc : jc1 a7 = true) (k : J C M kc ks (pc + 2) (a0 :: a1 :: a2 :: a3 :: a4 :: a5 :: a6 :: a7 :: some (v) :: t) st) : J C M kc ks pc (a0 :: a1 :: a2 :: a3 :: a4 :: a5 :: a6 :: a7 :: a8 :: t) (v :: st) := by
  obtain ⟨p, e, R, s, m, args, below, meth, c, Q, G⟩ := C
  obtain ⟨hx, hb, hr, hml, hown, hts, hlk, hnm, htb, hdf, hdl, hfl, hA⟩ := hC
  intro H locs cells slots ls h1 h2 h3 h4 h5
  exact jw_astore (nL := c.maxLocals) hx hb hd h3 (by rw [hml]; exact hn) hv (fun ls' h' => k H locs cells slots ls' h1 h2 (jl_put (i := 8) (l := a0 :: a1 :: a2 :: a3 :: a4 :: a5 :: a6 :: a7 :: a8 :: t) (Or.inr ⟨7, rfl, hc⟩) h') h4 h5)
theorem j_fstore_n0 {C : jC} {y : jY} {d : Nat} (hC : jOK0 y d C) {M : jM} {kc ks pc : Nat} {a0 : Option Value} {t : List (Option Value)} {st : List Value} {x : UInt32} (hd : decode y.2.1 pc = .ok (.fstore_n 0, 1))  (hn : 0 < y.2.2.1)  (k : J C M kc ks (pc + 1) (some (.float x) :: t) st) : J C M kc ks pc (a0 :: t) (.float x :: st) := by
  obtain ⟨p, e, R, s, m, args, below, meth, c, Q, G⟩ := C
  obtain ⟨hx, hb, hr, hml, hown, hts, hlk, hnm, htb, hdf, hdl, hfl, hA⟩ := hC
  intro H locs cells slots ls h1 h2 h3 h4 h5
  exact lv_fstore_n (nL := c.maxLocals) (i := 0) hx hb hd rfl h3 (by rw [hml]; exact hn) rfl (fun ls' h' => k H locs cells slots ls' h1 h2 (jl_put (i := 0) (l := a0 :: t) (Or.inl rfl) h') h4 h5)
theorem j_fstore_n1 {C : jC} {y : jY} {d : Nat} (hC : jOK0 y d C) {M : jM} {kc ks pc : Nat} {a0 a1 : Option Value} {t : List (Option Value)} {st : List Value} {x : UInt32} (hd : decode y.2.1 pc = .ok (.fstore_n 1, 1))  (hn : 1 < y.2.2.1) (hc : jc1 a0 = true) (k : J C M kc ks (pc + 1) (a0 :: some (.float x) :: t) st) : J C M kc ks pc (a0 :: a1 :: t) (.float x :: st) := by
  obtain ⟨p, e, R, s, m, args, below, meth, c, Q, G⟩ := C
  obtain ⟨hx, hb, hr, hml, hown, hts, hlk, hnm, htb, hdf, hdl, hfl, hA⟩ := hC
  intro H locs cells slots ls h1 h2 h3 h4 h5
  exact lv_fstore_n (nL := c.maxLocals) (i := 1) hx hb hd rfl h3 (by rw [hml]; exact hn) rfl (fun ls' h' => k H locs cells slots ls' h1 h2 (jl_put (i := 1) (l := a0 :: a1 :: t) (Or.inr ⟨0, rfl, hc⟩) h') h4 h5)
theorem j_fstore_n2 {C : jC} {y : jY} {d : Nat} (hC : jOK0 y d C) {M : jM} {kc ks pc : Nat} {a0 a1 a2 : Option Value} {t : List (Option Value)} {st : List Value} {x : UInt32} (hd : decode y.2.1 pc = .ok (.fstore_n 2, 1))  (hn : 2 < y.2.2.1) (hc : jc1 a1 = true) (k : J C M kc ks (pc + 1) (a0 :: a1 :: some (.float x) :: t) st) : J C M kc ks pc (a0 :: a1 :: a2 :: t) (.float x :: st) := by
  obtain ⟨p, e, R, s, m, args, below, meth, c, Q, G⟩ := C
  obtain ⟨hx, hb, hr, hml, hown, hts, hlk, hnm, htb, hdf, hdl, hfl, hA⟩ := hC
  intro H locs cells slots ls h1 h2 h3 h4 h5
  exact lv_fstore_n (nL := c.maxLocals) (i := 2) hx hb hd rfl h3 (by rw [hml]; exact hn) rfl (fun ls' h' => k H locs cells slots ls' h1 h2 (jl_put (i := 2) (l := a0 :: a1 :: a2 :: t) (Or.inr ⟨1, rfl, hc⟩) h') h4 h5)
theorem j_fstore_n3 {C : jC} {y : jY} {d : Nat} (hC : jOK0 y d C) {M : jM} {kc ks pc : Nat} {a0 a1 a2 a3 : Option Value} {t : List (Option Value)} {st : List Value} {x : UInt32} (hd : decode y.2.1 pc = .ok (.fstore_n 3, 1))  (hn : 3 < y.2.2.1) (hc : jc1 a2 = true) (k : J C M kc ks (pc + 1) (a0 :: a1 :: a2 :: some (.float x) :: t) st) : J C M kc ks pc (a0 :: a1 :: a2 :: a3 :: t) (.float x :: st) := by
  obtain ⟨p, e, R, s, m, args, below, meth, c, Q, G⟩ := C
  obtain ⟨hx, hb, hr, hml, hown, hts, hlk, hnm, htb, hdf, hdl, hfl, hA⟩ := hC
  intro H locs cells slots ls h1 h2 h3 h4 h5
  exact lv_fstore_n (nL := c.maxLocals) (i := 3) hx hb hd rfl h3 (by rw [hml]; exact hn) rfl (fun ls' h' => k H locs cells slots ls' h1 h2 (jl_put (i := 3) (l := a0 :: a1 :: a2 :: a3 :: t) (Or.inr ⟨2, rfl, hc⟩) h') h4 h5)
theorem j_fstore_4 {C : jC} {y : jY} {d : Nat} (hC : jOK0 y d C) {M : jM} {kc ks pc : Nat} {a0 a1 a2 a3 a4 : Option Value} {t : List (Option Value)} {st : List Value} {x : UInt32} (hd : decode y.2.1 pc = .ok (.fstore 4, 2))  (hn : 4 < y.2.2.1) (hc : jc1 a3 = true) (k : J C M kc ks (pc + 2) (a0 :: a1 :: a2 :: a3 :: some (.float x) :: t) st) : J C M kc ks pc (a0 :: a1 :: a2 :: a3 :: a4 :: t) (.float x :: st) := by
  obtain ⟨p, e, R, s, m, args, below, meth, c, Q, G⟩ := C
  obtain ⟨hx, hb, hr, hml, hown, hts, hlk, hnm, htb, hdf, hdl, hfl, hA⟩ := hC
  intro H locs cells slots ls h1 h2 h3 h4 h5
  exact lv_fstore (nL := c.maxLocals) (i := 4) hx hb hd h3 (by rw [hml]; exact hn) rfl (fun ls' h' => k H locs cells slots ls' h1 h2 (jl_put (i := 4) (l := a0 :: a1 :: a2 :: a3 :: a4 :: t) (Or.inr ⟨3, rfl, hc⟩) h') h4 h5)
theorem j_fstore_5 {C : jC} {y : jY} {d : Nat} (hC : jOK0 y d C) {M : jM} {kc ks pc : Nat} {a0 a1 a2 a3 a4 a5 : Option Value} {t : List (Option Value)} {st : List Value} {x : UInt32} (hd : decode y.2.1 pc = .ok (.fstore 5, 2))  (hn : 5 < y.2.2.1) (hc : jc1 a4 = true) (k : J C M kc ks (pc + 2) (a0 :: a1 :: a2 :: a3 :: a4 :: some (.float x) :: t) st) : J C M kc ks pc (a0 :: a1 :: a2 :: a3 :: a4 :: a5 :: t) (.float x :: st) := by
  obtain ⟨p, e, R, s, m, args, below, meth, c, Q, G⟩ := C
  obtain ⟨hx, hb, hr, hml, hown, hts, hlk, hnm, htb, hdf, hdl, hfl, hA⟩ := hC
  intro H locs cells slots ls h1 h2 h3 h4 h5
  exact lv_fstore (nL := c.maxLocals) (i := 5) hx hb hd h3 (by rw [hml]; exact hn) rfl (fun ls' h' => k H locs cells slots ls' h1 h2 (jl_put (i := 5) (l := a0 :: a1 :: a2 :: a3 :: a4 :: a5 :: t) (Or.inr ⟨4, rfl, hc⟩) h') h4 h5)
theorem j_fstore_6 {C : jC} {y : jY} {d : Nat} (hC : jOK0 y d C) {M : jM} {kc ks pc : Nat} {a0 a1 a2 a3 a4 a5 a6 : Option Value} {t : List (Option Value)} {st : List Value} {x : UInt32} (hd : decode y.2.1 pc = .ok (.fstore 6, 2))  (hn : 6 < y.2.2.1) (hc : jc1 a5 = true) (k : J C M kc ks (pc + 2) (a0 :: a1 :: a2 :: a3 :: a4 :: a5 :: some (.float x) :: t) st) : J C M kc ks pc (a0 :: a1 :: a2 :: a3 :: a4 :: a5 :: a6 :: t) (.float x :: st) := by
  obtain ⟨p, e, R, s, m, args, below, meth, c, Q, G⟩ := C
  obtain ⟨hx, hb, hr, hml, hown, hts, hlk, hnm, htb, hdf, hdl, hfl, hA⟩ := hC
  intro H locs cells slots ls h1 h2 h3 h4 h5
  exact lv_fstore (nL := c.maxLocals) (i := 6) hx hb hd h3 (by rw [hml]; exact hn) rfl (fun ls' h' => k H locs cells slots ls' h1 h2 (jl_put (i := 6) (l := a0 :: a1 :: a2 :: a3 :: a4 :: a5 :: a6 :: t) (Or.inr ⟨5, rfl, hc⟩) h') h4 h5)
theorem j_fstore_7 {C : jC} {y : jY} {d : Nat} (hC : jOK0 y d C) {M : jM} {kc ks pc : Nat} {a0 a1 a2 a3 a4 a5 a6 a7 : Option Value} {t : List (Option Value)} {st : List Value} {x : UInt32} (hd : decode y.2.1 pc = .ok (.fstore 7, 2))  (hn : 7 < y.2.2.1) (hc : jc1 a6 = true) (k : J C M kc ks (pc + 2) (a0 :: a1 :: a2 :: a3 :: a4 :: a5 :: a6 :: some (.float x) :: t) st) : J C M kc ks pc (a0 :: a1 :: a2 :: a3 :: a4 :: a5 :: a6 :: a7 :: t) (.float x :: st) := by
  obtain ⟨p, e, R, s, m, args, below, meth, c, Q, G⟩ := C
  obtain ⟨hx, hb, hr, hml, hown, hts, hlk, hnm, htb, hdf, hdl, hfl, hA⟩ := hC
  intro H locs cells slots ls h1 h2 h3 h4 h5
  exact lv_fstore (nL := c.maxLocals) (i := 7) hx hb hd h3 (by rw [hml]; exact hn) rfl (fun ls' h' => k H locs cells slots ls' h1 h2 (jl_put (i := 7) (l := a0 :: a1 :: a2 :: a3 :: a4 :: a5 :: a6 :: a7 :: t) (Or.inr ⟨6, rfl, hc⟩) h') h4 h5)
theorem j_fstore_8 {C : jC} {y : jY} {d : Nat} (hC : jOK0 y d C) {M : jM} {kc ks pc : Nat} {a0 a1 a2 a3 a4 a5 a6 a7 a8 : Option Value} {t : List (Option Value)} {st : List Value} {x : UInt32} (hd : decode y.2.1 pc = .ok (.fstore 8, 2))  (hn : 8 < y.2.2.1) (hc : jc1 a7 = true) (k : J C M kc ks (pc + 2) (a0 :: a1 :: a2 :: a3 :: a4 :: a5 :: a6 :: a7 :: some (.float x) :: t) st) : J C M kc ks pc (a0 :: a1 :: a2 :: a3 :: a4 :: a5 :: a6 :: a7 :: a8 :: t) (.float x :: st) := by
  obtain ⟨p, e, R, s, m, args, below, meth, c, Q, G⟩ := C
  obtain ⟨hx, hb, hr, hml, hown, hts, hlk, hnm, htb, hdf, hdl, hfl, hA⟩ := hC
  intro H locs cells slots ls h1 h2 h3 h4 h5
  exact lv_fstore (nL := c.maxLocals) (i := 8) hx hb hd h3 (by rw [hml]; exact hn) rfl (fun ls' h' => k H locs cells slots ls' h1 h2 (jl_put (i := 8) (l := a0 :: a1 :: a2 :: a3 :: a4 :: a5 :: a6 :: a7 :: a8 :: t) (Or.inr ⟨7, rfl, hc⟩) h') h4 h5)
theorem j_dstore_6 {C : jC} {y : jY} {d : Nat} (hC : jOK0 y d C) {M : jM} {kc ks pc : Nat} {a0 a1 a2 a3 a4 a5 a6 a7 : Option Value} {t : List (Option Value)} {st : List Value} {x : UInt64} (hd : decode y.2.1 pc = .ok (.dstore 6, 2))  (hn : 6 + 1 < y.2.2.1) (hc : jc1 a5 = true) (k : J C M kc ks (pc + 2) (a0 :: a1 :: a2 :: a3 :: a4 :: a5 :: some (.double x) :: none :: t) st) : J C M kc ks pc (a0 :: a1 :: a2 :: a3 :: a4 :: a5 :: a6 :: a7 :: t) (.double x :: st) := by
  obtain ⟨p, e, R, s, m, args, below, meth, c, Q, G⟩ := C
  obtain ⟨hx, hb, hr, hml, hown, hts, hlk, hnm, htb, hdf, hdl, hfl, hA⟩ := hC
  intro H locs cells slots ls h1 h2 h3 h4 h5
  exact lv_dstore (nL := c.maxLocals) (i := 6) hx hb hd h3 (by rw [hml]; exact hn) rfl (fun ls' h' => k H locs cells slots ls' h1 h2 (jl_put2 (i := 6) (l := a0 :: a1 :: a2 :: a3 :: a4 :: a5 :: a6 :: a7 :: t) (Or.inr ⟨5, rfl, hc⟩) h') h4 h5)
theorem j_dstore_7 {C : jC} {y : jY} {d : Nat} (hC : jOK0 y d C) {M : jM} {kc ks pc : Nat} {a0 a1 a2 a3 a4 a5 a6 a7 a8 : Option Value} {t : List (Option Value)} {st : List Value} {x : UInt64} (hd : decode y.2.1 pc = .ok (.dstore 7, 2))  (hn : 7 + 1 < y.2.2.1) (hc : jc1 a6 = true) (k : J C M kc ks (pc + 2) (a0 :: a1 :: a2 :: a3 :: a4 :: a5 :: a6 :: some (.double x) :: none :: t) st) : J C M kc ks pc (a0 :: a1 :: a2 :: a3 :: a4 :: a5 :: a6 :: a7 :: a8 :: t) (.double x :: st) := by
  obtain ⟨p, e, R, s, m, args, below, meth, c, Q, G⟩ := C
  obtain ⟨hx, hb, hr, hml, hown, hts, hlk, hnm, htb, hdf, hdl, hfl, hA⟩ := hC
  intro H locs cells slots ls h1 h2 h3 h4 h5
  exact lv_dstore (nL := c.maxLocals) (i := 7) hx hb hd h3 (by rw [hml]; exact hn) rfl (fun ls' h' => k H locs cells slots ls' h1 h2 (jl_put2 (i := 7) (l := a0 :: a1 :: a2 :: a3 :: a4 :: a5 :: a6 :: a7 :: a8 :: t) (Or.inr ⟨6, rfl, hc⟩) h') h4 h5)
theorem j_iinc_0 {C : jC} {y : jY} {d : Nat} (hC : jOK0 y d C) {M : jM} {kc ks pc : Nat} {t : List (Option Value)} {st : List Value} {n : Int} {x v : Int32} (hd : decode y.2.1 pc = .ok (.iinc 0 n, 3)) (hv : x + Int32.ofInt n = v) (hn : 0 < y.2.2.1)  (k : J C M kc ks (pc + 3) (some (.int v) :: t) st) : J C M kc ks pc (some (.int x) :: t) st := by
  obtain ⟨p, e, R, s, m, args, below, meth, c, Q, G⟩ := C
  obtain ⟨hx, hb, hr, hml, hown, hts, hlk, hnm, htb, hdf, hdl, hfl, hA⟩ := hC
  intro H locs cells slots ls h1 h2 h3 h4 h5
  obtain ⟨q, hq⟩ := List.getElem?_of_mem ((jl_mem (some (.int x) :: t) 0 (0, .int x)).mpr ⟨0, rfl, rfl⟩)
  exact lv_iinc (nL := c.maxLocals) (k := q) hx hb hd h3 hq hv (by rw [hml]; exact hn) rfl (fun ls' h' => k H locs cells slots ls' h1 h2 (jl_put (i := 0) (l := some (.int x) :: t) (Or.inl rfl) h') h4 h5)
theorem j_iinc_1 {C : jC} {y : jY} {d : Nat} (hC : jOK0 y d C) {M : jM} {kc ks pc : Nat} {a0 : Option Value} {t : List (Option Value)} {st : List Value} {n : Int} {x v : Int32} (hd : decode y.2.1 pc = .ok (.iinc 1 n, 3)) (hv : x + Int32.ofInt n = v) (hn : 1 < y.2.2.1) (hc : jc1 a0 = true) (k : J C M kc ks (pc + 3) (a0 :: some (.int v) :: t) st) : J C M kc ks pc (a0 :: some (.int x) :: t) st := by
  obtain ⟨p, e, R, s, m, args, below, meth, c, Q, G⟩ := C
  obtain ⟨hx, hb, hr, hml, hown, hts, hlk, hnm, htb, hdf, hdl, hfl, hA⟩ := hC
  intro H locs cells slots ls h1 h2 h3 h4 h5
  obtain ⟨q, hq⟩ := List.getElem?_of_mem ((jl_mem (a0 :: some (.int x) :: t) 0 (1, .int x)).mpr ⟨1, rfl, rfl⟩)
  exact lv_iinc (nL := c.maxLocals) (k := q) hx hb hd h3 hq hv (by rw [hml]; exact hn) rfl (fun ls' h' => k H locs cells slots ls' h1 h2 (jl_put (i := 1) (l := a0 :: some (.int x) :: t) (Or.inr ⟨0, rfl, hc⟩) h') h4 h5)
theorem j_iinc_2 {C : jC} {y : jY} {d : Nat} (hC : jOK0 y d C) {M : jM} {kc ks pc : Nat} {a0 a1 : Option Value} {t : List (Option Value)} {st : List Value} {n : Int} {x v : Int32} (hd : decode y.2.1 pc = .ok (.iinc 2 n, 3)) (hv : x + Int32.ofInt n = v) (hn : 2 < y.2.2.1) (hc : jc1 a1 = true) (k : J C M kc ks (pc + 3) (a0 :: a1 :: some (.int v) :: t) st) : J C M kc ks pc (a0 :: a1 :: some (.int x) :: t) st := by
  obtain ⟨p, e, R, s, m, args, below, meth, c, Q, G⟩ := C
  obtain ⟨hx, hb, hr, hml, hown, hts, hlk, hnm, htb, hdf, hdl, hfl, hA⟩ := hC
  intro H locs cells slots ls h1 h2 h3 h4 h5
  obtain ⟨q, hq⟩ := List.getElem?_of_mem ((jl_mem (a0 :: a1 :: some (.int x) :: t) 0 (2, .int x)).mpr ⟨2, rfl, rfl⟩)
  exact lv_iinc (nL := c.maxLocals) (k := q) hx hb hd h3 hq hv (by rw [hml]; exact hn) rfl (fun ls' h' => k H locs cells slots ls' h1 h2 (jl_put (i := 2) (l := a0 :: a1 :: some (.int x) :: t) (Or.inr ⟨1, rfl, hc⟩) h') h4 h5)
theorem j_iinc_3 {C : jC} {y : jY} {d : Nat} (hC : jOK0 y d C) {M : jM} {kc ks pc : Nat} {a0 a1 a2 : Option Value} {t : List (Option Value)} {st : List Value} {n : Int} {x v : Int32} (hd : decode y.2.1 pc = .ok (.iinc 3 n, 3)) (hv : x + Int32.ofInt n = v) (hn : 3 < y.2.2.1) (hc : jc1 a2 = true) (k : J C M kc ks (pc + 3) (a0 :: a1 :: a2 :: some (.int v) :: t) st) : J C M kc ks pc (a0 :: a1 :: a2 :: some (.int x) :: t) st := by
  obtain ⟨p, e, R, s, m, args, below, meth, c, Q, G⟩ := C
  obtain ⟨hx, hb, hr, hml, hown, hts, hlk, hnm, htb, hdf, hdl, hfl, hA⟩ := hC
  intro H locs cells slots ls h1 h2 h3 h4 h5
  obtain ⟨q, hq⟩ := List.getElem?_of_mem ((jl_mem (a0 :: a1 :: a2 :: some (.int x) :: t) 0 (3, .int x)).mpr ⟨3, rfl, rfl⟩)
  exact lv_iinc (nL := c.maxLocals) (k := q) hx hb hd h3 hq hv (by rw [hml]; exact hn) rfl (fun ls' h' => k H locs cells slots ls' h1 h2 (jl_put (i := 3) (l := a0 :: a1 :: a2 :: some (.int x) :: t) (Or.inr ⟨2, rfl, hc⟩) h') h4 h5)
theorem j_iinc_4 {C : jC} {y : jY} {d : Nat} (hC : jOK0 y d C) {M : jM} {kc ks pc : Nat} {a0 a1 a2 a3 : Option Value} {t : List (Option Value)} {st : List Value} {n : Int} {x v : Int32} (hd : decode y.2.1 pc = .ok (.iinc 4 n, 3)) (hv : x + Int32.ofInt n = v) (hn : 4 < y.2.2.1) (hc : jc1 a3 = true) (k : J C M kc ks (pc + 3) (a0 :: a1 :: a2 :: a3 :: some (.int v) :: t) st) : J C M kc ks pc (a0 :: a1 :: a2 :: a3 :: some (.int x) :: t) st := by
  obtain ⟨p, e, R, s, m, args, below, meth, c, Q, G⟩ := C
  obtain ⟨hx, hb, hr, hml, hown, hts, hlk, hnm, htb, hdf, hdl, hfl, hA⟩ := hC
  intro H locs cells slots ls h1 h2 h3 h4 h5
  obtain ⟨q, hq⟩ := List.getElem?_of_mem ((jl_mem (a0 :: a1 :: a2 :: a3 :: some (.int x) :: t) 0 (4, .int x)).mpr ⟨4, rfl, rfl⟩)
  exact lv_iinc (nL := c.maxLocals) (k := q) hx hb hd h3 hq hv (by rw [hml]; exact hn) rfl (fun ls' h' => k H locs cells slots ls' h1 h2 (jl_put (i := 4) (l := a0 :: a1 :: a2 :: a3 :: some (.int x) :: t) (Or.inr ⟨3, rfl, hc⟩) h') h4 h5)
theorem j_iinc_5 {C : jC} {y : jY} {d : Nat} (hC : jOK0 y d C) {M : jM} {kc ks pc : Nat} {a0 a1 a2 a3 a4 : Option Value} {t : List (Option Value)} {st : List Value} {n : Int} {x v : Int32} (hd : decode y.2.1 pc = .ok (.iinc 5 n, 3)) (hv : x + Int32.ofInt n = v) (hn : 5 < y.2.2.1) (hc : jc1 a4 = true) (k : J C M kc ks (pc + 3) (a0 :: a1 :: a2 :: a3 :: a4 :: some (.int v) :: t) st) : J C M kc ks pc (a0 :: a1 :: a2 :: a3 :: a4 :: some (.int x) :: t) st := by
  obtain ⟨p, e, R, s, m, args, below, meth, c, Q, G⟩ := C
  obtain ⟨hx, hb, hr, hml, hown, hts, hlk, hnm, htb, hdf, hdl, hfl, hA⟩ := hC
  intro H locs cells slots ls h1 h2 h3 h4 h5
  obtain ⟨q, hq⟩ := List.getElem?_of_mem ((jl_mem (a0 :: a1 :: a2 :: a3 :: a4 :: some (.int x) :: t) 0 (5, .int x)).mpr ⟨5, rfl, rfl⟩)
  exact lv_iinc (nL := c.maxLocals) (k := q) hx hb hd h3 hq hv (by rw [hml]; exact hn) rfl (fun ls' h' => k H locs cells slots ls' h1 h2 (jl_put (i := 5) (l := a0 :: a1 :: a2 :: a3 :: a4 :: some (.int x) :: t) (Or.inr ⟨4, rfl, hc⟩) h') h4 h5)
theorem j_iinc_6 {C : jC} {y : jY} {d : Nat} (hC : jOK0 y d C) {M : jM} {kc ks pc : Nat} {a0 a1 a2 a3 a4 a5 : Option Value} {t : List (Option Value)} {st : List Value} {n : Int} {x v : Int32} (hd : decode y.2.1 pc = .ok (.iinc 6 n, 3)) (hv : x + Int32.ofInt n = v) (hn : 6 < y.2.2.1) (hc : jc1 a5 = true) (k : J C M kc ks (pc + 3) (a0 :: a1 :: a2 :: a3 :: a4 :: a5 :: some (.int v) :: t) st) : J C M kc ks pc (a0 :: a1 :: a2 :: a3 :: a4 :: a5 :: some (.int x) :: t) st := by
  obtain ⟨p, e, R, s, m, args, below, meth, c, Q, G⟩ := C
  obtain ⟨hx, hb, hr, hml, hown, hts, hlk, hnm, htb, hdf, hdl, hfl, hA⟩ := hC
  intro H locs cells slots ls h1 h2 h3 h4 h5
  obtain ⟨q, hq⟩ := List.getElem?_of_mem ((jl_mem (a0 :: a1 :: a2 :: a3 :: a4 :: a5 :: some (.int x) :: t) 0 (6, .int x)).mpr ⟨6, rfl, rfl⟩)
  exact lv_iinc (nL := c.maxLocals) (k := q) hx hb hd h3 hq hv (by rw [hml]; exact hn) rfl (fun ls' h' => k H locs cells slots ls' h1 h2 (jl_put (i := 6) (l := a0 :: a1 :: a2 :: a3 :: a4 :: a5 :: some (.int x) :: t) (Or.inr ⟨5, rfl, hc⟩) h') h4 h5)
theorem j_iinc_7 {C : jC} {y : jY} {d : Nat} (hC : jOK0 y d C) {M : jM} {kc ks pc : Nat} {a0 a1 a2 a3 a4 a5 a6 : Option Value} {t : List (Option Value)} {st : List Value} {n : Int} {x v : Int32} (hd : decode y.2.1 pc = .ok (.iinc 7 n, 3)) (hv : x + Int32.ofInt n = v) (hn : 7 < y.2.2.1) (hc : jc1 a6 = true) (k : J C M kc ks (pc + 3) (a0 :: a1 :: a2 :: a3 :: a4 :: a5 :: a6 :: some (.int v) :: t) st) : J C M kc ks pc (a0 :: a1 :: a2 :: a3 :: a4 :: a5 :: a6 :: some (.int x) :: t) st := by
  obtain ⟨p, e, R, s, m, args, below, meth, c, Q, G⟩ := C
  obtain ⟨hx, hb, hr, hml, hown, hts, hlk, hnm, htb, hdf, hdl, hfl, hA⟩ := hC
  intro H locs cells slots ls h1 h2 h3 h4 h5
  obtain ⟨q, hq⟩ := List.getElem?_of_mem ((jl_mem (a0 :: a1 :: a2 :: a3 :: a4 :: a5 :: a6 :: some (.int x) :: t) 0 (7, .int x)).mpr ⟨7, rfl, rfl⟩)
  exact lv_iinc (nL := c.maxLocals) (k := q) hx hb hd h3 hq hv (by rw [hml]; exact hn) rfl (fun ls' h' => k H locs cells slots ls' h1 h2 (jl_put (i := 7) (l := a0 :: a1 :: a2 :: a3 :: a4 :: a5 :: a6 :: some (.int x) :: t) (Or.inr ⟨6, rfl, hc⟩) h') h4 h5)
theorem j_iinc_8 {C : jC} {y : jY} {d : Nat} (hC : jOK0 y d C) {M : jM} {kc ks pc : Nat} {a0 a1 a2 a3 a4 a5 a6 a7 : Option Value} {t : List (Option Value)} {st : List Value} {n : Int} {x v : Int32} (hd : decode y.2.1 pc = .ok (.iinc 8 n, 3)) (hv : x + Int32.ofInt n = v) (hn : 8 < y.2.2.1) (hc : jc1 a7 = true) (k : J C M kc ks (pc + 3) (a0 :: a1 :: a2 :: a3 :: a4 :: a5 :: a6 :: a7 :: some (.int v) :: t) st) : J C M kc ks pc (a0 :: a1 :: a2 :: a3 :: a4 :: a5 :: a6 :: a7 :: some (.int x) :: t) st := by
  obtain ⟨p, e, R, s, m, args, below, meth, c, Q, G⟩ := C
  obtain ⟨hx, hb, hr, hml, hown, hts, hlk, hnm, htb, hdf, hdl, hfl, hA⟩ := hC
  intro H locs cells slots ls h1 h2 h3 h4 h5
  obtain ⟨q, hq⟩ := List.getElem?_of_mem ((jl_mem (a0 :: a1 :: a2 :: a3 :: a4 :: a5 :: a6 :: a7 :: some (.int x) :: t) 0 (8, .int x)).mpr ⟨8, rfl, rfl⟩)
  exact lv_iinc (nL := c.maxLocals) (k := q) hx hb hd h3 hq hv (by rw [hml]; exact hn) rfl (fun ls' h' => k H locs cells slots ls' h1 h2 (jl_put (i := 8) (l := a0 :: a1 :: a2 :: a3 :: a4 :: a5 :: a6 :: a7 :: some (.int x) :: t) (Or.inr ⟨7, rfl, hc⟩) h') h4 h5)
theorem j_if_eq {C : jC} {y : jY} {d : Nat} (hC : jOK0 y d C) {M : jM} {kc ks pc : Nat} {l : List (Option Value)} {st : List Value} {x : Int32} {off : Int} {tgt : Nat} (hd : decode y.2.1 pc = .ok (.ifCond .eq off, 3)) (ht : (pc : Int) + off = (tgt : Int)) (kt : x = 0 → J C M kc ks tgt l st) (kf : ¬ x = 0 → J C M kc ks (pc + 3) l st) : J C M kc ks pc l (.int x :: st) := by
  obtain ⟨p, e, R, s, m, args, below, meth, c, Q, G⟩ := C
  obtain ⟨hx, hb, hr, hml, hown, hts, hlk, hnm, htb, hdf, hdl, hfl, hA⟩ := hC
  intro H locs cells slots ls h1 h2 h3 h4 h5
  exact lv_if_eq hx hb hd ht (fun h => kt h H locs cells slots ls h1 h2 h3 h4 h5) (fun h => kf h H locs cells slots ls h1 h2 h3 h4 h5)
theorem j_icmp_eq {C : jC} {y : jY} {d : Nat} (hC : jOK0 y d C) {M : jM} {kc ks pc : Nat} {l : List (Option Value)} {st : List Value} {x z : Int32} {off : Int} {tgt : Nat} (hd : decode y.2.1 pc = .ok (.if_icmp .eq off, 3)) (ht : (pc : Int) + off = (tgt : Int)) (kt : x = z → J C M kc ks tgt l st) (kf : ¬ x = z → J C M kc ks (pc + 3) l st) : J C M kc ks pc l (.int z :: .int x :: st) := by
  obtain ⟨p, e, R, s, m, args, below, meth, c, Q, G⟩ := C
  obtain ⟨hx, hb, hr, hml, hown, hts, hlk, hnm, htb, hdf, hdl, hfl, hA⟩ := hC
  intro H locs cells slots ls h1 h2 h3 h4 h5
  exact lv_icmp_eq hx hb hd ht (fun h => kt h H locs cells slots ls h1 h2 h3 h4 h5) (fun h => kf h H locs cells slots ls h1 h2 h3 h4 h5)
theorem j_if_ne {C : jC} {y : jY} {d : Nat} (hC : jOK0 y d C) {M : jM} {kc ks pc : Nat} {l : List (Option Value)} {st : List Value} {x : Int32} {off : Int} {tgt : Nat} (hd : decode y.2.1 pc = .ok (.ifCond .ne off, 3)) (ht : (pc : Int) + off = (tgt : Int)) (kt : ¬ x = 0 → J C M kc ks tgt l st) (kf : x = 0 → J C M kc ks (pc + 3) l st) : J C M kc ks pc l (.int x :: st) := by
  obtain ⟨p, e, R, s, m, args, below, meth, c, Q, G⟩ := C
  obtain ⟨hx, hb, hr, hml, hown, hts, hlk, hnm, htb, hdf, hdl, hfl, hA⟩ := hC
  intro H locs cells slots ls h1 h2 h3 h4 h5
  exact lv_if_ne hx hb hd ht (fun h => kt h H locs cells slots ls h1 h2 h3 h4 h5) (fun h => kf h H locs cells slots ls h1 h2 h3 h4 h5)
theorem j_icmp_ne {C : jC} {y : jY} {d : Nat} (hC : jOK0 y d C) {M : jM} {kc ks pc : Nat} {l : List (Option Value)} {st : List Value} {x z : Int32} {off : Int} {tgt : Nat} (hd : decode y.2.1 pc = .ok (.if_icmp .ne off, 3)) (ht : (pc : Int) + off = (tgt : Int)) (kt : ¬ x = z → J C M kc ks tgt l st) (kf : x = z → J C M kc ks (pc + 3) l st) : J C M kc ks pc l (.int z :: .int x :: st) := by
  obtain ⟨p, e, R, s, m, args, below, meth, c, Q, G⟩ := C
  obtain ⟨hx, hb, hr, hml, hown, hts, hlk, hnm, htb, hdf, hdl, hfl, hA⟩ := hC
  intro H locs cells slots ls h1 h2 h3 h4 h5
  exact lv_icmp_ne hx hb hd ht (fun h => kt h H locs cells slots ls h1 h2 h3 h4 h5) (fun h => kf h H locs cells slots ls h1 h2 h3 h4 h5)
theorem j_if_lt {C : jC} {y : jY} {d : Nat} (hC : jOK0 y d C) {M : jM} {kc ks pc : Nat} {l : List (Option Value)} {st : List Value} {x : Int32} {off : Int} {tgt : Nat} (hd : decode y.2.1 pc = .ok (.ifCond .lt off, 3)) (ht : (pc : Int) + off = (tgt : Int)) (kt : x < 0 → J C M kc ks tgt l st) (kf : ¬ x < 0 → J C M kc ks (pc + 3) l st) : J C M kc ks pc l (.int x :: st) := by
  obtain ⟨p, e, R, s, m, args, below, meth, c, Q, G⟩ := C
  obtain ⟨hx, hb, hr, hml, hown, hts, hlk, hnm, htb, hdf, hdl, hfl, hA⟩ := hC
  intro H locs cells slots ls h1 h2 h3 h4 h5
  exact lv_if_lt hx hb hd ht (fun h => kt h H locs cells slots ls h1 h2 h3 h4 h5) (fun h => kf h H locs cells slots ls h1 h2 h3 h4 h5)
theorem j_icmp_lt {C : jC} {y : jY} {d : Nat} (hC : jOK0 y d C) {M : jM} {kc ks pc : Nat} {l : List (Option Value)} {st : List Value} {x z : Int32} {off : Int} {tgt : Nat} (hd : decode y.2.1 pc = .ok (.if_icmp .lt off, 3)) (ht : (pc : Int) + off = (tgt : Int)) (kt : x < z → J C M kc ks tgt l st) (kf : ¬ x < z → J C M kc ks (pc + 3) l st) : J C M kc ks pc l (.int z :: .int x :: st) := by
  obtain ⟨p, e, R, s, m, args, below, meth, c, Q, G⟩ := C
  obtain ⟨hx, hb, hr, hml, hown, hts, hlk, hnm, htb, hdf, hdl, hfl, hA⟩ := hC
  intro H locs cells slots ls h1 h2 h3 h4 h5
  exact lv_icmp_lt hx hb hd ht (fun h => kt h H locs cells slots ls h1 h2 h3 h4 h5) (fun h => kf h H locs cells slots ls h1 h2 h3 h4 h5)
theorem j_if_ge {C : jC} {y : jY} {d : Nat} (hC : jOK0 y d C) {M : jM} {kc ks pc : Nat} {l : List (Option Value)} {st : List Value} {x : Int32} {off : Int} {tgt : Nat} (hd : decode y.2.1 pc = .ok (.ifCond .ge off, 3)) (ht : (pc : Int) + off = (tgt : Int)) (kt : 0 ≤ x → J C M kc ks tgt l st) (kf : ¬ 0 ≤ x → J C M kc ks (pc + 3) l st) : J C M kc ks pc l (.int x :: st) := by
  obtain ⟨p, e, R, s, m, args, below, meth, c, Q, G⟩ := C
  obtain ⟨hx, hb, hr, hml, hown, hts, hlk, hnm, htb, hdf, hdl, hfl, hA⟩ := hC
  intro H locs cells slots ls h1 h2 h3 h4 h5
  exact lv_if_ge hx hb hd ht (fun h => kt h H locs cells slots ls h1 h2 h3 h4 h5) (fun h => kf h H locs cells slots ls h1 h2 h3 h4 h5)
theorem j_icmp_ge {C : jC} {y : jY} {d : Nat} (hC : jOK0 y d C) {M : jM} {kc ks pc : Nat} {l : List (Option Value)} {st : List Value} {x z : Int32} {off : Int} {tgt : Nat} (hd : decode y.2.1 pc = .ok (.if_icmp .ge off, 3)) (ht : (pc : Int) + off = (tgt : Int)) (kt : z ≤ x → J C M kc ks tgt l st) (kf : ¬ z ≤ x → J C M kc ks (pc + 3) l st) : J C M kc ks pc l (.int z :: .int x :: st) := by
  obtain ⟨p, e, R, s, m, args, below, meth, c, Q, G⟩ := C
  obtain ⟨hx, hb, hr, hml, hown, hts, hlk, hnm, htb, hdf, hdl, hfl, hA⟩ := hC
  intro H locs cells slots ls h1 h2 h3 h4 h5
  exact lv_icmp_ge hx hb hd ht (fun h => kt h H locs cells slots ls h1 h2 h3 h4 h5) (fun h => kf h H locs cells slots ls h1 h2 h3 h4 h5)
theorem j_if_gt {C : jC} {y : jY} {d : Nat} (hC : jOK0 y d C) {M : jM} {kc ks pc : Nat} {l : List (Option Value)} {st : List Value} {x : Int32} {off : Int} {tgt : Nat} (hd : decode y.2.1 pc = .ok (.ifCond .gt off, 3)) (ht : (pc : Int) + off = (tgt : Int)) (kt : 0 < x → J C M kc ks tgt l st) (kf : ¬ 0 < x → J C M kc ks (pc + 3) l st) : J C M kc ks pc l (.int x :: st) := by
  obtain ⟨p, e, R, s, m, args, below, meth, c, Q, G⟩ := C
  obtain ⟨hx, hb, hr, hml, hown, hts, hlk, hnm, htb, hdf, hdl, hfl, hA⟩ := hC
  intro H locs cells slots ls h1 h2 h3 h4 h5
  exact lv_if_gt hx hb hd ht (fun h => kt h H locs cells slots ls h1 h2 h3 h4 h5) (fun h => kf h H locs cells slots ls h1 h2 h3 h4 h5)
theorem j_icmp_gt {C : jC} {y : jY} {d : Nat} (hC : jOK0 y d C) {M : jM} {kc ks pc : Nat} {l : List (Option Value)} {st : List Value} {x z : Int32} {off : Int} {tgt : Nat} (hd : decode y.2.1 pc = .ok (.if_icmp .gt off, 3)) (ht : (pc : Int) + off = (tgt : Int)) (kt : z < x → J C M kc ks tgt l st) (kf : ¬ z < x → J C M kc ks (pc + 3) l st) : J C M kc ks pc l (.int z :: .int x :: st) := by
  obtain ⟨p, e, R, s, m, args, below, meth, c, Q, G⟩ := C
  obtain ⟨hx, hb, hr, hml, hown, hts, hlk, hnm, htb, hdf, hdl, hfl, hA⟩ := hC
  intro H locs cells slots ls h1 h2 h3 h4 h5
  exact lv_icmp_gt hx hb hd ht (fun h => kt h H locs cells slots ls h1 h2 h3 h4 h5) (fun h => kf h H locs cells slots ls h1 h2 h3 h4 h5)
theorem j_if_le {C : jC} {y : jY} {d : Nat} (hC : jOK0 y d C) {M : jM} {kc ks pc : Nat} {l : List (Option Value)} {st : List Value} {x : Int32} {off : Int} {tgt : Nat} (hd : decode y.2.1 pc = .ok (.ifCond .le off, 3)) (ht : (pc : Int) + off = (tgt : Int)) (kt : x ≤ 0 → J C M kc ks tgt l st) (kf : ¬ x ≤ 0 → J C M kc ks (pc + 3) l st) : J C M kc ks pc l (.int x :: st) := by
  obtain ⟨p, e, R, s, m, args, below, meth, c, Q, G⟩ := C
  obtain ⟨hx, hb, hr, hml, hown, hts, hlk, hnm, htb, hdf, hdl, hfl, hA⟩ := hC
  intro H locs cells slots ls h1 h2 h3 h4 h5
  exact lv_if_le hx hb hd ht (fun h => kt h H locs cells slots ls h1 h2 h3 h4 h5) (fun h => kf h H locs cells slots ls h1 h2 h3 h4 h5)
theorem j_icmp_le {C : jC} {y : jY} {d : Nat} (hC : jOK0 y d C) {M : jM} {kc ks pc : Nat} {l : List (Option Value)} {st : List Value} {x z : Int32} {off : Int} {tgt : Nat} (hd : decode y.2.1 pc = .ok (.if_icmp .le off, 3)) (ht : (pc : Int) + off = (tgt : Int)) (kt : x ≤ z → J C M kc ks tgt l st) (kf : ¬ x ≤ z → J C M kc ks (pc + 3) l st) : J C M kc ks pc l (.int z :: .int x :: st) := by
  obtain ⟨p, e, R, s, m, args, below, meth, c, Q, G⟩ := C
  obtain ⟨hx, hb, hr, hml, hown, hts, hlk, hnm, htb, hdf, hdl, hfl, hA⟩ := hC
  intro H locs cells slots ls h1 h2 h3 h4 h5
  exact lv_icmp_le hx hb hd ht (fun h => kt h H locs cells slots ls h1 h2 h3 h4 h5) (fun h => kf h H locs cells slots ls h1 h2 h3 h4 h5)
theorem j_goto {C : jC} {y : jY} {d : Nat} (hC : jOK0 y d C) {M : jM} {kc ks pc : Nat} {l : List (Option Value)} {st : List Value} {off : Int} {tgt : Nat} (hd : decode y.2.1 pc = .ok (.goto off, 3)) (ht : (pc : Int) + off = (tgt : Int)) (k : J C M kc ks tgt l st) : J C M kc ks pc l st := by
  obtain ⟨p, e, R, s, m, args, below, meth, c, Q, G⟩ := C
  obtain ⟨hx, hb, hr, hml, hown, hts, hlk, hnm, htb, hdf, hdl, hfl, hA⟩ := hC
  intro H locs cells slots ls h1 h2 h3 h4 h5
  exact lv_goto hx hb hd ht (k H locs cells slots ls h1 h2 h3 h4 h5)
theorem j_ifnull {C : jC} {y : jY} {d : Nat} (hC : jOK0 y d C) {M : jM} {kc ks pc : Nat} {l : List (Option Value)} {st : List Value} {x : Nat} {off : Int} (hd : decode y.2.1 pc = .ok (.ifnull off, 3)) (k : J C M kc ks (pc + 3) l st) : J C M kc ks pc l (.ref x :: st) := by
  obtain ⟨p, e, R, s, m, args, below, meth, c, Q, G⟩ := C
  obtain ⟨hx, hb, hr, hml, hown, hts, hlk, hnm, htb, hdf, hdl, hfl, hA⟩ := hC
  intro H locs cells slots ls h1 h2 h3 h4 h5
  exact lv_ifnull hx hb hd (k H locs cells slots ls h1 h2 h3 h4 h5)
theorem j_ifnonnull {C : jC} {y : jY} {d : Nat} (hC : jOK0 y d C) {M : jM} {kc ks pc : Nat} {l : List (Option Value)} {st : List Value} {x : Nat} {off : Int} {tgt : Nat} (hd : decode y.2.1 pc = .ok (.ifnonnull off, 3)) (ht : (pc : Int) + off = (tgt : Int)) (k : J C M kc ks tgt l st) : J C M kc ks pc l (.ref x :: st) := by
  obtain ⟨p, e, R, s, m, args, below, meth, c, Q, G⟩ := C
  obtain ⟨hx, hb, hr, hml, hown, hts, hlk, hnm, htb, hdf, hdl, hfl, hA⟩ := hC
  intro H locs cells slots ls h1 h2 h3 h4 h5
  exact lv_ifnonnull hx hb hd ht (k H locs cells slots ls h1 h2 h3 h4 h5)
theorem j_tableIn {C : jC} {y : jY} {d : Nat} (hC : jOK0 y d C) {M : jM} {kc ks pc : Nat} {l : List (Option Value)} {st : List Value} {dflt lo hi : Int} {offs : Array Int} {len : Nat} {x : Int32} {off : Int} {tgt : Nat} (hd : decode y.2.1 pc = .ok (.tableswitch dflt lo hi offs, len)) (g1 : ¬ x.toInt < lo) (g2 : ¬ hi < x.toInt) (ho : offs[(x.toInt - lo).toNat]? = some off) (ht : (pc : Int) + off = (tgt : Int)) (k : J C M kc ks tgt l st) : J C M kc ks pc l (.int x :: st) := by
  obtain ⟨p, e, R, s, m, args, below, meth, c, Q, G⟩ := C
  obtain ⟨hx, hb, hr, hml, hown, hts, hlk, hnm, htb, hdf, hdl, hfl, hA⟩ := hC
  intro H locs cells slots ls h1 h2 h3 h4 h5
  exact lv_tableIn hx hb hd g1 g2 ho ht (k H locs cells slots ls h1 h2 h3 h4 h5)
theorem j_tableOut {C : jC} {y : jY} {d : Nat} (hC : jOK0 y d C) {M : jM} {kc ks pc : Nat} {l : List (Option Value)} {st : List Value} {dflt lo hi : Int} {offs : Array Int} {len : Nat} {x : Int32} {tgt : Nat} (hd : decode y.2.1 pc = .ok (.tableswitch dflt lo hi offs, len)) (g1 : x.toInt < lo ∨ hi < x.toInt) (ht : (pc : Int) + dflt = (tgt : Int)) (k : J C M kc ks tgt l st) : J C M kc ks pc l (.int x :: st) := by
  obtain ⟨p, e, R, s, m, args, below, meth, c, Q, G⟩ := C
  obtain ⟨hx, hb, hr, hml, hown, hts, hlk, hnm, htb, hdf, hdl, hfl, hA⟩ := hC
  intro H locs cells slots ls h1 h2 h3 h4 h5
  exact lv_tableOut hx hb hd g1 ht (k H locs cells slots ls h1 h2 h3 h4 h5)
theorem j_lookup {C : jC} {y : jY} {d : Nat} (hC : jOK0 y d C) {M : jM} {kc ks pc : Nat} {l : List (Option Value)} {st : List Value} {dflt : Int} {ps : Array (Int × Int)} {len : Nat} {x : Int32} {off : Int} {tgt : Nat} (hd : decode y.2.1 pc = .ok (.lookupswitch dflt ps, len)) (hp : (ps.toList.zip (ps.toList.drop 1)).all (fun (a, next) => a.1 < next.1) = true) (ho : Op.lookupswitch.offset ps.toList dflt x.toInt = off) (ht : (pc : Int) + off = (tgt : Int)) (k : J C M kc ks tgt l st) : J C M kc ks pc l (.int x :: st) := by
  obtain ⟨p, e, R, s, m, args, below, meth, c, Q, G⟩ := C
  obtain ⟨hx, hb, hr, hml, hown, hts, hlk, hnm, htb, hdf, hdl, hfl, hA⟩ := hC
  intro H locs cells slots ls h1 h2 h3 h4 h5
  exact lv_lookup hx hb hd hp ho ht (k H locs cells slots ls h1 h2 h3 h4 h5)
