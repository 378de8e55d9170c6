/-! what a step leaves (written by wip/whole/gensteps.py), and all steps in one row -/
section
variable {X : xX} {M o : Nat} {pc len : Nat} {L : xL} {st : List Value} {w : xH} {r : xR}
theorem xo_iconst {z : Int} (h : xone X M o pc L st w (.iconst z) len = some r) : xGo L st w r := by
  obtain ⟨rfl, st', h1, rfl⟩ := xnx h
  cases h1
  exact xSame.go ⟨rfl, rfl, fun h => h.push trivial⟩

theorem xo_lconst {z : Fin 2} (h : xone X M o pc L st w (.lconst z) len = some r) : xGo L st w r := by
  obtain ⟨rfl, st', h1, rfl⟩ := xnx h
  cases h1
  exact xSame.go ⟨rfl, rfl, fun h => h.push trivial⟩

theorem xo_null (h : xone X M o pc L st w .aconst_null len = some r) : xGo L st w r := by
  obtain ⟨rfl, st', h1, rfl⟩ := xnx h
  cases h1
  exact xSame.go ⟨rfl, rfl, fun h => h.push trivial⟩

theorem xo_bipush {z : Int} (h : xone X M o pc L st w (.bipush z) len = some r) : xGo L st w r := by
  obtain ⟨rfl, st', h1, rfl⟩ := xnx h
  cases h1
  exact xSame.go ⟨rfl, rfl, fun h => h.push trivial⟩

theorem xo_sipush {z : Int} (h : xone X M o pc L st w (.sipush z) len = some r) : xGo L st w r := by
  obtain ⟨rfl, st', h1, rfl⟩ := xnx h
  cases h1
  exact xSame.go ⟨rfl, rfl, fun h => h.push trivial⟩

theorem xo_dconst {z : Fin 2} (h : xone X M o pc L st w (.dconst z) len = some r) : xGo L st w r := by
  obtain ⟨rfl, st', h1, rfl⟩ := xnx h
  obtain ⟨hz, h1⟩ := xk_some.mp h1
  cases h1
  obtain rfl : z = 0 := Fin.ext (by simpa using hz)
  exact xSame.go ⟨rfl, rfl, fun h => h.push trivial⟩

theorem xo_iload {k : Nat} (h : xone X M o pc L st w (.iload k) len = some r) : xGo L st w r := by
  obtain ⟨rfl, st', h1, rfl⟩ := xnx h
  obtain ⟨x, hx, rfl⟩ := xldi_inv h1
  exact xSame.go ⟨rfl, rfl, fun h => h.push trivial⟩

theorem xo_lload {k : Nat} (h : xone X M o pc L st w (.lload k) len = some r) : xGo L st w r := by
  obtain ⟨rfl, st', h1, rfl⟩ := xnx h
  obtain ⟨x, hx, rfl⟩ := xldl_inv h1
  exact xSame.go ⟨rfl, rfl, fun h => h.push trivial⟩

theorem xo_dload {k : Nat} (h : xone X M o pc L st w (.dload k) len = some r) : xGo L st w r := by
  obtain ⟨rfl, st', h1, rfl⟩ := xnx h
  obtain ⟨x, hx, rfl⟩ := xldd_inv h1
  exact xSame.go ⟨rfl, rfl, fun h => h.push trivial⟩

theorem xo_iload_n {k : Fin 4} (h : xone X M o pc L st w (.iload_n k) len = some r) : xGo L st w r := by
  obtain ⟨rfl, st', h1, rfl⟩ := xnx h
  obtain ⟨x, hx, rfl⟩ := xldi_inv h1
  exact xSame.go ⟨rfl, rfl, fun h => h.push trivial⟩

theorem xo_lload_n {k : Fin 4} (h : xone X M o pc L st w (.lload_n k) len = some r) : xGo L st w r := by
  obtain ⟨rfl, st', h1, rfl⟩ := xnx h
  obtain ⟨x, hx, rfl⟩ := xldl_inv h1
  exact xSame.go ⟨rfl, rfl, fun h => h.push trivial⟩

theorem xo_aload {k : Nat} (h : xone X M o pc L st w (.aload k) len = some r) : xGo L st w r := by
  obtain ⟨rfl, st', h1, rfl⟩ := xnx h
  obtain ⟨v, hx, rfl, hv⟩ := xlda_inv h1
  exact xSame.go ⟨rfl, rfl, fun h => h.push (h.loc hx)⟩

theorem xo_aload_n {k : Fin 4} (h : xone X M o pc L st w (.aload_n k) len = some r) : xGo L st w r := by
  obtain ⟨rfl, st', h1, rfl⟩ := xnx h
  obtain ⟨v, hx, rfl, hv⟩ := xlda_inv h1
  exact xSame.go ⟨rfl, rfl, fun h => h.push (h.loc hx)⟩

theorem xo_istore {k : Nat} (h : xone X M o pc L st w (.istore k) len = some r) : xGo L st w r := by
  obtain ⟨rfl, q, h1, rfl⟩ := xnx h
  obtain ⟨x, r, rfl, hk, rfl⟩ := xsti_inv h1
  exact xSame.go ⟨xst_len, rfl, fun h => h.sto⟩

theorem xo_istore_n {k : Fin 4} (h : xone X M o pc L st w (.istore_n k) len = some r) : xGo L st w r := by
  obtain ⟨rfl, q, h1, rfl⟩ := xnx h
  obtain ⟨x, r, rfl, hk, rfl⟩ := xsti_inv h1
  exact xSame.go ⟨xst_len, rfl, fun h => h.sto⟩

theorem xo_lstore {k : Nat} (h : xone X M o pc L st w (.lstore k) len = some r) : xGo L st w r := by
  obtain ⟨rfl, q, h1, rfl⟩ := xnx h
  obtain ⟨x, r, rfl, hk, rfl⟩ := xstl_inv h1
  exact xSame.go ⟨xst2_len, rfl, fun h => h.sto2⟩

theorem xo_lstore_n {k : Fin 4} (h : xone X M o pc L st w (.lstore_n k) len = some r) : xGo L st w r := by
  obtain ⟨rfl, q, h1, rfl⟩ := xnx h
  obtain ⟨x, r, rfl, hk, rfl⟩ := xstl_inv h1
  exact xSame.go ⟨xst2_len, rfl, fun h => h.sto2⟩

theorem xo_dstore {k : Nat} (h : xone X M o pc L st w (.dstore k) len = some r) : xGo L st w r := by
  obtain ⟨rfl, q, h1, rfl⟩ := xnx h
  obtain ⟨x, r, rfl, hk, rfl⟩ := xstd_inv h1
  exact xSame.go ⟨xst2_len, rfl, fun h => h.sto2⟩

theorem xo_astore {k : Nat} (h : xone X M o pc L st w (.astore k) len = some r) : xGo L st w r := by
  obtain ⟨rfl, q, h1, rfl⟩ := xnx h
  obtain ⟨v, r, rfl, hk, rfl, hv⟩ := xsta_inv h1
  exact xSame.go ⟨xst_len, rfl, fun h => h.sto⟩

theorem xo_astore_n {k : Fin 4} (h : xone X M o pc L st w (.astore_n k) len = some r) : xGo L st w r := by
  obtain ⟨rfl, q, h1, rfl⟩ := xnx h
  obtain ⟨v, r, rfl, hk, rfl, hv⟩ := xsta_inv h1
  exact xSame.go ⟨xst_len, rfl, fun h => h.sto⟩

theorem xo_iadd (h : xone X M o pc L st w .iadd len = some r) : xGo L st w r := by
  obtain ⟨rfl, st', h1, rfl⟩ := xnx h
  obtain ⟨x, y, r, v, rfl, h2, rfl⟩ := xi2_inv h1
  cases h2
  exact xSame.go ⟨rfl, rfl, fun h => h.tl.tl.push trivial⟩

theorem xo_isub (h : xone X M o pc L st w .isub len = some r) : xGo L st w r := by
  obtain ⟨rfl, st', h1, rfl⟩ := xnx h
  obtain ⟨x, y, r, v, rfl, h2, rfl⟩ := xi2_inv h1
  cases h2
  exact xSame.go ⟨rfl, rfl, fun h => h.tl.tl.push trivial⟩

theorem xo_imul (h : xone X M o pc L st w .imul len = some r) : xGo L st w r := by
  obtain ⟨rfl, st', h1, rfl⟩ := xnx h
  obtain ⟨x, y, r, v, rfl, h2, rfl⟩ := xi2_inv h1
  cases h2
  exact xSame.go ⟨rfl, rfl, fun h => h.tl.tl.push trivial⟩

theorem xo_ishl (h : xone X M o pc L st w .ishl len = some r) : xGo L st w r := by
  obtain ⟨rfl, st', h1, rfl⟩ := xnx h
  obtain ⟨x, y, r, v, rfl, h2, rfl⟩ := xi2_inv h1
  cases h2
  exact xSame.go ⟨rfl, rfl, fun h => h.tl.tl.push trivial⟩

theorem xo_ishr (h : xone X M o pc L st w .ishr len = some r) : xGo L st w r := by
  obtain ⟨rfl, st', h1, rfl⟩ := xnx h
  obtain ⟨x, y, r, v, rfl, h2, rfl⟩ := xi2_inv h1
  cases h2
  exact xSame.go ⟨rfl, rfl, fun h => h.tl.tl.push trivial⟩

theorem xo_iand (h : xone X M o pc L st w .iand len = some r) : xGo L st w r := by
  obtain ⟨rfl, st', h1, rfl⟩ := xnx h
  obtain ⟨x, y, r, v, rfl, h2, rfl⟩ := xi2_inv h1
  cases h2
  exact xSame.go ⟨rfl, rfl, fun h => h.tl.tl.push trivial⟩

theorem xo_ior (h : xone X M o pc L st w .ior len = some r) : xGo L st w r := by
  obtain ⟨rfl, st', h1, rfl⟩ := xnx h
  obtain ⟨x, y, r, v, rfl, h2, rfl⟩ := xi2_inv h1
  cases h2
  exact xSame.go ⟨rfl, rfl, fun h => h.tl.tl.push trivial⟩

theorem xo_ixor (h : xone X M o pc L st w .ixor len = some r) : xGo L st w r := by
  obtain ⟨rfl, st', h1, rfl⟩ := xnx h
  obtain ⟨x, y, r, v, rfl, h2, rfl⟩ := xi2_inv h1
  cases h2
  exact xSame.go ⟨rfl, rfl, fun h => h.tl.tl.push trivial⟩

theorem xo_idiv (h : xone X M o pc L st w .idiv len = some r) : xGo L st w r := by
  obtain ⟨rfl, st', h1, rfl⟩ := xnx h
  obtain ⟨x, y, r, v, rfl, h2, rfl⟩ := xi2_inv h1
  obtain ⟨hy, h2⟩ := xk_some.mp h2
  cases h2
  have hy0 : ¬ y = 0 := by simpa using hy
  exact xSame.go ⟨rfl, rfl, fun h => h.tl.tl.push trivial⟩

theorem xo_irem (h : xone X M o pc L st w .irem len = some r) : xGo L st w r := by
  obtain ⟨rfl, st', h1, rfl⟩ := xnx h
  obtain ⟨x, y, r, v, rfl, h2, rfl⟩ := xi2_inv h1
  obtain ⟨hy, h2⟩ := xk_some.mp h2
  cases h2
  have hy0 : ¬ y = 0 := by simpa using hy
  exact xSame.go ⟨rfl, rfl, fun h => h.tl.tl.push trivial⟩

theorem xo_ladd (h : xone X M o pc L st w .ladd len = some r) : xGo L st w r := by
  obtain ⟨rfl, st', h1, rfl⟩ := xnx h
  obtain ⟨x, y, r, v, rfl, h2, rfl⟩ := xl2_inv h1
  cases h2
  exact xSame.go ⟨rfl, rfl, fun h => h.tl.tl.push trivial⟩

theorem xo_lsub (h : xone X M o pc L st w .lsub len = some r) : xGo L st w r := by
  obtain ⟨rfl, st', h1, rfl⟩ := xnx h
  obtain ⟨x, y, r, v, rfl, h2, rfl⟩ := xl2_inv h1
  cases h2
  exact xSame.go ⟨rfl, rfl, fun h => h.tl.tl.push trivial⟩

theorem xo_lmul (h : xone X M o pc L st w .lmul len = some r) : xGo L st w r := by
  obtain ⟨rfl, st', h1, rfl⟩ := xnx h
  obtain ⟨x, y, r, v, rfl, h2, rfl⟩ := xl2_inv h1
  cases h2
  exact xSame.go ⟨rfl, rfl, fun h => h.tl.tl.push trivial⟩

theorem xo_land (h : xone X M o pc L st w .land len = some r) : xGo L st w r := by
  obtain ⟨rfl, st', h1, rfl⟩ := xnx h
  obtain ⟨x, y, r, v, rfl, h2, rfl⟩ := xl2_inv h1
  cases h2
  exact xSame.go ⟨rfl, rfl, fun h => h.tl.tl.push trivial⟩

theorem xo_lor (h : xone X M o pc L st w .lor len = some r) : xGo L st w r := by
  obtain ⟨rfl, st', h1, rfl⟩ := xnx h
  obtain ⟨x, y, r, v, rfl, h2, rfl⟩ := xl2_inv h1
  cases h2
  exact xSame.go ⟨rfl, rfl, fun h => h.tl.tl.push trivial⟩

theorem xo_lxor (h : xone X M o pc L st w .lxor len = some r) : xGo L st w r := by
  obtain ⟨rfl, st', h1, rfl⟩ := xnx h
  obtain ⟨x, y, r, v, rfl, h2, rfl⟩ := xl2_inv h1
  cases h2
  exact xSame.go ⟨rfl, rfl, fun h => h.tl.tl.push trivial⟩

theorem xo_ldiv (h : xone X M o pc L st w .ldiv len = some r) : xGo L st w r := by
  obtain ⟨rfl, st', h1, rfl⟩ := xnx h
  obtain ⟨x, y, r, v, rfl, h2, rfl⟩ := xl2_inv h1
  obtain ⟨hy, h2⟩ := xk_some.mp h2
  cases h2
  have hy0 : ¬ y = 0 := by simpa using hy
  exact xSame.go ⟨rfl, rfl, fun h => h.tl.tl.push trivial⟩

theorem xo_lcmp (h : xone X M o pc L st w .lcmp len = some r) : xGo L st w r := by
  obtain ⟨rfl, st', h1, rfl⟩ := xnx h
  obtain ⟨x, y, r, v, rfl, h2, rfl⟩ := xl2_inv h1
  cases h2
  exact xSame.go ⟨rfl, rfl, fun h => h.tl.tl.push trivial⟩

theorem xo_ineg (h : xone X M o pc L st w .ineg len = some r) : xGo L st w r := by
  obtain ⟨rfl, st', h1, rfl⟩ := xnx h
  obtain ⟨x, r, rfl, rfl⟩ := xi1_inv h1
  exact xSame.go ⟨rfl, rfl, fun h => h.tl.push trivial⟩

theorem xo_i2l (h : xone X M o pc L st w .i2l len = some r) : xGo L st w r := by
  obtain ⟨rfl, st', h1, rfl⟩ := xnx h
  obtain ⟨x, r, rfl, rfl⟩ := xi1_inv h1
  exact xSame.go ⟨rfl, rfl, fun h => h.tl.push trivial⟩

theorem xo_i2b (h : xone X M o pc L st w .i2b len = some r) : xGo L st w r := by
  obtain ⟨rfl, st', h1, rfl⟩ := xnx h
  obtain ⟨x, r, rfl, rfl⟩ := xi1_inv h1
  exact xSame.go ⟨rfl, rfl, fun h => h.tl.push trivial⟩

theorem xo_i2c (h : xone X M o pc L st w .i2c len = some r) : xGo L st w r := by
  obtain ⟨rfl, st', h1, rfl⟩ := xnx h
  obtain ⟨x, r, rfl, rfl⟩ := xi1_inv h1
  exact xSame.go ⟨rfl, rfl, fun h => h.tl.push trivial⟩

theorem xo_i2d (h : xone X M o pc L st w .i2d len = some r) : xGo L st w r := by
  obtain ⟨rfl, st', h1, rfl⟩ := xnx h
  obtain ⟨x, r, rfl, rfl⟩ := xi1_inv h1
  exact xSame.go ⟨rfl, rfl, fun h => h.tl.push trivial⟩

theorem xo_lneg (h : xone X M o pc L st w .lneg len = some r) : xGo L st w r := by
  obtain ⟨rfl, st', h1, rfl⟩ := xnx h
  obtain ⟨x, r, rfl, rfl⟩ := xl1_inv h1
  exact xSame.go ⟨rfl, rfl, fun h => h.tl.push trivial⟩

theorem xo_l2i (h : xone X M o pc L st w .l2i len = some r) : xGo L st w r := by
  obtain ⟨rfl, st', h1, rfl⟩ := xnx h
  obtain ⟨x, r, rfl, rfl⟩ := xl1_inv h1
  exact xSame.go ⟨rfl, rfl, fun h => h.tl.push trivial⟩

theorem xo_l2d (h : xone X M o pc L st w .l2d len = some r) : xGo L st w r := by
  obtain ⟨rfl, st', h1, rfl⟩ := xnx h
  obtain ⟨x, r, rfl, rfl⟩ := xl1_inv h1
  exact xSame.go ⟨rfl, rfl, fun h => h.tl.push trivial⟩

theorem xo_lshl (h : xone X M o pc L st w .lshl len = some r) : xGo L st w r := by
  obtain ⟨rfl, st', h1, rfl⟩ := xnx h
  obtain ⟨x, y, r, rfl, rfl⟩ := xls_inv h1
  exact xSame.go ⟨rfl, rfl, fun h => h.tl.tl.push trivial⟩

theorem xo_lshr (h : xone X M o pc L st w .lshr len = some r) : xGo L st w r := by
  obtain ⟨rfl, st', h1, rfl⟩ := xnx h
  obtain ⟨x, y, r, rfl, rfl⟩ := xls_inv h1
  exact xSame.go ⟨rfl, rfl, fun h => h.tl.tl.push trivial⟩

theorem xo_lushr (h : xone X M o pc L st w .lushr len = some r) : xGo L st w r := by
  obtain ⟨rfl, st', h1, rfl⟩ := xnx h
  obtain ⟨x, y, r, rfl, rfl⟩ := xls_inv h1
  exact xSame.go ⟨rfl, rfl, fun h => h.tl.tl.push trivial⟩

theorem xo_ddiv (h : xone X M o pc L st w .ddiv len = some r) : xGo L st w r := by
  obtain ⟨rfl, st', h1, rfl⟩ := xnx h
  split at h1
  rotate_left
  · cases h1
  next y x r =>
  obtain ⟨h2, h1⟩ := xk_some.mp h1
  cases h1
  have h3 := of_decide_eq_true h2
  exact xSame.go ⟨rfl, rfl, fun h => h.tl.tl.push trivial⟩

theorem xo_dcmp {op : CmpOp} (h : xone X M o pc L st w (.dcmp op) len = some r) : xGo L st w r := by
  obtain ⟨rfl, st', h1, rfl⟩ := xnx h
  split at h1
  rotate_left
  · cases h1
  next y x r =>
  cases h1
  exact xSame.go ⟨rfl, rfl, fun h => h.tl.tl.push trivial⟩

theorem xo_dup (h : xone X M o pc L st w .dup len = some r) : xGo L st w r := by
  obtain ⟨rfl, st', h1, rfl⟩ := xnx h
  split at h1
  rotate_left
  · cases h1
  next v r =>
  obtain ⟨h2, h1⟩ := xk_some.mp h1
  cases h1
  exact xSame.go ⟨rfl, rfl, fun h => h.push h.hd⟩

theorem xo_pop (h : xone X M o pc L st w .pop len = some r) : xGo L st w r := by
  obtain ⟨rfl, st', h1, rfl⟩ := xnx h
  split at h1
  rotate_left
  · cases h1
  next v r =>
  obtain ⟨h2, h1⟩ := xk_some.mp h1
  cases h1
  exact xSame.go ⟨rfl, rfl, fun h => h.tl⟩

theorem xo_dup_x1 (h : xone X M o pc L st w .dup_x1 len = some r) : xGo L st w r := by
  obtain ⟨rfl, st', h1, rfl⟩ := xnx h
  split at h1
  rotate_left
  · cases h1
  next v u r =>
  obtain ⟨h2, h1⟩ := xk_some.mp h1
  cases h1
  rw [Bool.and_eq_true] at h2
  exact xSame.go ⟨rfl, rfl, fun h => ((h.tl.tl.push h.hd).push h.tl.hd).push h.hd⟩

theorem xo_dup2 (h : xone X M o pc L st w .dup2 len = some r) : xGo L st w r := by
  obtain ⟨rfl, st', h1, rfl⟩ := xnx h
  split at h1
  rotate_left
  · cases h1
  next v u r =>
  obtain ⟨h2, h1⟩ := xk_some.mp h1
  cases h1
  rw [Bool.and_eq_true] at h2
  exact xSame.go ⟨rfl, rfl, fun h => (h.push h.tl.hd).push h.hd⟩

theorem xo_goto {off : Int} (h : xone X M o pc L st w (.goto off) len = some r) : xGo L st w r := by
  simp only [xone] at h
  obtain ⟨hlen, h1⟩ := xk_some.mp h
  obtain rfl : len = 3 := by simpa using hlen
  obtain ⟨t, ht, rfl⟩ := xjp_inv h1
  exact xSame.go ⟨rfl, rfl, fun h => h⟩

theorem xo_ifCond {cnd : Jvm.ClassFile.Cond} {off : Int} (h : xone X M o pc L st w (.ifCond cnd off) len = some r) : xGo L st w r := by
  simp only [xone] at h
  obtain ⟨hlen, h1⟩ := xk_some.mp h
  obtain rfl : len = 3 := by simpa using hlen
  split at h1
  rotate_left
  · cases h1
  next x r =>
  obtain ⟨t, ht, rfl⟩ := xbr_inv h1
  exact xSame.go ⟨rfl, rfl, fun h => h.tl⟩

theorem xo_if_icmp {cnd : Jvm.ClassFile.Cond} {off : Int} (h : xone X M o pc L st w (.if_icmp cnd off) len = some r) : xGo L st w r := by
  simp only [xone] at h
  obtain ⟨hlen, h1⟩ := xk_some.mp h
  obtain rfl : len = 3 := by simpa using hlen
  split at h1
  rotate_left
  · cases h1
  next y x r =>
  obtain ⟨t, ht, rfl⟩ := xbr_inv h1
  exact xSame.go ⟨rfl, rfl, fun h => h.tl.tl⟩

theorem xo_iinc {k : Nat} {z : Int} (h : xone X M o pc L st w (.iinc k z) len = some r) : xGo L st w r := by
  have h0 : (match xld L k with
      | some (.int x) => xk (decide (k < L.length) && (len == 3 || len == 6)) (some (pc + len, xst L k (.int (x + Int32.ofInt z)), st, w))
      | _ => none) = some r := h
  split at h0
  · next x hx =>
    obtain ⟨h1, h2⟩ := xk_some.mp h0
    cases h2
    exact xSame.go ⟨xst_len, rfl, fun h => (h.push (v := .int (x + Int32.ofInt z)) trivial).sto⟩
  · cases h0
theorem xo_ifnonnull {off : Int} (h : xone X M o pc L st w (.ifnonnull off) len = some r) : xGo L st w r := by
  simp only [xone] at h
  obtain ⟨hlen, h⟩ := xk_some.mp h
  split at h
  · cases h; exact xSame.go ⟨rfl, rfl, fun h => h.tl⟩
  · obtain ⟨t, ht, rfl⟩ := xjp_inv h; exact xSame.go ⟨rfl, rfl, fun h => h.tl⟩
  · obtain ⟨t, ht, rfl⟩ := xjp_inv h; exact xSame.go ⟨rfl, rfl, fun h => h.tl⟩
  · cases h
theorem xo_tableswitch {z lo hi : Int} {offs : Array Int} (h : xone X M o pc L st w (.tableswitch z lo hi offs) len = some r) : xGo L st w r := by
  simp only [xone] at h
  split at h
  · split at h
    · obtain ⟨t, ht, rfl⟩ := xjp_inv h; exact xSame.go ⟨rfl, rfl, fun h => h.tl⟩
    · split at h
      · obtain ⟨t, ht, rfl⟩ := xjp_inv h; exact xSame.go ⟨rfl, rfl, fun h => h.tl⟩
      · cases h
  · cases h
theorem xo_lookupswitch {z : Int} {ps : Array (Int × Int)} (h : xone X M o pc L st w (.lookupswitch z ps) len = some r) : xGo L st w r := by
  simp only [xone] at h
  split at h
  · obtain ⟨h1, h2⟩ := xk_some.mp h
    obtain ⟨t, ht, rfl⟩ := xjp_inv h2
    exact xSame.go ⟨rfl, rfl, fun h => h.tl⟩
  · cases h

theorem xo_ldc {k : Nat} (h : xone X M o pc L st w (.ldc k) len = some r) : xGo L st w r := by
  obtain ⟨rfl, st', h1, rfl⟩ := xnx h
  split at h1
  · cases h1; exact xSame.go ⟨rfl, rfl, fun h => h.push trivial⟩
  · split at h1
    · cases h1; exact xSame.go ⟨rfl, rfl, fun h => h.push trivial⟩
    · cases h1

theorem xo_ldc_w {k : Nat} (h : xone X M o pc L st w (.ldc_w k) len = some r) : xGo L st w r := by
  obtain ⟨rfl, st', h1, rfl⟩ := xnx h
  obtain ⟨v, hv, rfl⟩ := Option.map_eq_some_iff.mp h1
  exact xSame.go ⟨rfl, rfl, fun h => h.push trivial⟩

theorem xo_ldc2_w {k : Nat} (h : xone X M o pc L st w (.ldc2_w k) len = some r) : xGo L st w r := by
  obtain ⟨rfl, st', h1, rfl⟩ := xnx h
  obtain ⟨v, hv, rfl⟩ := Option.map_eq_some_iff.mp h1
  exact xSame.go ⟨rfl, rfl, fun h => h.push trivial⟩

theorem xo_arraylength (h : xone X M o pc L st w .arraylength len = some r) : xGo L st w r := by
  obtain ⟨rfl, st', h1, rfl⟩ := xnx h
  unfold xln at h1
  split at h1
  · split at h1
    · obtain ⟨h2, h1⟩ := xk_some.mp h1; cases h1; exact xSame.go ⟨rfl, rfl, fun h => h.tl.push trivial⟩
    · cases h1
  · cases h1; exact xSame.go ⟨rfl, rfl, fun h => h.tl.push trivial⟩
  · obtain ⟨h2, h1⟩ := xk_some.mp h1; cases h1; exact xSame.go ⟨rfl, rfl, fun h => h.tl.push trivial⟩
  · cases h1

theorem xo_iaload (h : xone X M o pc L st w .iaload len = some r) : xGo L st w r := by
  obtain ⟨rfl, st', h1, rfl⟩ := xnx h
  split at h1
  · obtain ⟨i, a, r, k, nn, f, h2, hw, hk, hin, rfl⟩ := xai_inv h1
    rw [h2] at h ⊢
    exact xSame.go ⟨rfl, rfl, fun h => h.tl.tl.push trivial⟩
  · unfold xsld at h1
    split at h1
    · obtain ⟨h2, h1⟩ := xk_some.mp h1; cases h1; exact xSame.go ⟨rfl, rfl, fun h => h.tl.tl.push trivial⟩
    · cases h1

theorem xo_caload (h : xone X M o pc L st w .caload len = some r) : xGo L st w r := by
  obtain ⟨rfl, st', h1, rfl⟩ := xnx h
  obtain ⟨i, a, r, k, nn, f, rfl, hw, hk, hin, rfl⟩ := xai_inv h1
  exact xSame.go ⟨rfl, rfl, fun h => h.tl.tl.push trivial⟩

theorem xo_baload (h : xone X M o pc L st w .baload len = some r) : xGo L st w r := by
  obtain ⟨rfl, st', h1, rfl⟩ := xnx h
  split at h1
  · obtain ⟨i, a, r, k, nn, f, h2, hw, hk, hin, rfl⟩ := xai_inv h1
    rw [h2] at h ⊢
    exact xSame.go ⟨rfl, rfl, fun h => h.tl.tl.push trivial⟩
  · unfold xbld at h1
    split at h1
    · obtain ⟨h2, h1⟩ := xk_some.mp h1; cases h1; exact xSame.go ⟨rfl, rfl, fun h => h.tl.tl.push trivial⟩
    · cases h1

theorem xo_laload (h : xone X M o pc L st w .laload len = some r) : xGo L st w r := by
  obtain ⟨rfl, st', h1, rfl⟩ := xnx h
  unfold xal1 at h1
  split at h1
  · split at h1
    · obtain ⟨h2, h1⟩ := xk_some.mp h1; cases h1; exact xSame.go ⟨rfl, rfl, fun h => h.tl.tl.push trivial⟩
    · cases h1
  · cases h1

theorem xo_aaload (h : xone X M o pc L st w .aaload len = some r) : xGo L st w r := by
  obtain ⟨rfl, st', h1, rfl⟩ := xnx h
  unfold xaa at h1
  split at h1
  · next i a r =>
    split at h1
    · next k nn f hw =>
      obtain ⟨h2, h1⟩ := xk_some.mp h1
      cases h1
      rw [Bool.and_eq_true, beq_iff_eq] at h2
      obtain ⟨rfl, hin⟩ := h2
      refine xSame.go ⟨rfl, rfl, fun h => h.tl.tl.push ?_⟩
      have := h.1 a h.tl.hd
      rw [show w.2.1 a = _ from hw] at this
      cases hf : f i.toNatClampNeg with
      | none => trivial
      | some b => exact this _ b hf
    · cases h1
  · cases h1

theorem xo_iastore (h : xone X M o pc L st w .iastore len = some r) : xGo L st w r := by
  obtain ⟨rfl, q, h1, rfl⟩ := xnx h
  obtain ⟨x, i, a, r, k, nn, f, rfl, hw, hk, hin, rfl⟩ := xsi_inv h1
  exact ⟨rfl, fun h => ⟨xwk_pt h.1 trivial, h.2.1, h.tl.tl.tl.2.2⟩, Nat.le_refl _, Nat.le_refl _, Nat.le_refl _⟩

theorem xo_castore (h : xone X M o pc L st w .castore len = some r) : xGo L st w r := by
  obtain ⟨rfl, q, h1, rfl⟩ := xnx h
  obtain ⟨x, i, a, r, k, nn, f, rfl, hw, hk, hin, rfl⟩ := xsi_inv h1
  exact ⟨rfl, fun h => ⟨xwk_pt h.1 trivial, h.2.1, h.tl.tl.tl.2.2⟩, Nat.le_refl _, Nat.le_refl _, Nat.le_refl _⟩

theorem xo_bastore (h : xone X M o pc L st w .bastore len = some r) : xGo L st w r := by
  obtain ⟨rfl, q, h1, rfl⟩ := xnx h
  obtain ⟨x, i, a, r, k, nn, f, rfl, hw, hk, hin, rfl⟩ := xsi_inv h1
  exact ⟨rfl, fun h => ⟨xwk_pt h.1 trivial, h.2.1, h.tl.tl.tl.2.2⟩, Nat.le_refl _, Nat.le_refl _, Nat.le_refl _⟩

theorem xo_lastore (h : xone X M o pc L st w .lastore len = some r) : xGo L st w r := by
  obtain ⟨rfl, q, h1, rfl⟩ := xnx h
  unfold xsl at h1
  split at h1
  · split at h1
    · obtain ⟨h2, h1⟩ := xk_some.mp h1
      cases h1
      exact ⟨rfl, fun h => ⟨xwk_pt h.1 trivial, h.2.1, h.tl.tl.tl.2.2⟩, Nat.le_refl _, Nat.le_refl _, Nat.le_refl _⟩
    · cases h1
  · cases h1

theorem xo_aastore (h : xone X M o pc L st w .aastore len = some r) : xGo L st w r := by
  obtain ⟨rfl, q, h1, rfl⟩ := xnx h
  unfold xsa at h1
  split at h1
  · next v i a r =>
    split at h1
    · next k nn f ci fs hw hv =>
      obtain ⟨h2, h1⟩ := xk_some.mp h1
      cases h1
      refine ⟨rfl, fun h => ⟨xwk_pt h.1 ?_, h.2.1, h.tl.tl.tl.2.2⟩, Nat.le_refl _, Nat.le_refl _, Nat.le_refl _⟩
      have h3 := h.1 a h.tl.tl.hd
      rw [show w.2.1 a = _ from hw] at h3
      intro j b hj
      unfold va_up at hj
      split at hj
      · cases hj; exact h.hd
      · exact h3 j b hj
    · cases h1
  · cases h1

theorem xo_getfield {k : Nat} (h : xone X M o pc L st w (.getfield k) len = some r) : xGo L st w r := by
  obtain ⟨rfl, st', h1, rfl⟩ := xnx h
  unfold xgf at h1
  split at h1
  · next a r =>
    split at h1
    · next ci fs cj j hw hf =>
      obtain ⟨h2, h1⟩ := xk_some.mp h1
      obtain ⟨v, hv, rfl⟩ := Option.map_eq_some_iff.mp h1
      refine xSame.go ⟨rfl, rfl, fun h => h.tl.push ?_⟩
      have := h.1 a h.hd
      rw [show w.2.1 a = _ from hw] at this
      exact this v (List.mem_of_getElem? hv)
    · cases h1
  · split at h1
    · obtain ⟨h2, h1⟩ := xk_some.mp h1; cases h1; exact xSame.go ⟨rfl, rfl, fun h => h.tl.push trivial⟩
    · obtain ⟨h2, h1⟩ := xk_some.mp h1; cases h1; exact xSame.go ⟨rfl, rfl, fun h => h.tl.push trivial⟩
    · cases h1
  · cases h1

theorem xo_putfield {k : Nat} (h : xone X M o pc L st w (.putfield k) len = some r) : xGo L st w r := by
  obtain ⟨rfl, q, h1, rfl⟩ := xnx h
  unfold xpf at h1
  split at h1
  · next v a r =>
    split at h1
    · next ci fs cj j hw hf =>
      split at h1
      · obtain ⟨h2, h1⟩ := xk_some.mp h1
        cases h1
        refine ⟨rfl, fun h => ⟨xwk_pt h.1 ?_, h.2.1, h.tl.tl.2.2⟩, Nat.le_refl _, Nat.le_refl _, Nat.le_refl _⟩
        have h3 := h.1 a h.tl.hd
        rw [show w.2.1 a = _ from hw] at h3
        intro u hu
        rcases List.mem_or_eq_of_mem_set hu with hu | rfl
        · exact h3 u hu
        · exact h.hd
      · cases h1
    · cases h1
  · cases h1

theorem xo_getstatic {k : Nat} (h : xone X M o pc L st w (.getstatic k) len = some r) : xGo L st w r := by
  obtain ⟨rfl, st', h1, rfl⟩ := xnx h
  split at h1
  · cases h1; exact xSame.go ⟨rfl, rfl, fun h => h.push trivial⟩
  · cases h1; exact xSame.go ⟨rfl, rfl, fun h => h.push trivial⟩
  · cases h1; exact xSame.go ⟨rfl, rfl, fun h => h.push trivial⟩
  · cases h1; exact xSame.go ⟨rfl, rfl, fun h => h.push (by split <;> trivial)⟩
  · cases h1

theorem xo_new {k : Nat} (h : xone X M o pc L st w (.new k) len = some r) : xGo L st w r := by
  obtain ⟨rfl, q, h1, rfl⟩ := xnx h
  split at h1
  · next ci ht hc =>
    cases h1
    exact ⟨rfl, fun h => ⟨xwk_al h.1 (xvk_df ci _), fun v hv => xvk_mono (Nat.le_succ _) (h.2.1 v hv), xvk_cons (Nat.lt_succ_self _) (fun v hv => xvk_mono (Nat.le_succ _) (h.2.2 v hv))⟩, Nat.le_succ _, Nat.le_succ _, Nat.le_add_right _ _⟩
  · cases h1

theorem xo_newarray {t : Jvm.ClassFile.ArrayType} (h : xone X M o pc L st w (.newarray t) len = some r) : xGo L st w r := by
  obtain ⟨rfl, q, h1, rfl⟩ := xnx h
  split at h1
  · next z r k hk =>
    obtain ⟨h2, h1⟩ := xk_some.mp h1
    cases h1
    refine ⟨rfl, fun h => ⟨xwk_al h.1 ?_, fun v hv => xvk_mono (Nat.le_succ _) (h.2.1 v hv), xvk_cons (Nat.lt_succ_self _) (fun v hv => xvk_mono (Nat.le_succ _) (h.tl.2.2 v hv))⟩, Nat.le_succ _, Nat.le_succ _, Nat.le_add_right _ _⟩
    cases t <;> simp only [xkd] at hk <;> first | (cases hk; trivial) | cases hk
  · cases h1

theorem xo_anewarray {k : Nat} (h : xone X M o pc L st w (.anewarray k) len = some r) : xGo L st w r := by
  obtain ⟨rfl, q, h1, rfl⟩ := xnx h
  split at h1
  · obtain ⟨h2, h1⟩ := xk_some.mp h1
    cases h1
    exact ⟨rfl, fun h => ⟨xwk_al h.1 (fun _ _ h9 => by cases h9), fun v hv => xvk_mono (Nat.le_succ _) (h.2.1 v hv), xvk_cons (Nat.lt_succ_self _) (fun v hv => xvk_mono (Nat.le_succ _) (h.tl.2.2 v hv))⟩, Nat.le_succ _, Nat.le_succ _, Nat.le_add_right _ _⟩
  · cases h1
theorem xone_ok {i : Instr} (h : xone X M o pc L st w i len = some r) : xGo L st w r := by
  cases i with
  | iconst z => exact xo_iconst h
  | lconst z => exact xo_lconst h
  | aconst_null => exact xo_null h
  | bipush z => exact xo_bipush h
  | sipush z => exact xo_sipush h
  | dconst z => exact xo_dconst h
  | iload k => exact xo_iload h
  | lload k => exact xo_lload h
  | dload k => exact xo_dload h
  | iload_n k => exact xo_iload_n h
  | lload_n k => exact xo_lload_n h
  | aload k => exact xo_aload h
  | aload_n k => exact xo_aload_n h
  | istore k => exact xo_istore h
  | istore_n k => exact xo_istore_n h
  | lstore k => exact xo_lstore h
  | lstore_n k => exact xo_lstore_n h
  | dstore k => exact xo_dstore h
  | astore k => exact xo_astore h
  | astore_n k => exact xo_astore_n h
  | iadd => exact xo_iadd h
  | isub => exact xo_isub h
  | imul => exact xo_imul h
  | ishl => exact xo_ishl h
  | ishr => exact xo_ishr h
  | iand => exact xo_iand h
  | ior => exact xo_ior h
  | ixor => exact xo_ixor h
  | idiv => exact xo_idiv h
  | irem => exact xo_irem h
  | ladd => exact xo_ladd h
  | lsub => exact xo_lsub h
  | lmul => exact xo_lmul h
  | land => exact xo_land h
  | lor => exact xo_lor h
  | lxor => exact xo_lxor h
  | ldiv => exact xo_ldiv h
  | lcmp => exact xo_lcmp h
  | ineg => exact xo_ineg h
  | i2l => exact xo_i2l h
  | i2b => exact xo_i2b h
  | i2c => exact xo_i2c h
  | i2d => exact xo_i2d h
  | lneg => exact xo_lneg h
  | l2i => exact xo_l2i h
  | l2d => exact xo_l2d h
  | lshl => exact xo_lshl h
  | lshr => exact xo_lshr h
  | lushr => exact xo_lushr h
  | ddiv => exact xo_ddiv h
  | dcmp op => exact xo_dcmp h
  | dup => exact xo_dup h
  | pop => exact xo_pop h
  | dup_x1 => exact xo_dup_x1 h
  | dup2 => exact xo_dup2 h
  | goto off => exact xo_goto h
  | ifCond cnd off => exact xo_ifCond h
  | if_icmp cnd off => exact xo_if_icmp h
  | iinc k z => exact xo_iinc h
  | ifnonnull off => exact xo_ifnonnull h
  | tableswitch z lo hi offs => exact xo_tableswitch h
  | lookupswitch z ps => exact xo_lookupswitch h
  | ldc k => exact xo_ldc h
  | ldc_w k => exact xo_ldc_w h
  | ldc2_w k => exact xo_ldc2_w h
  | arraylength => exact xo_arraylength h
  | iaload => exact xo_iaload h
  | caload => exact xo_caload h
  | baload => exact xo_baload h
  | laload => exact xo_laload h
  | aaload => exact xo_aaload h
  | iastore => exact xo_iastore h
  | castore => exact xo_castore h
  | bastore => exact xo_bastore h
  | lastore => exact xo_lastore h
  | aastore => exact xo_aastore h
  | getfield k => exact xo_getfield h
  | putfield k => exact xo_putfield h
  | getstatic k => exact xo_getstatic h
  | new k => exact xo_new h
  | newarray t => exact xo_newarray h
  | anewarray k => exact xo_anewarray h
  | _ => cases h
end
section
variable {X : xX} {M : Nat} {pc len : Nat} {L : xL} {st : List Value} {w : xH} {r : xR}
variable {D : va_G} {D2 : Nat → ClassId} {A : Nat → Prop} {ae : Nat → Nat} {p : Program} {l : Launch} {e : Env} {R : Room} {s : State} {m : MethodId} {args : Array Value} {below : List Frame} {meth : Method} {c : Code} {Q : State → Prop} {d n k0 n0 : Nat} {ad0 : Nat → Nat}
theorem xone_snd {i : Instr} (C : xC X D D2 A ae p R s m args meth c M d) (hdg : decode (xMc M) pc = .ok (i, len)) (h : xone X M (xMo M) pc L st w i len = some r) (hfc : r.2.2.2.2.2.1 - k0 ≤ R.cells) (hfs : r.2.2.2.2.2.2 - n0 ≤ R.slots) (kk : xWW D D2 A ae p l e R s m args below meth c Q n ad0 k0 n0 r.1 r.2.1 r.2.2.1 r.2.2.2) :
    xWW D D2 A ae p l e R s m args below meth c Q n ad0 k0 n0 pc L st w := by
  cases i with
  | iconst z => exact (xs_iconst C hdg h kk).2
  | lconst z => exact (xs_lconst C hdg h kk).2
  | aconst_null => exact (xs_null C hdg h kk).2
  | bipush z => exact (xs_bipush C hdg h kk).2
  | sipush z => exact (xs_sipush C hdg h kk).2
  | dconst z => exact (xs_dconst C hdg h kk).2
  | iload k => exact (xs_iload C hdg h kk).2
  | lload k => exact (xs_lload C hdg h kk).2
  | dload k => exact (xs_dload C hdg h kk).2
  | iload_n k => exact (xs_iload_n C hdg h kk).2
  | lload_n k => exact (xs_lload_n C hdg h kk).2
  | aload k => exact (xs_aload C hdg h kk).2
  | aload_n k => exact (xs_aload_n C hdg h kk).2
  | istore k => exact (xs_istore C hdg h kk).2
  | istore_n k => exact (xs_istore_n C hdg h kk).2
  | lstore k => exact (xs_lstore C hdg h kk).2
  | lstore_n k => exact (xs_lstore_n C hdg h kk).2
  | dstore k => exact (xs_dstore C hdg h kk).2
  | astore k => exact (xs_astore C hdg h kk).2
  | astore_n k => exact (xs_astore_n C hdg h kk).2
  | iadd => exact (xs_iadd C hdg h kk).2
  | isub => exact (xs_isub C hdg h kk).2
  | imul => exact (xs_imul C hdg h kk).2
  | ishl => exact (xs_ishl C hdg h kk).2
  | ishr => exact (xs_ishr C hdg h kk).2
  | iand => exact (xs_iand C hdg h kk).2
  | ior => exact (xs_ior C hdg h kk).2
  | ixor => exact (xs_ixor C hdg h kk).2
  | idiv => exact (xs_idiv C hdg h kk).2
  | irem => exact (xs_irem C hdg h kk).2
  | ladd => exact (xs_ladd C hdg h kk).2
  | lsub => exact (xs_lsub C hdg h kk).2
  | lmul => exact (xs_lmul C hdg h kk).2
  | land => exact (xs_land C hdg h kk).2
  | lor => exact (xs_lor C hdg h kk).2
  | lxor => exact (xs_lxor C hdg h kk).2
  | ldiv => exact (xs_ldiv C hdg h kk).2
  | lcmp => exact (xs_lcmp C hdg h kk).2
  | ineg => exact (xs_ineg C hdg h kk).2
  | i2l => exact (xs_i2l C hdg h kk).2
  | i2b => exact (xs_i2b C hdg h kk).2
  | i2c => exact (xs_i2c C hdg h kk).2
  | i2d => exact (xs_i2d C hdg h kk).2
  | lneg => exact (xs_lneg C hdg h kk).2
  | l2i => exact (xs_l2i C hdg h kk).2
  | l2d => exact (xs_l2d C hdg h kk).2
  | lshl => exact (xs_lshl C hdg h kk).2
  | lshr => exact (xs_lshr C hdg h kk).2
  | lushr => exact (xs_lushr C hdg h kk).2
  | ddiv => exact (xs_ddiv C hdg h kk).2
  | dcmp op => exact (xs_dcmp C hdg h kk).2
  | dup => exact (xs_dup C hdg h kk).2
  | pop => exact (xs_pop C hdg h kk).2
  | dup_x1 => exact (xs_dup_x1 C hdg h kk).2
  | dup2 => exact (xs_dup2 C hdg h kk).2
  | goto off => exact (xs_goto C hdg h kk).2
  | ifCond cnd off => exact (xs_ifCond C hdg h kk).2
  | if_icmp cnd off => exact (xs_if_icmp C hdg h kk).2
  | iinc k z => exact (xs_iinc C hdg h kk).2
  | ifnonnull off => exact (xs_ifnonnull C hdg h kk).2
  | tableswitch z lo hi offs => exact (xs_tableswitch C hdg h kk).2
  | lookupswitch z ps => exact (xs_lookupswitch C hdg h kk).2
  | ldc k => exact (xs_ldc C hdg h kk).2
  | ldc_w k => exact (xs_ldc_w C hdg h kk).2
  | ldc2_w k => exact (xs_ldc2_w C hdg h kk).2
  | arraylength => exact (xs_arraylength C hdg h kk).2
  | iaload => exact (xs_iaload C hdg h kk).2
  | caload => exact (xs_caload C hdg h kk).2
  | baload => exact (xs_baload C hdg h kk).2
  | laload => exact (xs_laload C hdg h kk).2
  | aaload => exact (xs_aaload C hdg h kk).2
  | iastore => exact (xs_iastore C hdg h kk).2
  | castore => exact (xs_castore C hdg h kk).2
  | bastore => exact (xs_bastore C hdg h kk).2
  | lastore => exact (xs_lastore C hdg h kk).2
  | aastore => exact (xs_aastore C hdg h kk).2
  | getfield k => exact (xs_getfield C hdg h kk).2
  | putfield k => exact (xs_putfield C hdg h kk).2
  | getstatic k => exact (xs_getstatic C hdg h kk).2
  | new k => exact (xs_new C hdg h hfc hfs kk).2
  | newarray t => exact (xs_newarray C hdg h hfc hfs kk).2
  | anewarray k => exact (xs_anewarray C hdg h hfc hfs kk).2
  | _ => cases h
end
