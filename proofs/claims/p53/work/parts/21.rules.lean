/-! THE STEPS AS EQUATIONS over memory (written by wip/whole/genrules.py) -/
section
def xak (sh : xSh) : Option Nat := match sh with | .inl (k, _) => some k | _ => none
def xan (sh : xSh) : Nat := match sh with | .inl (_, n) => n | _ => 0
def xcls (sh : xSh) : Option Nat := match sh with | .inr (ci, _) => some ci | _ => none
/-- a field: 0 an integer, 1 something that the shape holds, 2 none -/
def xfk (sh : xSh) (ci k : Nat) : Nat := match sh with
  | .inr (cj, fs) => if cj = ci then (match fs[k]? with | some none => 0 | some (some _) => 1 | none => 2) else 2
  | _ => 2
def xfv (sh : xSh) (k : Nat) : Value := match sh with | .inr (_, fs) => (fs.getD k none).getD .null | _ => .null
def xsv' (sh : xSh) (k : Nat) (v : Value) : xSh := match sh with | .inr (ci, fs) => .inr (ci, fs.set k (some v)) | s => s
def xc2 (o : Option Value) : Option Value := match o with | some (.long _) => none | some (.double _) => none | o => o
theorem xc2_int (z : Int32) : xc2 (some (.int z)) = some (.int z) := rfl
theorem xc2_ref (z : Nat) : xc2 (some (.ref z)) = some (.ref z) := rfl
theorem xc2_ra (z : Nat) : xc2 (some (.retAddr z)) = some (.retAddr z) := rfl
theorem xc2_null : xc2 (some .null) = some .null := rfl
theorem xc2_long (z : Int64) : xc2 (some (.long z)) = none := rfl
theorem xc2_none : xc2 none = none := rfl
def xisa (v : Value) : Bool := match v with | .ref _ => true | .retAddr _ => true | .null => true | _ => false
theorem xisa_ref (z : Nat) : xisa (.ref z) = true := rfl
theorem xisa_ra (z : Nat) : xisa (.retAddr z) = true := rfl
theorem xisa_null : xisa .null = true := rfl
theorem xc1_int (z : Int32) : xc1 (.int z) = true := rfl
theorem xc1_ref (z : Nat) : xc1 (.ref z) = true := rfl
theorem xc1_ra (z : Nat) : xc1 (.retAddr z) = true := rfl
theorem xc1_null : xc1 .null = true := rfl
def xdiv (x y : Int) : Int := (iI x / iI y).toInt
def xrem (x y : Int) : Int := x - xdiv x y * y
def xshr (x y : Int) : Int := (iI x >>> (iI y &&& 31)).toInt
def xand (x y : Int) : Int := (iI x &&& iI y).toInt
def tl (z : Int) : Int := (lI z).toInt
def ldv (x y : Int) : Int := (lI x / lI y).toInt
def lan (x y : Int) : Int := (lI x &&& lI y).toInt
def lor' (x y : Int) : Int := (lI x ||| lI y).toInt
def lxo (x y : Int) : Int := (lI x ^^^ lI y).toInt
def lsl (x y : Int) : Int := (lI x <<< ((iI y).toInt64 &&& 63)).toInt
def lsr (x y : Int) : Int := (lI x >>> ((iI y).toInt64 &&& 63)).toInt
def lus (x y : Int) : Int := (((lI x).toUInt64 >>> ((iI y).toInt64.toUInt64 &&& Int64.toUInt64 63)).toInt64).toInt
def lcm (x y : Int) : Int := if tl x > tl y then 1 else if tl x = tl y then 0 else -1
def xnz (x : Int) : Int := (iI x &&& 1).toInt
def xnb (x : Int) : Int := ((iI x).toInt8.toInt32).toInt
def xnc (x : Int) : Int := (((iI x).toUInt32 % 65536).toInt32).toInt
def xi2l (x : Int) : Int := ((iI x).toInt64).toInt
def xl2i (x : Int) : Int := ((lI x).toInt32).toInt
theorem lI_of (x : Int64) : lI x.toInt = x := Int64.ofInt_toInt x
theorem lI_add (a b : Int) : lI a + lI b = lI (a + b) := (Int64.ofInt_add a b).symm
theorem lI_sub (a b : Int) : lI a - lI b = lI (a - b) := (Int64.ofInt_sub a b).symm
theorem lI_mul (a b : Int) : lI a * lI b = lI (a * b) := (Int64.ofInt_mul a b).symm
theorem lI_neg (a : Int) : -lI a = lI (-a) := (Int64.ofInt_neg a).symm
theorem tl_eq {z : Int} (h1 : -9223372036854775808 ≤ z) (h2 : z < 9223372036854775808) : tl z = z := by
  unfold tl lI
  exact Int64.toInt_ofInt_of_le h1 h2
theorem lI_lt (a b : Int) : (lI a < lI b) ↔ tl a < tl b := Int64.lt_iff_toInt_lt
theorem lI_eq (a b : Int) : (lI a = lI b) ↔ tl a = tl b := by
  constructor
  · intro h; unfold tl; rw [h]
  · intro h; exact Int64.toInt_inj.mp h
theorem xcmpL_eq (x y : Int) : lg_cmp (lI x) (lI y) = iI (lcm x y) := by
  unfold lg_cmp lcm
  simp only [gt_iff_lt, lI_lt, lI_eq]
  split
  · rfl
  · split <;> rfl
theorem xnc_eq (x : Int) : vp_nar .char (iI x) = iI (xnc x) := by
  unfold xnc vp_nar narrow
  rw [iI_of]
  show ((iI x).toUInt32.toUInt16.toUInt32).toInt32 = _
  congr 1
theorem xnb_eq (x : Int) : vp_nar .byte (iI x) = iI (xnb x) := by
  unfold xnb
  rw [iI_of]
  rfl
theorem xnz_eq (x : Int) : vp_nar .boolean (iI x) = iI (xnz x) := by
  unfold xnz
  rw [iI_of]
  rfl
variable {X : xX} {d M : Nat} {cc : ByteArray} {pc pc' tg : Nat} {L r : xL} {st : List Value} {w : xH} {S : xLm} {g : xGm} {Q : xO → xH → Prop}
theorem w_and {A B : Prop} {P : Prop} (h1 : P → A = B) (h2 : ¬ P → A = False) : A = (P ∧ B) := by
  by_cases h : P
  · rw [h1 h]; simp [h]
  · rw [h2 h]; simp [h]

theorem w_iconst {z : Int} (hq : xMc M = cc) (hd : decode cc pc = .ok (.iconst z, 1)) (hp' : pc + 1 = pc') : Wx X d M pc L st w Q = Wx X d M pc' L (.int (iI z) :: st) w Q := by
  subst hp'
  exact Wx_step hq hd (rfl)
theorem w_bipush {z z' : Int} (hq : xMc M = cc) (hd : decode cc pc = .ok (.bipush z, 2)) (hp' : pc + 2 = pc') (hz : (Int8.ofInt z).toInt32 = iI z') : Wx X d M pc L st w Q = Wx X d M pc' L (.int (iI z') :: st) w Q := by
  subst hp'
  exact Wx_step hq hd (by rw [← hz]; rfl)
theorem w_sipush {z z' : Int} (hq : xMc M = cc) (hd : decode cc pc = .ok (.sipush z, 3)) (hp' : pc + 3 = pc') (hz : (Int16.ofInt z).toInt32 = iI z') : Wx X d M pc L st w Q = Wx X d M pc' L (.int (iI z') :: st) w Q := by
  subst hp'
  exact Wx_step hq hd (by rw [← hz]; rfl)
theorem w_ldc {k : Nat} {z : Int} (hq : xMc M = cc) (hd : decode cc pc = .ok (.ldc k, 2)) (hp' : pc + 2 = pc') (hk : xKi (xMo M) k = some (iI z)) : Wx X d M pc L st w Q = Wx X d M pc' L (.int (iI z) :: st) w Q := by
  subst hp'
  exact Wx_step hq hd (by simp [xone, xk, hk])
theorem w_ldcw {k : Nat} {z : Int} (hq : xMc M = cc) (hd : decode cc pc = .ok (.ldc_w k, 3)) (hp' : pc + 3 = pc') (hk : xKi (xMo M) k = some (iI z)) : Wx X d M pc L st w Q = Wx X d M pc' L (.int (iI z) :: st) w Q := by
  subst hp'
  exact Wx_step hq hd (by simp [xone, xk, hk])
theorem w_ldc2 {k : Nat} {z : Int} (hq : xMc M = cc) (hd : decode cc pc = .ok (.ldc2_w k, 3)) (hp' : pc + 3 = pc') (hk : xKl (xMo M) k = some (lI z)) : Wx X d M pc L st w Q = Wx X d M pc' L (.long (lI z) :: st) w Q := by
  subst hp'
  exact Wx_step hq hd (by simp [xone, xk, hk])
theorem w_ldcS {k j : Nat} (hq : xMc M = cc) (hd : decode cc pc = .ok (.ldc k, 2)) (hp' : pc + 2 = pc') (hk : xKi (xMo M) k = none) (hj : xLs (xMo M) k = some j) : Wx X d M pc L st w Q = Wx X d M pc' L (.retAddr (10 + 2 * j) :: st) w Q := by
  subst hp'
  exact Wx_step hq hd (by simp [xone, xk, hk, hj])
theorem w_lconst0 (hq : xMc M = cc) (hd : decode cc pc = .ok (.lconst 0, 1)) (hp' : pc + 1 = pc') : Wx X d M pc L st w Q = Wx X d M pc' L (.long (lI 0) :: st) w Q := by
  subst hp'
  exact Wx_step hq hd (rfl)
theorem w_lconst1 (hq : xMc M = cc) (hd : decode cc pc = .ok (.lconst 1, 1)) (hp' : pc + 1 = pc') : Wx X d M pc L st w Q = Wx X d M pc' L (.long (lI 1) :: st) w Q := by
  subst hp'
  exact Wx_step hq hd (rfl)
theorem w_dconst (hq : xMc M = cc) (hd : decode cc pc = .ok (.dconst 0, 1)) (hp' : pc + 1 = pc') : Wx X d M pc L st w Q = Wx X d M pc' L (.double FP.dconst0 :: st) w Q := by
  subst hp'
  exact Wx_step hq hd (rfl)
theorem w_null (hq : xMc M = cc) (hd : decode cc pc = .ok (.aconst_null, 1)) (hp' : pc + 1 = pc') : Wx X d M pc L st w Q = Wx X d M pc' L (.null :: st) w Q := by
  subst hp'
  exact Wx_step hq hd (rfl)
theorem w_iload_n0 {x : Int32} (hq : xMc M = cc) (hd : decode cc pc = .ok (.iload_n 0, 1)) (hp' : pc + 1 = pc') : Wx X d M pc (some (.int x) :: r) st w Q = Wx X d M pc' (some (.int x) :: r) (.int x :: st) w Q := by
  subst hp'
  exact Wx_step hq hd (rfl)
theorem w_lload_n0 {x : Int64} (hq : xMc M = cc) (hd : decode cc pc = .ok (.lload_n 0, 1)) (hp' : pc + 1 = pc') : Wx X d M pc (some (.long x) :: r) st w Q = Wx X d M pc' (some (.long x) :: r) (.long x :: st) w Q := by
  subst hp'
  exact Wx_step hq hd (rfl)
theorem w_dload0 {x : UInt64} (hq : xMc M = cc) (hd : decode cc pc = .ok (.dload 0, 2)) (hp' : pc + 2 = pc') : Wx X d M pc (some (.double x) :: r) st w Q = Wx X d M pc' (some (.double x) :: r) (.double x :: st) w Q := by
  subst hp'
  exact Wx_step hq hd (rfl)
theorem w_aload_n0 {v : Value} (hq : xMc M = cc) (hd : decode cc pc = .ok (.aload_n 0, 1)) (hp' : pc + 1 = pc') (hv : xisa v = true) : Wx X d M pc (some v :: r) st w Q = Wx X d M pc' (some v :: r) (v :: st) w Q := by
  subst hp'
  exact Wx_step hq hd (by cases v <;> first | rfl | cases hv)
theorem w_iload_n1 {x : Int32} {a0 : Option Value} (hq : xMc M = cc) (hd : decode cc pc = .ok (.iload_n 1, 1)) (hp' : pc + 1 = pc') : Wx X d M pc (a0 :: some (.int x) :: r) st w Q = Wx X d M pc' (a0 :: some (.int x) :: r) (.int x :: st) w Q := by
  subst hp'
  exact Wx_step hq hd (rfl)
theorem w_lload_n1 {x : Int64} {a0 : Option Value} (hq : xMc M = cc) (hd : decode cc pc = .ok (.lload_n 1, 1)) (hp' : pc + 1 = pc') : Wx X d M pc (a0 :: some (.long x) :: r) st w Q = Wx X d M pc' (a0 :: some (.long x) :: r) (.long x :: st) w Q := by
  subst hp'
  exact Wx_step hq hd (rfl)
theorem w_dload1 {x : UInt64} {a0 : Option Value} (hq : xMc M = cc) (hd : decode cc pc = .ok (.dload 1, 2)) (hp' : pc + 2 = pc') : Wx X d M pc (a0 :: some (.double x) :: r) st w Q = Wx X d M pc' (a0 :: some (.double x) :: r) (.double x :: st) w Q := by
  subst hp'
  exact Wx_step hq hd (rfl)
theorem w_aload_n1 {v : Value} {a0 : Option Value} (hq : xMc M = cc) (hd : decode cc pc = .ok (.aload_n 1, 1)) (hp' : pc + 1 = pc') (hv : xisa v = true) : Wx X d M pc (a0 :: some v :: r) st w Q = Wx X d M pc' (a0 :: some v :: r) (v :: st) w Q := by
  subst hp'
  exact Wx_step hq hd (by cases v <;> first | rfl | cases hv)
theorem w_iload_n2 {x : Int32} {a0 a1 : Option Value} (hq : xMc M = cc) (hd : decode cc pc = .ok (.iload_n 2, 1)) (hp' : pc + 1 = pc') : Wx X d M pc (a0 :: a1 :: some (.int x) :: r) st w Q = Wx X d M pc' (a0 :: a1 :: some (.int x) :: r) (.int x :: st) w Q := by
  subst hp'
  exact Wx_step hq hd (rfl)
theorem w_lload_n2 {x : Int64} {a0 a1 : Option Value} (hq : xMc M = cc) (hd : decode cc pc = .ok (.lload_n 2, 1)) (hp' : pc + 1 = pc') : Wx X d M pc (a0 :: a1 :: some (.long x) :: r) st w Q = Wx X d M pc' (a0 :: a1 :: some (.long x) :: r) (.long x :: st) w Q := by
  subst hp'
  exact Wx_step hq hd (rfl)
theorem w_dload2 {x : UInt64} {a0 a1 : Option Value} (hq : xMc M = cc) (hd : decode cc pc = .ok (.dload 2, 2)) (hp' : pc + 2 = pc') : Wx X d M pc (a0 :: a1 :: some (.double x) :: r) st w Q = Wx X d M pc' (a0 :: a1 :: some (.double x) :: r) (.double x :: st) w Q := by
  subst hp'
  exact Wx_step hq hd (rfl)
theorem w_aload_n2 {v : Value} {a0 a1 : Option Value} (hq : xMc M = cc) (hd : decode cc pc = .ok (.aload_n 2, 1)) (hp' : pc + 1 = pc') (hv : xisa v = true) : Wx X d M pc (a0 :: a1 :: some v :: r) st w Q = Wx X d M pc' (a0 :: a1 :: some v :: r) (v :: st) w Q := by
  subst hp'
  exact Wx_step hq hd (by cases v <;> first | rfl | cases hv)
theorem w_iload_n3 {x : Int32} {a0 a1 a2 : Option Value} (hq : xMc M = cc) (hd : decode cc pc = .ok (.iload_n 3, 1)) (hp' : pc + 1 = pc') : Wx X d M pc (a0 :: a1 :: a2 :: some (.int x) :: r) st w Q = Wx X d M pc' (a0 :: a1 :: a2 :: some (.int x) :: r) (.int x :: st) w Q := by
  subst hp'
  exact Wx_step hq hd (rfl)
theorem w_lload_n3 {x : Int64} {a0 a1 a2 : Option Value} (hq : xMc M = cc) (hd : decode cc pc = .ok (.lload_n 3, 1)) (hp' : pc + 1 = pc') : Wx X d M pc (a0 :: a1 :: a2 :: some (.long x) :: r) st w Q = Wx X d M pc' (a0 :: a1 :: a2 :: some (.long x) :: r) (.long x :: st) w Q := by
  subst hp'
  exact Wx_step hq hd (rfl)
theorem w_dload3 {x : UInt64} {a0 a1 a2 : Option Value} (hq : xMc M = cc) (hd : decode cc pc = .ok (.dload 3, 2)) (hp' : pc + 2 = pc') : Wx X d M pc (a0 :: a1 :: a2 :: some (.double x) :: r) st w Q = Wx X d M pc' (a0 :: a1 :: a2 :: some (.double x) :: r) (.double x :: st) w Q := by
  subst hp'
  exact Wx_step hq hd (rfl)
theorem w_aload_n3 {v : Value} {a0 a1 a2 : Option Value} (hq : xMc M = cc) (hd : decode cc pc = .ok (.aload_n 3, 1)) (hp' : pc + 1 = pc') (hv : xisa v = true) : Wx X d M pc (a0 :: a1 :: a2 :: some v :: r) st w Q = Wx X d M pc' (a0 :: a1 :: a2 :: some v :: r) (v :: st) w Q := by
  subst hp'
  exact Wx_step hq hd (by cases v <;> first | rfl | cases hv)
theorem w_iload4 {x : Int32} {a0 a1 a2 a3 : Option Value} (hq : xMc M = cc) (hd : decode cc pc = .ok (.iload 4, 2)) (hp' : pc + 2 = pc') : Wx X d M pc (a0 :: a1 :: a2 :: a3 :: some (.int x) :: r) st w Q = Wx X d M pc' (a0 :: a1 :: a2 :: a3 :: some (.int x) :: r) (.int x :: st) w Q := by
  subst hp'
  exact Wx_step hq hd (rfl)
theorem w_lload4 {x : Int64} {a0 a1 a2 a3 : Option Value} (hq : xMc M = cc) (hd : decode cc pc = .ok (.lload 4, 2)) (hp' : pc + 2 = pc') : Wx X d M pc (a0 :: a1 :: a2 :: a3 :: some (.long x) :: r) st w Q = Wx X d M pc' (a0 :: a1 :: a2 :: a3 :: some (.long x) :: r) (.long x :: st) w Q := by
  subst hp'
  exact Wx_step hq hd (rfl)
theorem w_dload4 {x : UInt64} {a0 a1 a2 a3 : Option Value} (hq : xMc M = cc) (hd : decode cc pc = .ok (.dload 4, 2)) (hp' : pc + 2 = pc') : Wx X d M pc (a0 :: a1 :: a2 :: a3 :: some (.double x) :: r) st w Q = Wx X d M pc' (a0 :: a1 :: a2 :: a3 :: some (.double x) :: r) (.double x :: st) w Q := by
  subst hp'
  exact Wx_step hq hd (rfl)
theorem w_aload4 {v : Value} {a0 a1 a2 a3 : Option Value} (hq : xMc M = cc) (hd : decode cc pc = .ok (.aload 4, 2)) (hp' : pc + 2 = pc') (hv : xisa v = true) : Wx X d M pc (a0 :: a1 :: a2 :: a3 :: some v :: r) st w Q = Wx X d M pc' (a0 :: a1 :: a2 :: a3 :: some v :: r) (v :: st) w Q := by
  subst hp'
  exact Wx_step hq hd (by cases v <;> first | rfl | cases hv)
theorem w_iload5 {x : Int32} {a0 a1 a2 a3 a4 : Option Value} (hq : xMc M = cc) (hd : decode cc pc = .ok (.iload 5, 2)) (hp' : pc + 2 = pc') : Wx X d M pc (a0 :: a1 :: a2 :: a3 :: a4 :: some (.int x) :: r) st w Q = Wx X d M pc' (a0 :: a1 :: a2 :: a3 :: a4 :: some (.int x) :: r) (.int x :: st) w Q := by
  subst hp'
  exact Wx_step hq hd (rfl)
theorem w_lload5 {x : Int64} {a0 a1 a2 a3 a4 : Option Value} (hq : xMc M = cc) (hd : decode cc pc = .ok (.lload 5, 2)) (hp' : pc + 2 = pc') : Wx X d M pc (a0 :: a1 :: a2 :: a3 :: a4 :: some (.long x) :: r) st w Q = Wx X d M pc' (a0 :: a1 :: a2 :: a3 :: a4 :: some (.long x) :: r) (.long x :: st) w Q := by
  subst hp'
  exact Wx_step hq hd (rfl)
theorem w_dload5 {x : UInt64} {a0 a1 a2 a3 a4 : Option Value} (hq : xMc M = cc) (hd : decode cc pc = .ok (.dload 5, 2)) (hp' : pc + 2 = pc') : Wx X d M pc (a0 :: a1 :: a2 :: a3 :: a4 :: some (.double x) :: r) st w Q = Wx X d M pc' (a0 :: a1 :: a2 :: a3 :: a4 :: some (.double x) :: r) (.double x :: st) w Q := by
  subst hp'
  exact Wx_step hq hd (rfl)
theorem w_aload5 {v : Value} {a0 a1 a2 a3 a4 : Option Value} (hq : xMc M = cc) (hd : decode cc pc = .ok (.aload 5, 2)) (hp' : pc + 2 = pc') (hv : xisa v = true) : Wx X d M pc (a0 :: a1 :: a2 :: a3 :: a4 :: some v :: r) st w Q = Wx X d M pc' (a0 :: a1 :: a2 :: a3 :: a4 :: some v :: r) (v :: st) w Q := by
  subst hp'
  exact Wx_step hq hd (by cases v <;> first | rfl | cases hv)
theorem w_iload6 {x : Int32} {a0 a1 a2 a3 a4 a5 : Option Value} (hq : xMc M = cc) (hd : decode cc pc = .ok (.iload 6, 2)) (hp' : pc + 2 = pc') : Wx X d M pc (a0 :: a1 :: a2 :: a3 :: a4 :: a5 :: some (.int x) :: r) st w Q = Wx X d M pc' (a0 :: a1 :: a2 :: a3 :: a4 :: a5 :: some (.int x) :: r) (.int x :: st) w Q := by
  subst hp'
  exact Wx_step hq hd (rfl)
theorem w_lload6 {x : Int64} {a0 a1 a2 a3 a4 a5 : Option Value} (hq : xMc M = cc) (hd : decode cc pc = .ok (.lload 6, 2)) (hp' : pc + 2 = pc') : Wx X d M pc (a0 :: a1 :: a2 :: a3 :: a4 :: a5 :: some (.long x) :: r) st w Q = Wx X d M pc' (a0 :: a1 :: a2 :: a3 :: a4 :: a5 :: some (.long x) :: r) (.long x :: st) w Q := by
  subst hp'
  exact Wx_step hq hd (rfl)
theorem w_dload6 {x : UInt64} {a0 a1 a2 a3 a4 a5 : Option Value} (hq : xMc M = cc) (hd : decode cc pc = .ok (.dload 6, 2)) (hp' : pc + 2 = pc') : Wx X d M pc (a0 :: a1 :: a2 :: a3 :: a4 :: a5 :: some (.double x) :: r) st w Q = Wx X d M pc' (a0 :: a1 :: a2 :: a3 :: a4 :: a5 :: some (.double x) :: r) (.double x :: st) w Q := by
  subst hp'
  exact Wx_step hq hd (rfl)
theorem w_aload6 {v : Value} {a0 a1 a2 a3 a4 a5 : Option Value} (hq : xMc M = cc) (hd : decode cc pc = .ok (.aload 6, 2)) (hp' : pc + 2 = pc') (hv : xisa v = true) : Wx X d M pc (a0 :: a1 :: a2 :: a3 :: a4 :: a5 :: some v :: r) st w Q = Wx X d M pc' (a0 :: a1 :: a2 :: a3 :: a4 :: a5 :: some v :: r) (v :: st) w Q := by
  subst hp'
  exact Wx_step hq hd (by cases v <;> first | rfl | cases hv)
theorem w_iload7 {x : Int32} {a0 a1 a2 a3 a4 a5 a6 : Option Value} (hq : xMc M = cc) (hd : decode cc pc = .ok (.iload 7, 2)) (hp' : pc + 2 = pc') : Wx X d M pc (a0 :: a1 :: a2 :: a3 :: a4 :: a5 :: a6 :: some (.int x) :: r) st w Q = Wx X d M pc' (a0 :: a1 :: a2 :: a3 :: a4 :: a5 :: a6 :: some (.int x) :: r) (.int x :: st) w Q := by
  subst hp'
  exact Wx_step hq hd (rfl)
theorem w_lload7 {x : Int64} {a0 a1 a2 a3 a4 a5 a6 : Option Value} (hq : xMc M = cc) (hd : decode cc pc = .ok (.lload 7, 2)) (hp' : pc + 2 = pc') : Wx X d M pc (a0 :: a1 :: a2 :: a3 :: a4 :: a5 :: a6 :: some (.long x) :: r) st w Q = Wx X d M pc' (a0 :: a1 :: a2 :: a3 :: a4 :: a5 :: a6 :: some (.long x) :: r) (.long x :: st) w Q := by
  subst hp'
  exact Wx_step hq hd (rfl)
theorem w_dload7 {x : UInt64} {a0 a1 a2 a3 a4 a5 a6 : Option Value} (hq : xMc M = cc) (hd : decode cc pc = .ok (.dload 7, 2)) (hp' : pc + 2 = pc') : Wx X d M pc (a0 :: a1 :: a2 :: a3 :: a4 :: a5 :: a6 :: some (.double x) :: r) st w Q = Wx X d M pc' (a0 :: a1 :: a2 :: a3 :: a4 :: a5 :: a6 :: some (.double x) :: r) (.double x :: st) w Q := by
  subst hp'
  exact Wx_step hq hd (rfl)
theorem w_aload7 {v : Value} {a0 a1 a2 a3 a4 a5 a6 : Option Value} (hq : xMc M = cc) (hd : decode cc pc = .ok (.aload 7, 2)) (hp' : pc + 2 = pc') (hv : xisa v = true) : Wx X d M pc (a0 :: a1 :: a2 :: a3 :: a4 :: a5 :: a6 :: some v :: r) st w Q = Wx X d M pc' (a0 :: a1 :: a2 :: a3 :: a4 :: a5 :: a6 :: some v :: r) (v :: st) w Q := by
  subst hp'
  exact Wx_step hq hd (by cases v <;> first | rfl | cases hv)
theorem w_iload8 {x : Int32} {a0 a1 a2 a3 a4 a5 a6 a7 : Option Value} (hq : xMc M = cc) (hd : decode cc pc = .ok (.iload 8, 2)) (hp' : pc + 2 = pc') : Wx X d M pc (a0 :: a1 :: a2 :: a3 :: a4 :: a5 :: a6 :: a7 :: some (.int x) :: r) st w Q = Wx X d M pc' (a0 :: a1 :: a2 :: a3 :: a4 :: a5 :: a6 :: a7 :: some (.int x) :: r) (.int x :: st) w Q := by
  subst hp'
  exact Wx_step hq hd (rfl)
theorem w_lload8 {x : Int64} {a0 a1 a2 a3 a4 a5 a6 a7 : Option Value} (hq : xMc M = cc) (hd : decode cc pc = .ok (.lload 8, 2)) (hp' : pc + 2 = pc') : Wx X d M pc (a0 :: a1 :: a2 :: a3 :: a4 :: a5 :: a6 :: a7 :: some (.long x) :: r) st w Q = Wx X d M pc' (a0 :: a1 :: a2 :: a3 :: a4 :: a5 :: a6 :: a7 :: some (.long x) :: r) (.long x :: st) w Q := by
  subst hp'
  exact Wx_step hq hd (rfl)
theorem w_dload8 {x : UInt64} {a0 a1 a2 a3 a4 a5 a6 a7 : Option Value} (hq : xMc M = cc) (hd : decode cc pc = .ok (.dload 8, 2)) (hp' : pc + 2 = pc') : Wx X d M pc (a0 :: a1 :: a2 :: a3 :: a4 :: a5 :: a6 :: a7 :: some (.double x) :: r) st w Q = Wx X d M pc' (a0 :: a1 :: a2 :: a3 :: a4 :: a5 :: a6 :: a7 :: some (.double x) :: r) (.double x :: st) w Q := by
  subst hp'
  exact Wx_step hq hd (rfl)
theorem w_aload8 {v : Value} {a0 a1 a2 a3 a4 a5 a6 a7 : Option Value} (hq : xMc M = cc) (hd : decode cc pc = .ok (.aload 8, 2)) (hp' : pc + 2 = pc') (hv : xisa v = true) : Wx X d M pc (a0 :: a1 :: a2 :: a3 :: a4 :: a5 :: a6 :: a7 :: some v :: r) st w Q = Wx X d M pc' (a0 :: a1 :: a2 :: a3 :: a4 :: a5 :: a6 :: a7 :: some v :: r) (v :: st) w Q := by
  subst hp'
  exact Wx_step hq hd (by cases v <;> first | rfl | cases hv)
theorem w_iload9 {x : Int32} {a0 a1 a2 a3 a4 a5 a6 a7 a8 : Option Value} (hq : xMc M = cc) (hd : decode cc pc = .ok (.iload 9, 2)) (hp' : pc + 2 = pc') : Wx X d M pc (a0 :: a1 :: a2 :: a3 :: a4 :: a5 :: a6 :: a7 :: a8 :: some (.int x) :: r) st w Q = Wx X d M pc' (a0 :: a1 :: a2 :: a3 :: a4 :: a5 :: a6 :: a7 :: a8 :: some (.int x) :: r) (.int x :: st) w Q := by
  subst hp'
  exact Wx_step hq hd (rfl)
theorem w_lload9 {x : Int64} {a0 a1 a2 a3 a4 a5 a6 a7 a8 : Option Value} (hq : xMc M = cc) (hd : decode cc pc = .ok (.lload 9, 2)) (hp' : pc + 2 = pc') : Wx X d M pc (a0 :: a1 :: a2 :: a3 :: a4 :: a5 :: a6 :: a7 :: a8 :: some (.long x) :: r) st w Q = Wx X d M pc' (a0 :: a1 :: a2 :: a3 :: a4 :: a5 :: a6 :: a7 :: a8 :: some (.long x) :: r) (.long x :: st) w Q := by
  subst hp'
  exact Wx_step hq hd (rfl)
theorem w_dload9 {x : UInt64} {a0 a1 a2 a3 a4 a5 a6 a7 a8 : Option Value} (hq : xMc M = cc) (hd : decode cc pc = .ok (.dload 9, 2)) (hp' : pc + 2 = pc') : Wx X d M pc (a0 :: a1 :: a2 :: a3 :: a4 :: a5 :: a6 :: a7 :: a8 :: some (.double x) :: r) st w Q = Wx X d M pc' (a0 :: a1 :: a2 :: a3 :: a4 :: a5 :: a6 :: a7 :: a8 :: some (.double x) :: r) (.double x :: st) w Q := by
  subst hp'
  exact Wx_step hq hd (rfl)
theorem w_aload9 {v : Value} {a0 a1 a2 a3 a4 a5 a6 a7 a8 : Option Value} (hq : xMc M = cc) (hd : decode cc pc = .ok (.aload 9, 2)) (hp' : pc + 2 = pc') (hv : xisa v = true) : Wx X d M pc (a0 :: a1 :: a2 :: a3 :: a4 :: a5 :: a6 :: a7 :: a8 :: some v :: r) st w Q = Wx X d M pc' (a0 :: a1 :: a2 :: a3 :: a4 :: a5 :: a6 :: a7 :: a8 :: some v :: r) (v :: st) w Q := by
  subst hp'
  exact Wx_step hq hd (by cases v <;> first | rfl | cases hv)
theorem w_iload10 {x : Int32} {a0 a1 a2 a3 a4 a5 a6 a7 a8 a9 : Option Value} (hq : xMc M = cc) (hd : decode cc pc = .ok (.iload 10, 2)) (hp' : pc + 2 = pc') : Wx X d M pc (a0 :: a1 :: a2 :: a3 :: a4 :: a5 :: a6 :: a7 :: a8 :: a9 :: some (.int x) :: r) st w Q = Wx X d M pc' (a0 :: a1 :: a2 :: a3 :: a4 :: a5 :: a6 :: a7 :: a8 :: a9 :: some (.int x) :: r) (.int x :: st) w Q := by
  subst hp'
  exact Wx_step hq hd (rfl)
theorem w_lload10 {x : Int64} {a0 a1 a2 a3 a4 a5 a6 a7 a8 a9 : Option Value} (hq : xMc M = cc) (hd : decode cc pc = .ok (.lload 10, 2)) (hp' : pc + 2 = pc') : Wx X d M pc (a0 :: a1 :: a2 :: a3 :: a4 :: a5 :: a6 :: a7 :: a8 :: a9 :: some (.long x) :: r) st w Q = Wx X d M pc' (a0 :: a1 :: a2 :: a3 :: a4 :: a5 :: a6 :: a7 :: a8 :: a9 :: some (.long x) :: r) (.long x :: st) w Q := by
  subst hp'
  exact Wx_step hq hd (rfl)
theorem w_dload10 {x : UInt64} {a0 a1 a2 a3 a4 a5 a6 a7 a8 a9 : Option Value} (hq : xMc M = cc) (hd : decode cc pc = .ok (.dload 10, 2)) (hp' : pc + 2 = pc') : Wx X d M pc (a0 :: a1 :: a2 :: a3 :: a4 :: a5 :: a6 :: a7 :: a8 :: a9 :: some (.double x) :: r) st w Q = Wx X d M pc' (a0 :: a1 :: a2 :: a3 :: a4 :: a5 :: a6 :: a7 :: a8 :: a9 :: some (.double x) :: r) (.double x :: st) w Q := by
  subst hp'
  exact Wx_step hq hd (rfl)
theorem w_aload10 {v : Value} {a0 a1 a2 a3 a4 a5 a6 a7 a8 a9 : Option Value} (hq : xMc M = cc) (hd : decode cc pc = .ok (.aload 10, 2)) (hp' : pc + 2 = pc') (hv : xisa v = true) : Wx X d M pc (a0 :: a1 :: a2 :: a3 :: a4 :: a5 :: a6 :: a7 :: a8 :: a9 :: some v :: r) st w Q = Wx X d M pc' (a0 :: a1 :: a2 :: a3 :: a4 :: a5 :: a6 :: a7 :: a8 :: a9 :: some v :: r) (v :: st) w Q := by
  subst hp'
  exact Wx_step hq hd (by cases v <;> first | rfl | cases hv)
theorem w_iload11 {x : Int32} {a0 a1 a2 a3 a4 a5 a6 a7 a8 a9 a10 : Option Value} (hq : xMc M = cc) (hd : decode cc pc = .ok (.iload 11, 2)) (hp' : pc + 2 = pc') : Wx X d M pc (a0 :: a1 :: a2 :: a3 :: a4 :: a5 :: a6 :: a7 :: a8 :: a9 :: a10 :: some (.int x) :: r) st w Q = Wx X d M pc' (a0 :: a1 :: a2 :: a3 :: a4 :: a5 :: a6 :: a7 :: a8 :: a9 :: a10 :: some (.int x) :: r) (.int x :: st) w Q := by
  subst hp'
  exact Wx_step hq hd (rfl)
theorem w_lload11 {x : Int64} {a0 a1 a2 a3 a4 a5 a6 a7 a8 a9 a10 : Option Value} (hq : xMc M = cc) (hd : decode cc pc = .ok (.lload 11, 2)) (hp' : pc + 2 = pc') : Wx X d M pc (a0 :: a1 :: a2 :: a3 :: a4 :: a5 :: a6 :: a7 :: a8 :: a9 :: a10 :: some (.long x) :: r) st w Q = Wx X d M pc' (a0 :: a1 :: a2 :: a3 :: a4 :: a5 :: a6 :: a7 :: a8 :: a9 :: a10 :: some (.long x) :: r) (.long x :: st) w Q := by
  subst hp'
  exact Wx_step hq hd (rfl)
theorem w_dload11 {x : UInt64} {a0 a1 a2 a3 a4 a5 a6 a7 a8 a9 a10 : Option Value} (hq : xMc M = cc) (hd : decode cc pc = .ok (.dload 11, 2)) (hp' : pc + 2 = pc') : Wx X d M pc (a0 :: a1 :: a2 :: a3 :: a4 :: a5 :: a6 :: a7 :: a8 :: a9 :: a10 :: some (.double x) :: r) st w Q = Wx X d M pc' (a0 :: a1 :: a2 :: a3 :: a4 :: a5 :: a6 :: a7 :: a8 :: a9 :: a10 :: some (.double x) :: r) (.double x :: st) w Q := by
  subst hp'
  exact Wx_step hq hd (rfl)
theorem w_aload11 {v : Value} {a0 a1 a2 a3 a4 a5 a6 a7 a8 a9 a10 : Option Value} (hq : xMc M = cc) (hd : decode cc pc = .ok (.aload 11, 2)) (hp' : pc + 2 = pc') (hv : xisa v = true) : Wx X d M pc (a0 :: a1 :: a2 :: a3 :: a4 :: a5 :: a6 :: a7 :: a8 :: a9 :: a10 :: some v :: r) st w Q = Wx X d M pc' (a0 :: a1 :: a2 :: a3 :: a4 :: a5 :: a6 :: a7 :: a8 :: a9 :: a10 :: some v :: r) (v :: st) w Q := by
  subst hp'
  exact Wx_step hq hd (by cases v <;> first | rfl | cases hv)
theorem w_iload12 {x : Int32} {a0 a1 a2 a3 a4 a5 a6 a7 a8 a9 a10 a11 : Option Value} (hq : xMc M = cc) (hd : decode cc pc = .ok (.iload 12, 2)) (hp' : pc + 2 = pc') : Wx X d M pc (a0 :: a1 :: a2 :: a3 :: a4 :: a5 :: a6 :: a7 :: a8 :: a9 :: a10 :: a11 :: some (.int x) :: r) st w Q = Wx X d M pc' (a0 :: a1 :: a2 :: a3 :: a4 :: a5 :: a6 :: a7 :: a8 :: a9 :: a10 :: a11 :: some (.int x) :: r) (.int x :: st) w Q := by
  subst hp'
  exact Wx_step hq hd (rfl)
theorem w_lload12 {x : Int64} {a0 a1 a2 a3 a4 a5 a6 a7 a8 a9 a10 a11 : Option Value} (hq : xMc M = cc) (hd : decode cc pc = .ok (.lload 12, 2)) (hp' : pc + 2 = pc') : Wx X d M pc (a0 :: a1 :: a2 :: a3 :: a4 :: a5 :: a6 :: a7 :: a8 :: a9 :: a10 :: a11 :: some (.long x) :: r) st w Q = Wx X d M pc' (a0 :: a1 :: a2 :: a3 :: a4 :: a5 :: a6 :: a7 :: a8 :: a9 :: a10 :: a11 :: some (.long x) :: r) (.long x :: st) w Q := by
  subst hp'
  exact Wx_step hq hd (rfl)
theorem w_dload12 {x : UInt64} {a0 a1 a2 a3 a4 a5 a6 a7 a8 a9 a10 a11 : Option Value} (hq : xMc M = cc) (hd : decode cc pc = .ok (.dload 12, 2)) (hp' : pc + 2 = pc') : Wx X d M pc (a0 :: a1 :: a2 :: a3 :: a4 :: a5 :: a6 :: a7 :: a8 :: a9 :: a10 :: a11 :: some (.double x) :: r) st w Q = Wx X d M pc' (a0 :: a1 :: a2 :: a3 :: a4 :: a5 :: a6 :: a7 :: a8 :: a9 :: a10 :: a11 :: some (.double x) :: r) (.double x :: st) w Q := by
  subst hp'
  exact Wx_step hq hd (rfl)
theorem w_aload12 {v : Value} {a0 a1 a2 a3 a4 a5 a6 a7 a8 a9 a10 a11 : Option Value} (hq : xMc M = cc) (hd : decode cc pc = .ok (.aload 12, 2)) (hp' : pc + 2 = pc') (hv : xisa v = true) : Wx X d M pc (a0 :: a1 :: a2 :: a3 :: a4 :: a5 :: a6 :: a7 :: a8 :: a9 :: a10 :: a11 :: some v :: r) st w Q = Wx X d M pc' (a0 :: a1 :: a2 :: a3 :: a4 :: a5 :: a6 :: a7 :: a8 :: a9 :: a10 :: a11 :: some v :: r) (v :: st) w Q := by
  subst hp'
  exact Wx_step hq hd (by cases v <;> first | rfl | cases hv)
theorem w_iload13 {x : Int32} {a0 a1 a2 a3 a4 a5 a6 a7 a8 a9 a10 a11 a12 : Option Value} (hq : xMc M = cc) (hd : decode cc pc = .ok (.iload 13, 2)) (hp' : pc + 2 = pc') : Wx X d M pc (a0 :: a1 :: a2 :: a3 :: a4 :: a5 :: a6 :: a7 :: a8 :: a9 :: a10 :: a11 :: a12 :: some (.int x) :: r) st w Q = Wx X d M pc' (a0 :: a1 :: a2 :: a3 :: a4 :: a5 :: a6 :: a7 :: a8 :: a9 :: a10 :: a11 :: a12 :: some (.int x) :: r) (.int x :: st) w Q := by
  subst hp'
  exact Wx_step hq hd (rfl)
theorem w_lload13 {x : Int64} {a0 a1 a2 a3 a4 a5 a6 a7 a8 a9 a10 a11 a12 : Option Value} (hq : xMc M = cc) (hd : decode cc pc = .ok (.lload 13, 2)) (hp' : pc + 2 = pc') : Wx X d M pc (a0 :: a1 :: a2 :: a3 :: a4 :: a5 :: a6 :: a7 :: a8 :: a9 :: a10 :: a11 :: a12 :: some (.long x) :: r) st w Q = Wx X d M pc' (a0 :: a1 :: a2 :: a3 :: a4 :: a5 :: a6 :: a7 :: a8 :: a9 :: a10 :: a11 :: a12 :: some (.long x) :: r) (.long x :: st) w Q := by
  subst hp'
  exact Wx_step hq hd (rfl)
theorem w_dload13 {x : UInt64} {a0 a1 a2 a3 a4 a5 a6 a7 a8 a9 a10 a11 a12 : Option Value} (hq : xMc M = cc) (hd : decode cc pc = .ok (.dload 13, 2)) (hp' : pc + 2 = pc') : Wx X d M pc (a0 :: a1 :: a2 :: a3 :: a4 :: a5 :: a6 :: a7 :: a8 :: a9 :: a10 :: a11 :: a12 :: some (.double x) :: r) st w Q = Wx X d M pc' (a0 :: a1 :: a2 :: a3 :: a4 :: a5 :: a6 :: a7 :: a8 :: a9 :: a10 :: a11 :: a12 :: some (.double x) :: r) (.double x :: st) w Q := by
  subst hp'
  exact Wx_step hq hd (rfl)
theorem w_aload13 {v : Value} {a0 a1 a2 a3 a4 a5 a6 a7 a8 a9 a10 a11 a12 : Option Value} (hq : xMc M = cc) (hd : decode cc pc = .ok (.aload 13, 2)) (hp' : pc + 2 = pc') (hv : xisa v = true) : Wx X d M pc (a0 :: a1 :: a2 :: a3 :: a4 :: a5 :: a6 :: a7 :: a8 :: a9 :: a10 :: a11 :: a12 :: some v :: r) st w Q = Wx X d M pc' (a0 :: a1 :: a2 :: a3 :: a4 :: a5 :: a6 :: a7 :: a8 :: a9 :: a10 :: a11 :: a12 :: some v :: r) (v :: st) w Q := by
  subst hp'
  exact Wx_step hq hd (by cases v <;> first | rfl | cases hv)
theorem w_istore_n0 {x : Int32} {y0 : Option Value} (hq : xMc M = cc) (hd : decode cc pc = .ok (.istore_n 0, 1)) (hp' : pc + 1 = pc') : Wx X d M pc (y0 :: r) (.int x :: st) w Q = Wx X d M pc' (some (.int x) :: r) st w Q := by
  subst hp'
  exact Wx_step hq hd (rfl)
theorem w_lstore_n0 {x : Int64} {y0 y1 : Option Value} (hq : xMc M = cc) (hd : decode cc pc = .ok (.lstore_n 0, 1)) (hp' : pc + 1 = pc') : Wx X d M pc (y0 :: y1 :: r) (.long x :: st) w Q = Wx X d M pc' (some (.long x) :: none :: r) st w Q := by
  subst hp'
  exact Wx_step hq hd (rfl)
theorem w_dstore0 {x : UInt64} {y0 y1 : Option Value} (hq : xMc M = cc) (hd : decode cc pc = .ok (.dstore 0, 2)) (hp' : pc + 2 = pc') : Wx X d M pc (y0 :: y1 :: r) (.double x :: st) w Q = Wx X d M pc' (some (.double x) :: none :: r) st w Q := by
  subst hp'
  exact Wx_step hq hd (rfl)
theorem w_astore_n0 {v : Value} {y0 : Option Value} (hq : xMc M = cc) (hd : decode cc pc = .ok (.astore_n 0, 1)) (hp' : pc + 1 = pc') (hv : xisa v = true) : Wx X d M pc (y0 :: r) (v :: st) w Q = Wx X d M pc' (some v :: r) st w Q := by
  subst hp'
  exact Wx_step hq hd (by cases v <;> first | rfl | cases hv)
theorem w_iinc0 {x z : Int} (hq : xMc M = cc) (hd : decode cc pc = .ok (.iinc 0 z, 3)) (hp' : pc + 3 = pc') : Wx X d M pc (some (.int (iI x)) :: r) st w Q = Wx X d M pc' (some (.int (iI (x + z))) :: r) st w Q := by
  subst hp'
  exact Wx_step hq hd (by rw [← iI_add]; rfl)
theorem w_iincw0 {x z : Int} (hq : xMc M = cc) (hd : decode cc pc = .ok (.iinc 0 z, 6)) (hp' : pc + 6 = pc') : Wx X d M pc (some (.int (iI x)) :: r) st w Q = Wx X d M pc' (some (.int (iI (x + z))) :: r) st w Q := by
  subst hp'
  exact Wx_step hq hd (by rw [← iI_add]; rfl)
theorem w_istore_n1 {x : Int32} {a0 : Option Value} {y0 : Option Value} (hq : xMc M = cc) (hd : decode cc pc = .ok (.istore_n 1, 1)) (hp' : pc + 1 = pc') : Wx X d M pc (a0 :: y0 :: r) (.int x :: st) w Q = Wx X d M pc' (xc2 a0 :: some (.int x) :: r) st w Q := by
  subst hp'
  exact Wx_step hq hd (by cases a0 <;> first | rfl | (next u => cases u <;> rfl))
theorem w_lstore_n1 {x : Int64} {a0 : Option Value} {y0 y1 : Option Value} (hq : xMc M = cc) (hd : decode cc pc = .ok (.lstore_n 1, 1)) (hp' : pc + 1 = pc') : Wx X d M pc (a0 :: y0 :: y1 :: r) (.long x :: st) w Q = Wx X d M pc' (xc2 a0 :: some (.long x) :: none :: r) st w Q := by
  subst hp'
  exact Wx_step hq hd (by cases a0 <;> first | rfl | (next u => cases u <;> rfl))
theorem w_dstore1 {x : UInt64} {a0 : Option Value} {y0 y1 : Option Value} (hq : xMc M = cc) (hd : decode cc pc = .ok (.dstore 1, 2)) (hp' : pc + 2 = pc') : Wx X d M pc (a0 :: y0 :: y1 :: r) (.double x :: st) w Q = Wx X d M pc' (xc2 a0 :: some (.double x) :: none :: r) st w Q := by
  subst hp'
  exact Wx_step hq hd (by cases a0 <;> first | rfl | (next u => cases u <;> rfl))
theorem w_astore_n1 {v : Value} {a0 : Option Value} {y0 : Option Value} (hq : xMc M = cc) (hd : decode cc pc = .ok (.astore_n 1, 1)) (hp' : pc + 1 = pc') (hv : xisa v = true) : Wx X d M pc (a0 :: y0 :: r) (v :: st) w Q = Wx X d M pc' (xc2 a0 :: some v :: r) st w Q := by
  subst hp'
  exact Wx_step hq hd (by cases v <;> first | (cases a0 <;> first | rfl | (next u => cases u <;> rfl)) | cases hv)
theorem w_iinc1 {x z : Int} {a0 : Option Value} (hq : xMc M = cc) (hd : decode cc pc = .ok (.iinc 1 z, 3)) (hp' : pc + 3 = pc') : Wx X d M pc (a0 :: some (.int (iI x)) :: r) st w Q = Wx X d M pc' (xc2 a0 :: some (.int (iI (x + z))) :: r) st w Q := by
  subst hp'
  exact Wx_step hq hd (by rw [← iI_add]; cases a0 <;> first | rfl | (next u => cases u <;> rfl))
theorem w_iincw1 {x z : Int} {a0 : Option Value} (hq : xMc M = cc) (hd : decode cc pc = .ok (.iinc 1 z, 6)) (hp' : pc + 6 = pc') : Wx X d M pc (a0 :: some (.int (iI x)) :: r) st w Q = Wx X d M pc' (xc2 a0 :: some (.int (iI (x + z))) :: r) st w Q := by
  subst hp'
  exact Wx_step hq hd (by rw [← iI_add]; cases a0 <;> first | rfl | (next u => cases u <;> rfl))
theorem w_istore_n2 {x : Int32} {a0 a1 : Option Value} {y0 : Option Value} (hq : xMc M = cc) (hd : decode cc pc = .ok (.istore_n 2, 1)) (hp' : pc + 1 = pc') : Wx X d M pc (a0 :: a1 :: y0 :: r) (.int x :: st) w Q = Wx X d M pc' (a0 :: xc2 a1 :: some (.int x) :: r) st w Q := by
  subst hp'
  exact Wx_step hq hd (by cases a1 <;> first | rfl | (next u => cases u <;> rfl))
theorem w_lstore_n2 {x : Int64} {a0 a1 : Option Value} {y0 y1 : Option Value} (hq : xMc M = cc) (hd : decode cc pc = .ok (.lstore_n 2, 1)) (hp' : pc + 1 = pc') : Wx X d M pc (a0 :: a1 :: y0 :: y1 :: r) (.long x :: st) w Q = Wx X d M pc' (a0 :: xc2 a1 :: some (.long x) :: none :: r) st w Q := by
  subst hp'
  exact Wx_step hq hd (by cases a1 <;> first | rfl | (next u => cases u <;> rfl))
theorem w_dstore2 {x : UInt64} {a0 a1 : Option Value} {y0 y1 : Option Value} (hq : xMc M = cc) (hd : decode cc pc = .ok (.dstore 2, 2)) (hp' : pc + 2 = pc') : Wx X d M pc (a0 :: a1 :: y0 :: y1 :: r) (.double x :: st) w Q = Wx X d M pc' (a0 :: xc2 a1 :: some (.double x) :: none :: r) st w Q := by
  subst hp'
  exact Wx_step hq hd (by cases a1 <;> first | rfl | (next u => cases u <;> rfl))
theorem w_astore_n2 {v : Value} {a0 a1 : Option Value} {y0 : Option Value} (hq : xMc M = cc) (hd : decode cc pc = .ok (.astore_n 2, 1)) (hp' : pc + 1 = pc') (hv : xisa v = true) : Wx X d M pc (a0 :: a1 :: y0 :: r) (v :: st) w Q = Wx X d M pc' (a0 :: xc2 a1 :: some v :: r) st w Q := by
  subst hp'
  exact Wx_step hq hd (by cases v <;> first | (cases a1 <;> first | rfl | (next u => cases u <;> rfl)) | cases hv)
theorem w_iinc2 {x z : Int} {a0 a1 : Option Value} (hq : xMc M = cc) (hd : decode cc pc = .ok (.iinc 2 z, 3)) (hp' : pc + 3 = pc') : Wx X d M pc (a0 :: a1 :: some (.int (iI x)) :: r) st w Q = Wx X d M pc' (a0 :: xc2 a1 :: some (.int (iI (x + z))) :: r) st w Q := by
  subst hp'
  exact Wx_step hq hd (by rw [← iI_add]; cases a1 <;> first | rfl | (next u => cases u <;> rfl))
theorem w_iincw2 {x z : Int} {a0 a1 : Option Value} (hq : xMc M = cc) (hd : decode cc pc = .ok (.iinc 2 z, 6)) (hp' : pc + 6 = pc') : Wx X d M pc (a0 :: a1 :: some (.int (iI x)) :: r) st w Q = Wx X d M pc' (a0 :: xc2 a1 :: some (.int (iI (x + z))) :: r) st w Q := by
  subst hp'
  exact Wx_step hq hd (by rw [← iI_add]; cases a1 <;> first | rfl | (next u => cases u <;> rfl))
theorem w_istore_n3 {x : Int32} {a0 a1 a2 : Option Value} {y0 : Option Value} (hq : xMc M = cc) (hd : decode cc pc = .ok (.istore_n 3, 1)) (hp' : pc + 1 = pc') : Wx X d M pc (a0 :: a1 :: a2 :: y0 :: r) (.int x :: st) w Q = Wx X d M pc' (a0 :: a1 :: xc2 a2 :: some (.int x) :: r) st w Q := by
  subst hp'
  exact Wx_step hq hd (by cases a2 <;> first | rfl | (next u => cases u <;> rfl))
theorem w_lstore_n3 {x : Int64} {a0 a1 a2 : Option Value} {y0 y1 : Option Value} (hq : xMc M = cc) (hd : decode cc pc = .ok (.lstore_n 3, 1)) (hp' : pc + 1 = pc') : Wx X d M pc (a0 :: a1 :: a2 :: y0 :: y1 :: r) (.long x :: st) w Q = Wx X d M pc' (a0 :: a1 :: xc2 a2 :: some (.long x) :: none :: r) st w Q := by
  subst hp'
  exact Wx_step hq hd (by cases a2 <;> first | rfl | (next u => cases u <;> rfl))
theorem w_dstore3 {x : UInt64} {a0 a1 a2 : Option Value} {y0 y1 : Option Value} (hq : xMc M = cc) (hd : decode cc pc = .ok (.dstore 3, 2)) (hp' : pc + 2 = pc') : Wx X d M pc (a0 :: a1 :: a2 :: y0 :: y1 :: r) (.double x :: st) w Q = Wx X d M pc' (a0 :: a1 :: xc2 a2 :: some (.double x) :: none :: r) st w Q := by
  subst hp'
  exact Wx_step hq hd (by cases a2 <;> first | rfl | (next u => cases u <;> rfl))
theorem w_astore_n3 {v : Value} {a0 a1 a2 : Option Value} {y0 : Option Value} (hq : xMc M = cc) (hd : decode cc pc = .ok (.astore_n 3, 1)) (hp' : pc + 1 = pc') (hv : xisa v = true) : Wx X d M pc (a0 :: a1 :: a2 :: y0 :: r) (v :: st) w Q = Wx X d M pc' (a0 :: a1 :: xc2 a2 :: some v :: r) st w Q := by
  subst hp'
  exact Wx_step hq hd (by cases v <;> first | (cases a2 <;> first | rfl | (next u => cases u <;> rfl)) | cases hv)
theorem w_iinc3 {x z : Int} {a0 a1 a2 : Option Value} (hq : xMc M = cc) (hd : decode cc pc = .ok (.iinc 3 z, 3)) (hp' : pc + 3 = pc') : Wx X d M pc (a0 :: a1 :: a2 :: some (.int (iI x)) :: r) st w Q = Wx X d M pc' (a0 :: a1 :: xc2 a2 :: some (.int (iI (x + z))) :: r) st w Q := by
  subst hp'
  exact Wx_step hq hd (by rw [← iI_add]; cases a2 <;> first | rfl | (next u => cases u <;> rfl))
theorem w_iincw3 {x z : Int} {a0 a1 a2 : Option Value} (hq : xMc M = cc) (hd : decode cc pc = .ok (.iinc 3 z, 6)) (hp' : pc + 6 = pc') : Wx X d M pc (a0 :: a1 :: a2 :: some (.int (iI x)) :: r) st w Q = Wx X d M pc' (a0 :: a1 :: xc2 a2 :: some (.int (iI (x + z))) :: r) st w Q := by
  subst hp'
  exact Wx_step hq hd (by rw [← iI_add]; cases a2 <;> first | rfl | (next u => cases u <;> rfl))
theorem w_istore4 {x : Int32} {a0 a1 a2 a3 : Option Value} {y0 : Option Value} (hq : xMc M = cc) (hd : decode cc pc = .ok (.istore 4, 2)) (hp' : pc + 2 = pc') : Wx X d M pc (a0 :: a1 :: a2 :: a3 :: y0 :: r) (.int x :: st) w Q = Wx X d M pc' (a0 :: a1 :: a2 :: xc2 a3 :: some (.int x) :: r) st w Q := by
  subst hp'
  exact Wx_step hq hd (by cases a3 <;> first | rfl | (next u => cases u <;> rfl))
theorem w_lstore4 {x : Int64} {a0 a1 a2 a3 : Option Value} {y0 y1 : Option Value} (hq : xMc M = cc) (hd : decode cc pc = .ok (.lstore 4, 2)) (hp' : pc + 2 = pc') : Wx X d M pc (a0 :: a1 :: a2 :: a3 :: y0 :: y1 :: r) (.long x :: st) w Q = Wx X d M pc' (a0 :: a1 :: a2 :: xc2 a3 :: some (.long x) :: none :: r) st w Q := by
  subst hp'
  exact Wx_step hq hd (by cases a3 <;> first | rfl | (next u => cases u <;> rfl))
theorem w_dstore4 {x : UInt64} {a0 a1 a2 a3 : Option Value} {y0 y1 : Option Value} (hq : xMc M = cc) (hd : decode cc pc = .ok (.dstore 4, 2)) (hp' : pc + 2 = pc') : Wx X d M pc (a0 :: a1 :: a2 :: a3 :: y0 :: y1 :: r) (.double x :: st) w Q = Wx X d M pc' (a0 :: a1 :: a2 :: xc2 a3 :: some (.double x) :: none :: r) st w Q := by
  subst hp'
  exact Wx_step hq hd (by cases a3 <;> first | rfl | (next u => cases u <;> rfl))
theorem w_astore4 {v : Value} {a0 a1 a2 a3 : Option Value} {y0 : Option Value} (hq : xMc M = cc) (hd : decode cc pc = .ok (.astore 4, 2)) (hp' : pc + 2 = pc') (hv : xisa v = true) : Wx X d M pc (a0 :: a1 :: a2 :: a3 :: y0 :: r) (v :: st) w Q = Wx X d M pc' (a0 :: a1 :: a2 :: xc2 a3 :: some v :: r) st w Q := by
  subst hp'
  exact Wx_step hq hd (by cases v <;> first | (cases a3 <;> first | rfl | (next u => cases u <;> rfl)) | cases hv)
theorem w_iinc4 {x z : Int} {a0 a1 a2 a3 : Option Value} (hq : xMc M = cc) (hd : decode cc pc = .ok (.iinc 4 z, 3)) (hp' : pc + 3 = pc') : Wx X d M pc (a0 :: a1 :: a2 :: a3 :: some (.int (iI x)) :: r) st w Q = Wx X d M pc' (a0 :: a1 :: a2 :: xc2 a3 :: some (.int (iI (x + z))) :: r) st w Q := by
  subst hp'
  exact Wx_step hq hd (by rw [← iI_add]; cases a3 <;> first | rfl | (next u => cases u <;> rfl))
theorem w_iincw4 {x z : Int} {a0 a1 a2 a3 : Option Value} (hq : xMc M = cc) (hd : decode cc pc = .ok (.iinc 4 z, 6)) (hp' : pc + 6 = pc') : Wx X d M pc (a0 :: a1 :: a2 :: a3 :: some (.int (iI x)) :: r) st w Q = Wx X d M pc' (a0 :: a1 :: a2 :: xc2 a3 :: some (.int (iI (x + z))) :: r) st w Q := by
  subst hp'
  exact Wx_step hq hd (by rw [← iI_add]; cases a3 <;> first | rfl | (next u => cases u <;> rfl))
theorem w_istore5 {x : Int32} {a0 a1 a2 a3 a4 : Option Value} {y0 : Option Value} (hq : xMc M = cc) (hd : decode cc pc = .ok (.istore 5, 2)) (hp' : pc + 2 = pc') : Wx X d M pc (a0 :: a1 :: a2 :: a3 :: a4 :: y0 :: r) (.int x :: st) w Q = Wx X d M pc' (a0 :: a1 :: a2 :: a3 :: xc2 a4 :: some (.int x) :: r) st w Q := by
  subst hp'
  exact Wx_step hq hd (by cases a4 <;> first | rfl | (next u => cases u <;> rfl))
theorem w_lstore5 {x : Int64} {a0 a1 a2 a3 a4 : Option Value} {y0 y1 : Option Value} (hq : xMc M = cc) (hd : decode cc pc = .ok (.lstore 5, 2)) (hp' : pc + 2 = pc') : Wx X d M pc (a0 :: a1 :: a2 :: a3 :: a4 :: y0 :: y1 :: r) (.long x :: st) w Q = Wx X d M pc' (a0 :: a1 :: a2 :: a3 :: xc2 a4 :: some (.long x) :: none :: r) st w Q := by
  subst hp'
  exact Wx_step hq hd (by cases a4 <;> first | rfl | (next u => cases u <;> rfl))
theorem w_dstore5 {x : UInt64} {a0 a1 a2 a3 a4 : Option Value} {y0 y1 : Option Value} (hq : xMc M = cc) (hd : decode cc pc = .ok (.dstore 5, 2)) (hp' : pc + 2 = pc') : Wx X d M pc (a0 :: a1 :: a2 :: a3 :: a4 :: y0 :: y1 :: r) (.double x :: st) w Q = Wx X d M pc' (a0 :: a1 :: a2 :: a3 :: xc2 a4 :: some (.double x) :: none :: r) st w Q := by
  subst hp'
  exact Wx_step hq hd (by cases a4 <;> first | rfl | (next u => cases u <;> rfl))
theorem w_astore5 {v : Value} {a0 a1 a2 a3 a4 : Option Value} {y0 : Option Value} (hq : xMc M = cc) (hd : decode cc pc = .ok (.astore 5, 2)) (hp' : pc + 2 = pc') (hv : xisa v = true) : Wx X d M pc (a0 :: a1 :: a2 :: a3 :: a4 :: y0 :: r) (v :: st) w Q = Wx X d M pc' (a0 :: a1 :: a2 :: a3 :: xc2 a4 :: some v :: r) st w Q := by
  subst hp'
  exact Wx_step hq hd (by cases v <;> first | (cases a4 <;> first | rfl | (next u => cases u <;> rfl)) | cases hv)
theorem w_iinc5 {x z : Int} {a0 a1 a2 a3 a4 : Option Value} (hq : xMc M = cc) (hd : decode cc pc = .ok (.iinc 5 z, 3)) (hp' : pc + 3 = pc') : Wx X d M pc (a0 :: a1 :: a2 :: a3 :: a4 :: some (.int (iI x)) :: r) st w Q = Wx X d M pc' (a0 :: a1 :: a2 :: a3 :: xc2 a4 :: some (.int (iI (x + z))) :: r) st w Q := by
  subst hp'
  exact Wx_step hq hd (by rw [← iI_add]; cases a4 <;> first | rfl | (next u => cases u <;> rfl))
theorem w_iincw5 {x z : Int} {a0 a1 a2 a3 a4 : Option Value} (hq : xMc M = cc) (hd : decode cc pc = .ok (.iinc 5 z, 6)) (hp' : pc + 6 = pc') : Wx X d M pc (a0 :: a1 :: a2 :: a3 :: a4 :: some (.int (iI x)) :: r) st w Q = Wx X d M pc' (a0 :: a1 :: a2 :: a3 :: xc2 a4 :: some (.int (iI (x + z))) :: r) st w Q := by
  subst hp'
  exact Wx_step hq hd (by rw [← iI_add]; cases a4 <;> first | rfl | (next u => cases u <;> rfl))
theorem w_istore6 {x : Int32} {a0 a1 a2 a3 a4 a5 : Option Value} {y0 : Option Value} (hq : xMc M = cc) (hd : decode cc pc = .ok (.istore 6, 2)) (hp' : pc + 2 = pc') : Wx X d M pc (a0 :: a1 :: a2 :: a3 :: a4 :: a5 :: y0 :: r) (.int x :: st) w Q = Wx X d M pc' (a0 :: a1 :: a2 :: a3 :: a4 :: xc2 a5 :: some (.int x) :: r) st w Q := by
  subst hp'
  exact Wx_step hq hd (by cases a5 <;> first | rfl | (next u => cases u <;> rfl))
theorem w_lstore6 {x : Int64} {a0 a1 a2 a3 a4 a5 : Option Value} {y0 y1 : Option Value} (hq : xMc M = cc) (hd : decode cc pc = .ok (.lstore 6, 2)) (hp' : pc + 2 = pc') : Wx X d M pc (a0 :: a1 :: a2 :: a3 :: a4 :: a5 :: y0 :: y1 :: r) (.long x :: st) w Q = Wx X d M pc' (a0 :: a1 :: a2 :: a3 :: a4 :: xc2 a5 :: some (.long x) :: none :: r) st w Q := by
  subst hp'
  exact Wx_step hq hd (by cases a5 <;> first | rfl | (next u => cases u <;> rfl))
theorem w_dstore6 {x : UInt64} {a0 a1 a2 a3 a4 a5 : Option Value} {y0 y1 : Option Value} (hq : xMc M = cc) (hd : decode cc pc = .ok (.dstore 6, 2)) (hp' : pc + 2 = pc') : Wx X d M pc (a0 :: a1 :: a2 :: a3 :: a4 :: a5 :: y0 :: y1 :: r) (.double x :: st) w Q = Wx X d M pc' (a0 :: a1 :: a2 :: a3 :: a4 :: xc2 a5 :: some (.double x) :: none :: r) st w Q := by
  subst hp'
  exact Wx_step hq hd (by cases a5 <;> first | rfl | (next u => cases u <;> rfl))
theorem w_astore6 {v : Value} {a0 a1 a2 a3 a4 a5 : Option Value} {y0 : Option Value} (hq : xMc M = cc) (hd : decode cc pc = .ok (.astore 6, 2)) (hp' : pc + 2 = pc') (hv : xisa v = true) : Wx X d M pc (a0 :: a1 :: a2 :: a3 :: a4 :: a5 :: y0 :: r) (v :: st) w Q = Wx X d M pc' (a0 :: a1 :: a2 :: a3 :: a4 :: xc2 a5 :: some v :: r) st w Q := by
  subst hp'
  exact Wx_step hq hd (by cases v <;> first | (cases a5 <;> first | rfl | (next u => cases u <;> rfl)) | cases hv)
theorem w_iinc6 {x z : Int} {a0 a1 a2 a3 a4 a5 : Option Value} (hq : xMc M = cc) (hd : decode cc pc = .ok (.iinc 6 z, 3)) (hp' : pc + 3 = pc') : Wx X d M pc (a0 :: a1 :: a2 :: a3 :: a4 :: a5 :: some (.int (iI x)) :: r) st w Q = Wx X d M pc' (a0 :: a1 :: a2 :: a3 :: a4 :: xc2 a5 :: some (.int (iI (x + z))) :: r) st w Q := by
  subst hp'
  exact Wx_step hq hd (by rw [← iI_add]; cases a5 <;> first | rfl | (next u => cases u <;> rfl))
theorem w_iincw6 {x z : Int} {a0 a1 a2 a3 a4 a5 : Option Value} (hq : xMc M = cc) (hd : decode cc pc = .ok (.iinc 6 z, 6)) (hp' : pc + 6 = pc') : Wx X d M pc (a0 :: a1 :: a2 :: a3 :: a4 :: a5 :: some (.int (iI x)) :: r) st w Q = Wx X d M pc' (a0 :: a1 :: a2 :: a3 :: a4 :: xc2 a5 :: some (.int (iI (x + z))) :: r) st w Q := by
  subst hp'
  exact Wx_step hq hd (by rw [← iI_add]; cases a5 <;> first | rfl | (next u => cases u <;> rfl))
theorem w_istore7 {x : Int32} {a0 a1 a2 a3 a4 a5 a6 : Option Value} {y0 : Option Value} (hq : xMc M = cc) (hd : decode cc pc = .ok (.istore 7, 2)) (hp' : pc + 2 = pc') : Wx X d M pc (a0 :: a1 :: a2 :: a3 :: a4 :: a5 :: a6 :: y0 :: r) (.int x :: st) w Q = Wx X d M pc' (a0 :: a1 :: a2 :: a3 :: a4 :: a5 :: xc2 a6 :: some (.int x) :: r) st w Q := by
  subst hp'
  exact Wx_step hq hd (by cases a6 <;> first | rfl | (next u => cases u <;> rfl))
theorem w_lstore7 {x : Int64} {a0 a1 a2 a3 a4 a5 a6 : Option Value} {y0 y1 : Option Value} (hq : xMc M = cc) (hd : decode cc pc = .ok (.lstore 7, 2)) (hp' : pc + 2 = pc') : Wx X d M pc (a0 :: a1 :: a2 :: a3 :: a4 :: a5 :: a6 :: y0 :: y1 :: r) (.long x :: st) w Q = Wx X d M pc' (a0 :: a1 :: a2 :: a3 :: a4 :: a5 :: xc2 a6 :: some (.long x) :: none :: r) st w Q := by
  subst hp'
  exact Wx_step hq hd (by cases a6 <;> first | rfl | (next u => cases u <;> rfl))
theorem w_dstore7 {x : UInt64} {a0 a1 a2 a3 a4 a5 a6 : Option Value} {y0 y1 : Option Value} (hq : xMc M = cc) (hd : decode cc pc = .ok (.dstore 7, 2)) (hp' : pc + 2 = pc') : Wx X d M pc (a0 :: a1 :: a2 :: a3 :: a4 :: a5 :: a6 :: y0 :: y1 :: r) (.double x :: st) w Q = Wx X d M pc' (a0 :: a1 :: a2 :: a3 :: a4 :: a5 :: xc2 a6 :: some (.double x) :: none :: r) st w Q := by
  subst hp'
  exact Wx_step hq hd (by cases a6 <;> first | rfl | (next u => cases u <;> rfl))
theorem w_astore7 {v : Value} {a0 a1 a2 a3 a4 a5 a6 : Option Value} {y0 : Option Value} (hq : xMc M = cc) (hd : decode cc pc = .ok (.astore 7, 2)) (hp' : pc + 2 = pc') (hv : xisa v = true) : Wx X d M pc (a0 :: a1 :: a2 :: a3 :: a4 :: a5 :: a6 :: y0 :: r) (v :: st) w Q = Wx X d M pc' (a0 :: a1 :: a2 :: a3 :: a4 :: a5 :: xc2 a6 :: some v :: r) st w Q := by
  subst hp'
  exact Wx_step hq hd (by cases v <;> first | (cases a6 <;> first | rfl | (next u => cases u <;> rfl)) | cases hv)
theorem w_iinc7 {x z : Int} {a0 a1 a2 a3 a4 a5 a6 : Option Value} (hq : xMc M = cc) (hd : decode cc pc = .ok (.iinc 7 z, 3)) (hp' : pc + 3 = pc') : Wx X d M pc (a0 :: a1 :: a2 :: a3 :: a4 :: a5 :: a6 :: some (.int (iI x)) :: r) st w Q = Wx X d M pc' (a0 :: a1 :: a2 :: a3 :: a4 :: a5 :: xc2 a6 :: some (.int (iI (x + z))) :: r) st w Q := by
  subst hp'
  exact Wx_step hq hd (by rw [← iI_add]; cases a6 <;> first | rfl | (next u => cases u <;> rfl))
theorem w_iincw7 {x z : Int} {a0 a1 a2 a3 a4 a5 a6 : Option Value} (hq : xMc M = cc) (hd : decode cc pc = .ok (.iinc 7 z, 6)) (hp' : pc + 6 = pc') : Wx X d M pc (a0 :: a1 :: a2 :: a3 :: a4 :: a5 :: a6 :: some (.int (iI x)) :: r) st w Q = Wx X d M pc' (a0 :: a1 :: a2 :: a3 :: a4 :: a5 :: xc2 a6 :: some (.int (iI (x + z))) :: r) st w Q := by
  subst hp'
  exact Wx_step hq hd (by rw [← iI_add]; cases a6 <;> first | rfl | (next u => cases u <;> rfl))
theorem w_istore8 {x : Int32} {a0 a1 a2 a3 a4 a5 a6 a7 : Option Value} {y0 : Option Value} (hq : xMc M = cc) (hd : decode cc pc = .ok (.istore 8, 2)) (hp' : pc + 2 = pc') : Wx X d M pc (a0 :: a1 :: a2 :: a3 :: a4 :: a5 :: a6 :: a7 :: y0 :: r) (.int x :: st) w Q = Wx X d M pc' (a0 :: a1 :: a2 :: a3 :: a4 :: a5 :: a6 :: xc2 a7 :: some (.int x) :: r) st w Q := by
  subst hp'
  exact Wx_step hq hd (by cases a7 <;> first | rfl | (next u => cases u <;> rfl))
theorem w_lstore8 {x : Int64} {a0 a1 a2 a3 a4 a5 a6 a7 : Option Value} {y0 y1 : Option Value} (hq : xMc M = cc) (hd : decode cc pc = .ok (.lstore 8, 2)) (hp' : pc + 2 = pc') : Wx X d M pc (a0 :: a1 :: a2 :: a3 :: a4 :: a5 :: a6 :: a7 :: y0 :: y1 :: r) (.long x :: st) w Q = Wx X d M pc' (a0 :: a1 :: a2 :: a3 :: a4 :: a5 :: a6 :: xc2 a7 :: some (.long x) :: none :: r) st w Q := by
  subst hp'
  exact Wx_step hq hd (by cases a7 <;> first | rfl | (next u => cases u <;> rfl))
theorem w_dstore8 {x : UInt64} {a0 a1 a2 a3 a4 a5 a6 a7 : Option Value} {y0 y1 : Option Value} (hq : xMc M = cc) (hd : decode cc pc = .ok (.dstore 8, 2)) (hp' : pc + 2 = pc') : Wx X d M pc (a0 :: a1 :: a2 :: a3 :: a4 :: a5 :: a6 :: a7 :: y0 :: y1 :: r) (.double x :: st) w Q = Wx X d M pc' (a0 :: a1 :: a2 :: a3 :: a4 :: a5 :: a6 :: xc2 a7 :: some (.double x) :: none :: r) st w Q := by
  subst hp'
  exact Wx_step hq hd (by cases a7 <;> first | rfl | (next u => cases u <;> rfl))
theorem w_astore8 {v : Value} {a0 a1 a2 a3 a4 a5 a6 a7 : Option Value} {y0 : Option Value} (hq : xMc M = cc) (hd : decode cc pc = .ok (.astore 8, 2)) (hp' : pc + 2 = pc') (hv : xisa v = true) : Wx X d M pc (a0 :: a1 :: a2 :: a3 :: a4 :: a5 :: a6 :: a7 :: y0 :: r) (v :: st) w Q = Wx X d M pc' (a0 :: a1 :: a2 :: a3 :: a4 :: a5 :: a6 :: xc2 a7 :: some v :: r) st w Q := by
  subst hp'
  exact Wx_step hq hd (by cases v <;> first | (cases a7 <;> first | rfl | (next u => cases u <;> rfl)) | cases hv)
theorem w_iinc8 {x z : Int} {a0 a1 a2 a3 a4 a5 a6 a7 : Option Value} (hq : xMc M = cc) (hd : decode cc pc = .ok (.iinc 8 z, 3)) (hp' : pc + 3 = pc') : Wx X d M pc (a0 :: a1 :: a2 :: a3 :: a4 :: a5 :: a6 :: a7 :: some (.int (iI x)) :: r) st w Q = Wx X d M pc' (a0 :: a1 :: a2 :: a3 :: a4 :: a5 :: a6 :: xc2 a7 :: some (.int (iI (x + z))) :: r) st w Q := by
  subst hp'
  exact Wx_step hq hd (by rw [← iI_add]; cases a7 <;> first | rfl | (next u => cases u <;> rfl))
theorem w_istore9 {x : Int32} {a0 a1 a2 a3 a4 a5 a6 a7 a8 : Option Value} {y0 : Option Value} (hq : xMc M = cc) (hd : decode cc pc = .ok (.istore 9, 2)) (hp' : pc + 2 = pc') : Wx X d M pc (a0 :: a1 :: a2 :: a3 :: a4 :: a5 :: a6 :: a7 :: a8 :: y0 :: r) (.int x :: st) w Q = Wx X d M pc' (a0 :: a1 :: a2 :: a3 :: a4 :: a5 :: a6 :: a7 :: xc2 a8 :: some (.int x) :: r) st w Q := by
  subst hp'
  exact Wx_step hq hd (by cases a8 <;> first | rfl | (next u => cases u <;> rfl))
theorem w_lstore9 {x : Int64} {a0 a1 a2 a3 a4 a5 a6 a7 a8 : Option Value} {y0 y1 : Option Value} (hq : xMc M = cc) (hd : decode cc pc = .ok (.lstore 9, 2)) (hp' : pc + 2 = pc') : Wx X d M pc (a0 :: a1 :: a2 :: a3 :: a4 :: a5 :: a6 :: a7 :: a8 :: y0 :: y1 :: r) (.long x :: st) w Q = Wx X d M pc' (a0 :: a1 :: a2 :: a3 :: a4 :: a5 :: a6 :: a7 :: xc2 a8 :: some (.long x) :: none :: r) st w Q := by
  subst hp'
  exact Wx_step hq hd (by cases a8 <;> first | rfl | (next u => cases u <;> rfl))
theorem w_dstore9 {x : UInt64} {a0 a1 a2 a3 a4 a5 a6 a7 a8 : Option Value} {y0 y1 : Option Value} (hq : xMc M = cc) (hd : decode cc pc = .ok (.dstore 9, 2)) (hp' : pc + 2 = pc') : Wx X d M pc (a0 :: a1 :: a2 :: a3 :: a4 :: a5 :: a6 :: a7 :: a8 :: y0 :: y1 :: r) (.double x :: st) w Q = Wx X d M pc' (a0 :: a1 :: a2 :: a3 :: a4 :: a5 :: a6 :: a7 :: xc2 a8 :: some (.double x) :: none :: r) st w Q := by
  subst hp'
  exact Wx_step hq hd (by cases a8 <;> first | rfl | (next u => cases u <;> rfl))
theorem w_astore9 {v : Value} {a0 a1 a2 a3 a4 a5 a6 a7 a8 : Option Value} {y0 : Option Value} (hq : xMc M = cc) (hd : decode cc pc = .ok (.astore 9, 2)) (hp' : pc + 2 = pc') (hv : xisa v = true) : Wx X d M pc (a0 :: a1 :: a2 :: a3 :: a4 :: a5 :: a6 :: a7 :: a8 :: y0 :: r) (v :: st) w Q = Wx X d M pc' (a0 :: a1 :: a2 :: a3 :: a4 :: a5 :: a6 :: a7 :: xc2 a8 :: some v :: r) st w Q := by
  subst hp'
  exact Wx_step hq hd (by cases v <;> first | (cases a8 <;> first | rfl | (next u => cases u <;> rfl)) | cases hv)
theorem w_iinc9 {x z : Int} {a0 a1 a2 a3 a4 a5 a6 a7 a8 : Option Value} (hq : xMc M = cc) (hd : decode cc pc = .ok (.iinc 9 z, 3)) (hp' : pc + 3 = pc') : Wx X d M pc (a0 :: a1 :: a2 :: a3 :: a4 :: a5 :: a6 :: a7 :: a8 :: some (.int (iI x)) :: r) st w Q = Wx X d M pc' (a0 :: a1 :: a2 :: a3 :: a4 :: a5 :: a6 :: a7 :: xc2 a8 :: some (.int (iI (x + z))) :: r) st w Q := by
  subst hp'
  exact Wx_step hq hd (by rw [← iI_add]; cases a8 <;> first | rfl | (next u => cases u <;> rfl))
theorem w_istore10 {x : Int32} {a0 a1 a2 a3 a4 a5 a6 a7 a8 a9 : Option Value} {y0 : Option Value} (hq : xMc M = cc) (hd : decode cc pc = .ok (.istore 10, 2)) (hp' : pc + 2 = pc') : Wx X d M pc (a0 :: a1 :: a2 :: a3 :: a4 :: a5 :: a6 :: a7 :: a8 :: a9 :: y0 :: r) (.int x :: st) w Q = Wx X d M pc' (a0 :: a1 :: a2 :: a3 :: a4 :: a5 :: a6 :: a7 :: a8 :: xc2 a9 :: some (.int x) :: r) st w Q := by
  subst hp'
  exact Wx_step hq hd (by cases a9 <;> first | rfl | (next u => cases u <;> rfl))
theorem w_lstore10 {x : Int64} {a0 a1 a2 a3 a4 a5 a6 a7 a8 a9 : Option Value} {y0 y1 : Option Value} (hq : xMc M = cc) (hd : decode cc pc = .ok (.lstore 10, 2)) (hp' : pc + 2 = pc') : Wx X d M pc (a0 :: a1 :: a2 :: a3 :: a4 :: a5 :: a6 :: a7 :: a8 :: a9 :: y0 :: y1 :: r) (.long x :: st) w Q = Wx X d M pc' (a0 :: a1 :: a2 :: a3 :: a4 :: a5 :: a6 :: a7 :: a8 :: xc2 a9 :: some (.long x) :: none :: r) st w Q := by
  subst hp'
  exact Wx_step hq hd (by cases a9 <;> first | rfl | (next u => cases u <;> rfl))
theorem w_dstore10 {x : UInt64} {a0 a1 a2 a3 a4 a5 a6 a7 a8 a9 : Option Value} {y0 y1 : Option Value} (hq : xMc M = cc) (hd : decode cc pc = .ok (.dstore 10, 2)) (hp' : pc + 2 = pc') : Wx X d M pc (a0 :: a1 :: a2 :: a3 :: a4 :: a5 :: a6 :: a7 :: a8 :: a9 :: y0 :: y1 :: r) (.double x :: st) w Q = Wx X d M pc' (a0 :: a1 :: a2 :: a3 :: a4 :: a5 :: a6 :: a7 :: a8 :: xc2 a9 :: some (.double x) :: none :: r) st w Q := by
  subst hp'
  exact Wx_step hq hd (by cases a9 <;> first | rfl | (next u => cases u <;> rfl))
theorem w_astore10 {v : Value} {a0 a1 a2 a3 a4 a5 a6 a7 a8 a9 : Option Value} {y0 : Option Value} (hq : xMc M = cc) (hd : decode cc pc = .ok (.astore 10, 2)) (hp' : pc + 2 = pc') (hv : xisa v = true) : Wx X d M pc (a0 :: a1 :: a2 :: a3 :: a4 :: a5 :: a6 :: a7 :: a8 :: a9 :: y0 :: r) (v :: st) w Q = Wx X d M pc' (a0 :: a1 :: a2 :: a3 :: a4 :: a5 :: a6 :: a7 :: a8 :: xc2 a9 :: some v :: r) st w Q := by
  subst hp'
  exact Wx_step hq hd (by cases v <;> first | (cases a9 <;> first | rfl | (next u => cases u <;> rfl)) | cases hv)
theorem w_iinc10 {x z : Int} {a0 a1 a2 a3 a4 a5 a6 a7 a8 a9 : Option Value} (hq : xMc M = cc) (hd : decode cc pc = .ok (.iinc 10 z, 3)) (hp' : pc + 3 = pc') : Wx X d M pc (a0 :: a1 :: a2 :: a3 :: a4 :: a5 :: a6 :: a7 :: a8 :: a9 :: some (.int (iI x)) :: r) st w Q = Wx X d M pc' (a0 :: a1 :: a2 :: a3 :: a4 :: a5 :: a6 :: a7 :: a8 :: xc2 a9 :: some (.int (iI (x + z))) :: r) st w Q := by
  subst hp'
  exact Wx_step hq hd (by rw [← iI_add]; cases a9 <;> first | rfl | (next u => cases u <;> rfl))
theorem w_istore11 {x : Int32} {a0 a1 a2 a3 a4 a5 a6 a7 a8 a9 a10 : Option Value} {y0 : Option Value} (hq : xMc M = cc) (hd : decode cc pc = .ok (.istore 11, 2)) (hp' : pc + 2 = pc') : Wx X d M pc (a0 :: a1 :: a2 :: a3 :: a4 :: a5 :: a6 :: a7 :: a8 :: a9 :: a10 :: y0 :: r) (.int x :: st) w Q = Wx X d M pc' (a0 :: a1 :: a2 :: a3 :: a4 :: a5 :: a6 :: a7 :: a8 :: a9 :: xc2 a10 :: some (.int x) :: r) st w Q := by
  subst hp'
  exact Wx_step hq hd (by cases a10 <;> first | rfl | (next u => cases u <;> rfl))
theorem w_lstore11 {x : Int64} {a0 a1 a2 a3 a4 a5 a6 a7 a8 a9 a10 : Option Value} {y0 y1 : Option Value} (hq : xMc M = cc) (hd : decode cc pc = .ok (.lstore 11, 2)) (hp' : pc + 2 = pc') : Wx X d M pc (a0 :: a1 :: a2 :: a3 :: a4 :: a5 :: a6 :: a7 :: a8 :: a9 :: a10 :: y0 :: y1 :: r) (.long x :: st) w Q = Wx X d M pc' (a0 :: a1 :: a2 :: a3 :: a4 :: a5 :: a6 :: a7 :: a8 :: a9 :: xc2 a10 :: some (.long x) :: none :: r) st w Q := by
  subst hp'
  exact Wx_step hq hd (by cases a10 <;> first | rfl | (next u => cases u <;> rfl))
theorem w_dstore11 {x : UInt64} {a0 a1 a2 a3 a4 a5 a6 a7 a8 a9 a10 : Option Value} {y0 y1 : Option Value} (hq : xMc M = cc) (hd : decode cc pc = .ok (.dstore 11, 2)) (hp' : pc + 2 = pc') : Wx X d M pc (a0 :: a1 :: a2 :: a3 :: a4 :: a5 :: a6 :: a7 :: a8 :: a9 :: a10 :: y0 :: y1 :: r) (.double x :: st) w Q = Wx X d M pc' (a0 :: a1 :: a2 :: a3 :: a4 :: a5 :: a6 :: a7 :: a8 :: a9 :: xc2 a10 :: some (.double x) :: none :: r) st w Q := by
  subst hp'
  exact Wx_step hq hd (by cases a10 <;> first | rfl | (next u => cases u <;> rfl))
theorem w_astore11 {v : Value} {a0 a1 a2 a3 a4 a5 a6 a7 a8 a9 a10 : Option Value} {y0 : Option Value} (hq : xMc M = cc) (hd : decode cc pc = .ok (.astore 11, 2)) (hp' : pc + 2 = pc') (hv : xisa v = true) : Wx X d M pc (a0 :: a1 :: a2 :: a3 :: a4 :: a5 :: a6 :: a7 :: a8 :: a9 :: a10 :: y0 :: r) (v :: st) w Q = Wx X d M pc' (a0 :: a1 :: a2 :: a3 :: a4 :: a5 :: a6 :: a7 :: a8 :: a9 :: xc2 a10 :: some v :: r) st w Q := by
  subst hp'
  exact Wx_step hq hd (by cases v <;> first | (cases a10 <;> first | rfl | (next u => cases u <;> rfl)) | cases hv)
theorem w_iinc11 {x z : Int} {a0 a1 a2 a3 a4 a5 a6 a7 a8 a9 a10 : Option Value} (hq : xMc M = cc) (hd : decode cc pc = .ok (.iinc 11 z, 3)) (hp' : pc + 3 = pc') : Wx X d M pc (a0 :: a1 :: a2 :: a3 :: a4 :: a5 :: a6 :: a7 :: a8 :: a9 :: a10 :: some (.int (iI x)) :: r) st w Q = Wx X d M pc' (a0 :: a1 :: a2 :: a3 :: a4 :: a5 :: a6 :: a7 :: a8 :: a9 :: xc2 a10 :: some (.int (iI (x + z))) :: r) st w Q := by
  subst hp'
  exact Wx_step hq hd (by rw [← iI_add]; cases a10 <;> first | rfl | (next u => cases u <;> rfl))
theorem w_istore12 {x : Int32} {a0 a1 a2 a3 a4 a5 a6 a7 a8 a9 a10 a11 : Option Value} {y0 : Option Value} (hq : xMc M = cc) (hd : decode cc pc = .ok (.istore 12, 2)) (hp' : pc + 2 = pc') : Wx X d M pc (a0 :: a1 :: a2 :: a3 :: a4 :: a5 :: a6 :: a7 :: a8 :: a9 :: a10 :: a11 :: y0 :: r) (.int x :: st) w Q = Wx X d M pc' (a0 :: a1 :: a2 :: a3 :: a4 :: a5 :: a6 :: a7 :: a8 :: a9 :: a10 :: xc2 a11 :: some (.int x) :: r) st w Q := by
  subst hp'
  exact Wx_step hq hd (by cases a11 <;> first | rfl | (next u => cases u <;> rfl))
theorem w_lstore12 {x : Int64} {a0 a1 a2 a3 a4 a5 a6 a7 a8 a9 a10 a11 : Option Value} {y0 y1 : Option Value} (hq : xMc M = cc) (hd : decode cc pc = .ok (.lstore 12, 2)) (hp' : pc + 2 = pc') : Wx X d M pc (a0 :: a1 :: a2 :: a3 :: a4 :: a5 :: a6 :: a7 :: a8 :: a9 :: a10 :: a11 :: y0 :: y1 :: r) (.long x :: st) w Q = Wx X d M pc' (a0 :: a1 :: a2 :: a3 :: a4 :: a5 :: a6 :: a7 :: a8 :: a9 :: a10 :: xc2 a11 :: some (.long x) :: none :: r) st w Q := by
  subst hp'
  exact Wx_step hq hd (by cases a11 <;> first | rfl | (next u => cases u <;> rfl))
theorem w_dstore12 {x : UInt64} {a0 a1 a2 a3 a4 a5 a6 a7 a8 a9 a10 a11 : Option Value} {y0 y1 : Option Value} (hq : xMc M = cc) (hd : decode cc pc = .ok (.dstore 12, 2)) (hp' : pc + 2 = pc') : Wx X d M pc (a0 :: a1 :: a2 :: a3 :: a4 :: a5 :: a6 :: a7 :: a8 :: a9 :: a10 :: a11 :: y0 :: y1 :: r) (.double x :: st) w Q = Wx X d M pc' (a0 :: a1 :: a2 :: a3 :: a4 :: a5 :: a6 :: a7 :: a8 :: a9 :: a10 :: xc2 a11 :: some (.double x) :: none :: r) st w Q := by
  subst hp'
  exact Wx_step hq hd (by cases a11 <;> first | rfl | (next u => cases u <;> rfl))
theorem w_astore12 {v : Value} {a0 a1 a2 a3 a4 a5 a6 a7 a8 a9 a10 a11 : Option Value} {y0 : Option Value} (hq : xMc M = cc) (hd : decode cc pc = .ok (.astore 12, 2)) (hp' : pc + 2 = pc') (hv : xisa v = true) : Wx X d M pc (a0 :: a1 :: a2 :: a3 :: a4 :: a5 :: a6 :: a7 :: a8 :: a9 :: a10 :: a11 :: y0 :: r) (v :: st) w Q = Wx X d M pc' (a0 :: a1 :: a2 :: a3 :: a4 :: a5 :: a6 :: a7 :: a8 :: a9 :: a10 :: xc2 a11 :: some v :: r) st w Q := by
  subst hp'
  exact Wx_step hq hd (by cases v <;> first | (cases a11 <;> first | rfl | (next u => cases u <;> rfl)) | cases hv)
theorem w_iinc12 {x z : Int} {a0 a1 a2 a3 a4 a5 a6 a7 a8 a9 a10 a11 : Option Value} (hq : xMc M = cc) (hd : decode cc pc = .ok (.iinc 12 z, 3)) (hp' : pc + 3 = pc') : Wx X d M pc (a0 :: a1 :: a2 :: a3 :: a4 :: a5 :: a6 :: a7 :: a8 :: a9 :: a10 :: a11 :: some (.int (iI x)) :: r) st w Q = Wx X d M pc' (a0 :: a1 :: a2 :: a3 :: a4 :: a5 :: a6 :: a7 :: a8 :: a9 :: a10 :: xc2 a11 :: some (.int (iI (x + z))) :: r) st w Q := by
  subst hp'
  exact Wx_step hq hd (by rw [← iI_add]; cases a11 <;> first | rfl | (next u => cases u <;> rfl))
theorem w_istore13 {x : Int32} {a0 a1 a2 a3 a4 a5 a6 a7 a8 a9 a10 a11 a12 : Option Value} {y0 : Option Value} (hq : xMc M = cc) (hd : decode cc pc = .ok (.istore 13, 2)) (hp' : pc + 2 = pc') : Wx X d M pc (a0 :: a1 :: a2 :: a3 :: a4 :: a5 :: a6 :: a7 :: a8 :: a9 :: a10 :: a11 :: a12 :: y0 :: r) (.int x :: st) w Q = Wx X d M pc' (a0 :: a1 :: a2 :: a3 :: a4 :: a5 :: a6 :: a7 :: a8 :: a9 :: a10 :: a11 :: xc2 a12 :: some (.int x) :: r) st w Q := by
  subst hp'
  exact Wx_step hq hd (by cases a12 <;> first | rfl | (next u => cases u <;> rfl))
theorem w_lstore13 {x : Int64} {a0 a1 a2 a3 a4 a5 a6 a7 a8 a9 a10 a11 a12 : Option Value} {y0 y1 : Option Value} (hq : xMc M = cc) (hd : decode cc pc = .ok (.lstore 13, 2)) (hp' : pc + 2 = pc') : Wx X d M pc (a0 :: a1 :: a2 :: a3 :: a4 :: a5 :: a6 :: a7 :: a8 :: a9 :: a10 :: a11 :: a12 :: y0 :: y1 :: r) (.long x :: st) w Q = Wx X d M pc' (a0 :: a1 :: a2 :: a3 :: a4 :: a5 :: a6 :: a7 :: a8 :: a9 :: a10 :: a11 :: xc2 a12 :: some (.long x) :: none :: r) st w Q := by
  subst hp'
  exact Wx_step hq hd (by cases a12 <;> first | rfl | (next u => cases u <;> rfl))
theorem w_dstore13 {x : UInt64} {a0 a1 a2 a3 a4 a5 a6 a7 a8 a9 a10 a11 a12 : Option Value} {y0 y1 : Option Value} (hq : xMc M = cc) (hd : decode cc pc = .ok (.dstore 13, 2)) (hp' : pc + 2 = pc') : Wx X d M pc (a0 :: a1 :: a2 :: a3 :: a4 :: a5 :: a6 :: a7 :: a8 :: a9 :: a10 :: a11 :: a12 :: y0 :: y1 :: r) (.double x :: st) w Q = Wx X d M pc' (a0 :: a1 :: a2 :: a3 :: a4 :: a5 :: a6 :: a7 :: a8 :: a9 :: a10 :: a11 :: xc2 a12 :: some (.double x) :: none :: r) st w Q := by
  subst hp'
  exact Wx_step hq hd (by cases a12 <;> first | rfl | (next u => cases u <;> rfl))
theorem w_astore13 {v : Value} {a0 a1 a2 a3 a4 a5 a6 a7 a8 a9 a10 a11 a12 : Option Value} {y0 : Option Value} (hq : xMc M = cc) (hd : decode cc pc = .ok (.astore 13, 2)) (hp' : pc + 2 = pc') (hv : xisa v = true) : Wx X d M pc (a0 :: a1 :: a2 :: a3 :: a4 :: a5 :: a6 :: a7 :: a8 :: a9 :: a10 :: a11 :: a12 :: y0 :: r) (v :: st) w Q = Wx X d M pc' (a0 :: a1 :: a2 :: a3 :: a4 :: a5 :: a6 :: a7 :: a8 :: a9 :: a10 :: a11 :: xc2 a12 :: some v :: r) st w Q := by
  subst hp'
  exact Wx_step hq hd (by cases v <;> first | (cases a12 <;> first | rfl | (next u => cases u <;> rfl)) | cases hv)
theorem w_iinc13 {x z : Int} {a0 a1 a2 a3 a4 a5 a6 a7 a8 a9 a10 a11 a12 : Option Value} (hq : xMc M = cc) (hd : decode cc pc = .ok (.iinc 13 z, 3)) (hp' : pc + 3 = pc') : Wx X d M pc (a0 :: a1 :: a2 :: a3 :: a4 :: a5 :: a6 :: a7 :: a8 :: a9 :: a10 :: a11 :: a12 :: some (.int (iI x)) :: r) st w Q = Wx X d M pc' (a0 :: a1 :: a2 :: a3 :: a4 :: a5 :: a6 :: a7 :: a8 :: a9 :: a10 :: a11 :: xc2 a12 :: some (.int (iI (x + z))) :: r) st w Q := by
  subst hp'
  exact Wx_step hq hd (by rw [← iI_add]; cases a12 <;> first | rfl | (next u => cases u <;> rfl))
theorem w_iadd {x y : Int} (hq : xMc M = cc) (hd : decode cc pc = .ok (.iadd, 1)) (hp' : pc + 1 = pc') : Wx X d M pc L (.int (iI y) :: .int (iI x) :: st) w Q = Wx X d M pc' L (.int (iI (x + y)) :: st) w Q := by
  subst hp'
  exact Wx_step hq hd (by rw [← iI_add]; rfl)
theorem w_isub {x y : Int} (hq : xMc M = cc) (hd : decode cc pc = .ok (.isub, 1)) (hp' : pc + 1 = pc') : Wx X d M pc L (.int (iI y) :: .int (iI x) :: st) w Q = Wx X d M pc' L (.int (iI (x - y)) :: st) w Q := by
  subst hp'
  exact Wx_step hq hd (by rw [← iI_sub]; rfl)
theorem w_imul {x y : Int} (hq : xMc M = cc) (hd : decode cc pc = .ok (.imul, 1)) (hp' : pc + 1 = pc') : Wx X d M pc L (.int (iI y) :: .int (iI x) :: st) w Q = Wx X d M pc' L (.int (iI (x * y)) :: st) w Q := by
  subst hp'
  exact Wx_step hq hd (by rw [← iI_mul]; rfl)
theorem w_ishr {x y : Int} (hq : xMc M = cc) (hd : decode cc pc = .ok (.ishr, 1)) (hp' : pc + 1 = pc') : Wx X d M pc L (.int (iI y) :: .int (iI x) :: st) w Q = Wx X d M pc' L (.int (iI (xshr x y)) :: st) w Q := by
  subst hp'
  exact Wx_step hq hd (by unfold xshr; rw [iI_of]; rfl)
theorem w_iand {x y : Int} (hq : xMc M = cc) (hd : decode cc pc = .ok (.iand, 1)) (hp' : pc + 1 = pc') : Wx X d M pc L (.int (iI y) :: .int (iI x) :: st) w Q = Wx X d M pc' L (.int (iI (xand x y)) :: st) w Q := by
  subst hp'
  exact Wx_step hq hd (by unfold xand; rw [iI_of]; rfl)
theorem w_idiv {x y : Int} (hq : xMc M = cc) (hd : decode cc pc = .ok (.idiv, 1)) (hp' : pc + 1 = pc') : Wx X d M pc L (.int (iI y) :: .int (iI x) :: st) w Q = (¬ ti y = 0 ∧ Wx X d M pc' L (.int (iI (xdiv x y)) :: st) w Q) := by
  subst hp'
  have h0 : (iI y = 0) ↔ ti y = 0 := by rw [show (0 : Int32) = iI 0 from rfl, iI_eq, ti_eq (z := 0) (by decide) (by decide)]
  refine w_and (fun h => ?_) (fun h => ?_)
  · rw [← h0] at h
    exact Wx_step hq hd (by unfold xdiv; rw [iI_of]; simp [xone, xk, xi2, h])
  · have h : iI y = 0 := h0.mpr (Classical.not_not.mp h)
    exact Wx_no hq hd (by simp [xone, xk, xi2, h]) (fun _ => rfl)
theorem w_irem {x y : Int} (hq : xMc M = cc) (hd : decode cc pc = .ok (.irem, 1)) (hp' : pc + 1 = pc') : Wx X d M pc L (.int (iI y) :: .int (iI x) :: st) w Q = (¬ ti y = 0 ∧ Wx X d M pc' L (.int (iI (xrem x y)) :: st) w Q) := by
  subst hp'
  have h0 : (iI y = 0) ↔ ti y = 0 := by rw [show (0 : Int32) = iI 0 from rfl, iI_eq, ti_eq (z := 0) (by decide) (by decide)]
  refine w_and (fun h => ?_) (fun h => ?_)
  · rw [← h0] at h
    exact Wx_step hq hd (by unfold xrem xdiv; rw [← iI_sub, ← iI_mul, iI_of]; simp [xone, xk, xi2, h])
  · have h : iI y = 0 := h0.mpr (Classical.not_not.mp h)
    exact Wx_no hq hd (by simp [xone, xk, xi2, h]) (fun _ => rfl)
theorem w_ineg {x : Int} (hq : xMc M = cc) (hd : decode cc pc = .ok (.ineg, 1)) (hp' : pc + 1 = pc') : Wx X d M pc L (.int (iI x) :: st) w Q = Wx X d M pc' L (.int (iI (-x)) :: st) w Q := by
  subst hp'
  exact Wx_step hq hd (by rw [← iI_neg]; rfl)
theorem w_i2l {x : Int} (hq : xMc M = cc) (hd : decode cc pc = .ok (.i2l, 1)) (hp' : pc + 1 = pc') : Wx X d M pc L (.int (iI x) :: st) w Q = Wx X d M pc' L (.long (lI (xi2l x)) :: st) w Q := by
  subst hp'
  exact Wx_step hq hd (by unfold xi2l; rw [lI_of]; rfl)
theorem w_l2i {x : Int} (hq : xMc M = cc) (hd : decode cc pc = .ok (.l2i, 1)) (hp' : pc + 1 = pc') : Wx X d M pc L (.long (lI x) :: st) w Q = Wx X d M pc' L (.int (iI (xl2i x)) :: st) w Q := by
  subst hp'
  exact Wx_step hq hd (by unfold xl2i; rw [iI_of]; rfl)
theorem w_i2b {x : Int} (hq : xMc M = cc) (hd : decode cc pc = .ok (.i2b, 1)) (hp' : pc + 1 = pc') : Wx X d M pc L (.int (iI x) :: st) w Q = Wx X d M pc' L (.int (iI (xnb x)) :: st) w Q := by
  subst hp'
  exact Wx_step hq hd (by unfold xnb; rw [iI_of]; rfl)
theorem w_i2c {x : Int} (hq : xMc M = cc) (hd : decode cc pc = .ok (.i2c, 1)) (hp' : pc + 1 = pc') : Wx X d M pc L (.int (iI x) :: st) w Q = Wx X d M pc' L (.int (iI (xnc x)) :: st) w Q := by
  subst hp'
  exact Wx_step hq hd (by unfold xnc; rw [iI_of]; rfl)
theorem w_i2d {x : Int32} (hq : xMc M = cc) (hd : decode cc pc = .ok (.i2d, 1)) (hp' : pc + 1 = pc') : Wx X d M pc L (.int x :: st) w Q = Wx X d M pc' L (.double (FP.i2d x) :: st) w Q := by
  subst hp'
  exact Wx_step hq hd (rfl)
theorem w_l2d {x : Int64} (hq : xMc M = cc) (hd : decode cc pc = .ok (.l2d, 1)) (hp' : pc + 1 = pc') : Wx X d M pc L (.long x :: st) w Q = Wx X d M pc' L (.double (FP.l2d x) :: st) w Q := by
  subst hp'
  exact Wx_step hq hd (rfl)
theorem w_ladd {x y : Int} (hq : xMc M = cc) (hd : decode cc pc = .ok (.ladd, 1)) (hp' : pc + 1 = pc') : Wx X d M pc L (.long (lI y) :: .long (lI x) :: st) w Q = Wx X d M pc' L (.long (lI (x + y)) :: st) w Q := by
  subst hp'
  exact Wx_step hq hd (by rw [← lI_add]; rfl)
theorem w_lsub {x y : Int} (hq : xMc M = cc) (hd : decode cc pc = .ok (.lsub, 1)) (hp' : pc + 1 = pc') : Wx X d M pc L (.long (lI y) :: .long (lI x) :: st) w Q = Wx X d M pc' L (.long (lI (x - y)) :: st) w Q := by
  subst hp'
  exact Wx_step hq hd (by rw [← lI_sub]; rfl)
theorem w_lmul {x y : Int} (hq : xMc M = cc) (hd : decode cc pc = .ok (.lmul, 1)) (hp' : pc + 1 = pc') : Wx X d M pc L (.long (lI y) :: .long (lI x) :: st) w Q = Wx X d M pc' L (.long (lI (x * y)) :: st) w Q := by
  subst hp'
  exact Wx_step hq hd (by rw [← lI_mul]; rfl)
theorem w_land {x y : Int} (hq : xMc M = cc) (hd : decode cc pc = .ok (.land, 1)) (hp' : pc + 1 = pc') : Wx X d M pc L (.long (lI y) :: .long (lI x) :: st) w Q = Wx X d M pc' L (.long (lI (lan x y)) :: st) w Q := by
  subst hp'
  exact Wx_step hq hd (by unfold lan; rw [lI_of]; rfl)
theorem w_lor {x y : Int} (hq : xMc M = cc) (hd : decode cc pc = .ok (.lor, 1)) (hp' : pc + 1 = pc') : Wx X d M pc L (.long (lI y) :: .long (lI x) :: st) w Q = Wx X d M pc' L (.long (lI (lor' x y)) :: st) w Q := by
  subst hp'
  exact Wx_step hq hd (by unfold lor'; rw [lI_of]; rfl)
theorem w_lxor {x y : Int} (hq : xMc M = cc) (hd : decode cc pc = .ok (.lxor, 1)) (hp' : pc + 1 = pc') : Wx X d M pc L (.long (lI y) :: .long (lI x) :: st) w Q = Wx X d M pc' L (.long (lI (lxo x y)) :: st) w Q := by
  subst hp'
  exact Wx_step hq hd (by unfold lxo; rw [lI_of]; rfl)
theorem w_ldiv {x y : Int} (hq : xMc M = cc) (hd : decode cc pc = .ok (.ldiv, 1)) (hp' : pc + 1 = pc') : Wx X d M pc L (.long (lI y) :: .long (lI x) :: st) w Q = (¬ tl y = 0 ∧ Wx X d M pc' L (.long (lI (ldv x y)) :: st) w Q) := by
  subst hp'
  have h0 : (lI y = 0) ↔ tl y = 0 := by rw [show (0 : Int64) = lI 0 from rfl, lI_eq, tl_eq (z := 0) (by decide) (by decide)]
  refine w_and (fun h => ?_) (fun h => ?_)
  · rw [← h0] at h
    exact Wx_step hq hd (by unfold ldv; rw [lI_of]; simp [xone, xk, xl2, h])
  · have h : lI y = 0 := h0.mpr (Classical.not_not.mp h)
    exact Wx_no hq hd (by simp [xone, xk, xl2, h]) (fun _ => rfl)
theorem w_lneg {x : Int} (hq : xMc M = cc) (hd : decode cc pc = .ok (.lneg, 1)) (hp' : pc + 1 = pc') : Wx X d M pc L (.long (lI x) :: st) w Q = Wx X d M pc' L (.long (lI (-x)) :: st) w Q := by
  subst hp'
  exact Wx_step hq hd (by rw [← lI_neg]; rfl)
theorem w_lcmp {x y : Int} (hq : xMc M = cc) (hd : decode cc pc = .ok (.lcmp, 1)) (hp' : pc + 1 = pc') : Wx X d M pc L (.long (lI y) :: .long (lI x) :: st) w Q = Wx X d M pc' L (.int (iI (lcm x y)) :: st) w Q := by
  subst hp'
  exact Wx_step hq hd (by rw [← xcmpL_eq]; rfl)
theorem w_lshl {x y : Int} (hq : xMc M = cc) (hd : decode cc pc = .ok (.lshl, 1)) (hp' : pc + 1 = pc') : Wx X d M pc L (.int (iI y) :: .long (lI x) :: st) w Q = Wx X d M pc' L (.long (lI (lsl x y)) :: st) w Q := by
  subst hp'
  exact Wx_step hq hd (by unfold lsl; rw [lI_of]; rfl)
theorem w_lshr {x y : Int} (hq : xMc M = cc) (hd : decode cc pc = .ok (.lshr, 1)) (hp' : pc + 1 = pc') : Wx X d M pc L (.int (iI y) :: .long (lI x) :: st) w Q = Wx X d M pc' L (.long (lI (lsr x y)) :: st) w Q := by
  subst hp'
  exact Wx_step hq hd (by unfold lsr; rw [lI_of]; rfl)
theorem w_lushr {x y : Int} (hq : xMc M = cc) (hd : decode cc pc = .ok (.lushr, 1)) (hp' : pc + 1 = pc') : Wx X d M pc L (.int (iI y) :: .long (lI x) :: st) w Q = Wx X d M pc' L (.long (lI (lus x y)) :: st) w Q := by
  subst hp'
  exact Wx_step hq hd (by unfold lus; rw [lI_of]; rfl)
theorem w_ddiv {x y : UInt64} (hq : xMc M = cc) (hd : decode cc pc = .ok (.ddiv, 1)) (hp' : pc + 1 = pc') : Wx X d M pc L (.double y :: .double x :: st) w Q = (FP.ddiv x y &&& 0x7fffffffffffffff ≤ 0x7ff0000000000000 ∧ Wx X d M pc' L (.double (FP.ddiv x y) :: st) w Q) := by
  subst hp'
  refine w_and (fun h => ?_) (fun h => ?_)
  · exact Wx_step hq hd (by simp [xone, xk, h])
  · exact Wx_no hq hd (by simp [xone, xk, h]) (fun _ => rfl)
theorem w_dcmp {x y : UInt64} {op : CmpOp} (hq : xMc M = cc) (hd : decode cc pc = .ok (.dcmp op, 1)) (hp' : pc + 1 = pc') : Wx X d M pc L (.double y :: .double x :: st) w Q = Wx X d M pc' L (.int (Op.cmpValue (FP.dcmp x y) op) :: st) w Q := by
  subst hp'
  exact Wx_step hq hd (rfl)
theorem w_dup {v : Value} (hq : xMc M = cc) (hd : decode cc pc = .ok (.dup, 1)) (hp' : pc + 1 = pc') (hv : xc1 v = true) : Wx X d M pc L (v :: st) w Q = Wx X d M pc' L (v :: v :: st) w Q := by
  subst hp'
  exact Wx_step hq hd (by simp [xone, xk, hv])
theorem w_pop {v : Value} (hq : xMc M = cc) (hd : decode cc pc = .ok (.pop, 1)) (hp' : pc + 1 = pc') (hv : xc1 v = true) : Wx X d M pc L (v :: st) w Q = Wx X d M pc' L st w Q := by
  subst hp'
  exact Wx_step hq hd (by simp [xone, xk, hv])
theorem w_dup_x1 {v u : Value} (hq : xMc M = cc) (hd : decode cc pc = .ok (.dup_x1, 1)) (hp' : pc + 1 = pc') (hv : xc1 v = true) (hu : xc1 u = true) : Wx X d M pc L (v :: u :: st) w Q = Wx X d M pc' L (v :: u :: v :: st) w Q := by
  subst hp'
  exact Wx_step hq hd (by simp [xone, xk, hv, hu])
theorem w_dup2 {v u : Value} (hq : xMc M = cc) (hd : decode cc pc = .ok (.dup2, 1)) (hp' : pc + 1 = pc') (hv : xc1 v = true) (hu : xc1 u = true) : Wx X d M pc L (v :: u :: st) w Q = Wx X d M pc' L (v :: u :: v :: u :: st) w Q := by
  subst hp'
  exact Wx_step hq hd (by simp [xone, xk, hv, hu])
theorem w_goto {off : Int} (hq : xMc M = cc) (hd : decode cc pc = .ok (.goto off, 3)) (ht : (pc : Int) + off = (tg : Int)) : Wx X d M pc L st w Q = Wx X d M tg L st w Q :=
  Wx_step hq hd (by simp only [xone, xk, xjp, ht]; rfl)
theorem w_if_eq {off : Int} {x : Int} (hq : xMc M = cc) (hd : decode cc pc = .ok (.ifCond .eq off, 3)) (ht : (pc : Int) + off = (tg : Int)) (hp' : pc + 3 = pc') : Wx X d M pc L (.int (iI x) :: st) w Q = if ti x = 0 then Wx X d M tg L st w Q else Wx X d M pc' L st w Q := by
  subst hp'
  have h0 : xcmp .eq (iI x) 0 = true ↔ ti x = 0 := by
    rw [show (0 : Int32) = iI 0 from rfl]
    simp only [xcmp, Bool.not_eq_true', beq_eq_false_iff_ne, ne_eq, beq_iff_eq, decide_eq_true_eq, iI_eq, iI_lt, iI_le, ti_eq (z := 0) (by decide) (by decide)]
  by_cases h : ti x = 0
  · rw [if_pos h]; exact Wx_step hq hd (by simp only [xone, xk, xbr, ht, h0.mpr h]; rfl)
  · rw [if_neg h]; exact Wx_step hq hd (by simp only [xone, xk, xbr, ht, mt h0.mp h]; rfl)
theorem w_if_ne {off : Int} {x : Int} (hq : xMc M = cc) (hd : decode cc pc = .ok (.ifCond .ne off, 3)) (ht : (pc : Int) + off = (tg : Int)) (hp' : pc + 3 = pc') : Wx X d M pc L (.int (iI x) :: st) w Q = if ¬ ti x = 0 then Wx X d M tg L st w Q else Wx X d M pc' L st w Q := by
  subst hp'
  have h0 : xcmp .ne (iI x) 0 = true ↔ ¬ ti x = 0 := by
    rw [show (0 : Int32) = iI 0 from rfl]
    simp only [xcmp, Bool.not_eq_true', beq_eq_false_iff_ne, ne_eq, beq_iff_eq, decide_eq_true_eq, iI_eq, iI_lt, iI_le, ti_eq (z := 0) (by decide) (by decide)]
  by_cases h : ¬ ti x = 0
  · rw [if_pos h]; exact Wx_step hq hd (by simp only [xone, xk, xbr, ht, h0.mpr h]; rfl)
  · rw [if_neg h]; exact Wx_step hq hd (by simp only [xone, xk, xbr, ht, mt h0.mp h]; rfl)
theorem w_if_lt {off : Int} {x : Int} (hq : xMc M = cc) (hd : decode cc pc = .ok (.ifCond .lt off, 3)) (ht : (pc : Int) + off = (tg : Int)) (hp' : pc + 3 = pc') : Wx X d M pc L (.int (iI x) :: st) w Q = if ti x < 0 then Wx X d M tg L st w Q else Wx X d M pc' L st w Q := by
  subst hp'
  have h0 : xcmp .lt (iI x) 0 = true ↔ ti x < 0 := by
    rw [show (0 : Int32) = iI 0 from rfl]
    simp only [xcmp, Bool.not_eq_true', beq_eq_false_iff_ne, ne_eq, beq_iff_eq, decide_eq_true_eq, iI_eq, iI_lt, iI_le, ti_eq (z := 0) (by decide) (by decide)]
  by_cases h : ti x < 0
  · rw [if_pos h]; exact Wx_step hq hd (by simp only [xone, xk, xbr, ht, h0.mpr h]; rfl)
  · rw [if_neg h]; exact Wx_step hq hd (by simp only [xone, xk, xbr, ht, mt h0.mp h]; rfl)
theorem w_if_ge {off : Int} {x : Int} (hq : xMc M = cc) (hd : decode cc pc = .ok (.ifCond .ge off, 3)) (ht : (pc : Int) + off = (tg : Int)) (hp' : pc + 3 = pc') : Wx X d M pc L (.int (iI x) :: st) w Q = if 0 ≤ ti x then Wx X d M tg L st w Q else Wx X d M pc' L st w Q := by
  subst hp'
  have h0 : xcmp .ge (iI x) 0 = true ↔ 0 ≤ ti x := by
    rw [show (0 : Int32) = iI 0 from rfl]
    simp only [xcmp, Bool.not_eq_true', beq_eq_false_iff_ne, ne_eq, beq_iff_eq, decide_eq_true_eq, iI_eq, iI_lt, iI_le, ti_eq (z := 0) (by decide) (by decide)]
  by_cases h : 0 ≤ ti x
  · rw [if_pos h]; exact Wx_step hq hd (by simp only [xone, xk, xbr, ht, h0.mpr h]; rfl)
  · rw [if_neg h]; exact Wx_step hq hd (by simp only [xone, xk, xbr, ht, mt h0.mp h]; rfl)
theorem w_if_gt {off : Int} {x : Int} (hq : xMc M = cc) (hd : decode cc pc = .ok (.ifCond .gt off, 3)) (ht : (pc : Int) + off = (tg : Int)) (hp' : pc + 3 = pc') : Wx X d M pc L (.int (iI x) :: st) w Q = if 0 < ti x then Wx X d M tg L st w Q else Wx X d M pc' L st w Q := by
  subst hp'
  have h0 : xcmp .gt (iI x) 0 = true ↔ 0 < ti x := by
    rw [show (0 : Int32) = iI 0 from rfl]
    simp only [xcmp, Bool.not_eq_true', beq_eq_false_iff_ne, ne_eq, beq_iff_eq, decide_eq_true_eq, iI_eq, iI_lt, iI_le, ti_eq (z := 0) (by decide) (by decide)]
  by_cases h : 0 < ti x
  · rw [if_pos h]; exact Wx_step hq hd (by simp only [xone, xk, xbr, ht, h0.mpr h]; rfl)
  · rw [if_neg h]; exact Wx_step hq hd (by simp only [xone, xk, xbr, ht, mt h0.mp h]; rfl)
theorem w_if_le {off : Int} {x : Int} (hq : xMc M = cc) (hd : decode cc pc = .ok (.ifCond .le off, 3)) (ht : (pc : Int) + off = (tg : Int)) (hp' : pc + 3 = pc') : Wx X d M pc L (.int (iI x) :: st) w Q = if ti x ≤ 0 then Wx X d M tg L st w Q else Wx X d M pc' L st w Q := by
  subst hp'
  have h0 : xcmp .le (iI x) 0 = true ↔ ti x ≤ 0 := by
    rw [show (0 : Int32) = iI 0 from rfl]
    simp only [xcmp, Bool.not_eq_true', beq_eq_false_iff_ne, ne_eq, beq_iff_eq, decide_eq_true_eq, iI_eq, iI_lt, iI_le, ti_eq (z := 0) (by decide) (by decide)]
  by_cases h : ti x ≤ 0
  · rw [if_pos h]; exact Wx_step hq hd (by simp only [xone, xk, xbr, ht, h0.mpr h]; rfl)
  · rw [if_neg h]; exact Wx_step hq hd (by simp only [xone, xk, xbr, ht, mt h0.mp h]; rfl)
theorem w_icmp_eq {off : Int} {x y : Int} (hq : xMc M = cc) (hd : decode cc pc = .ok (.if_icmp .eq off, 3)) (ht : (pc : Int) + off = (tg : Int)) (hp' : pc + 3 = pc') : Wx X d M pc L (.int (iI y) :: .int (iI x) :: st) w Q = if ti x = ti y then Wx X d M tg L st w Q else Wx X d M pc' L st w Q := by
  subst hp'
  have h0 : xcmp .eq (iI x) (iI y) = true ↔ ti x = ti y := by
    simp only [xcmp, Bool.not_eq_true', beq_eq_false_iff_ne, ne_eq, beq_iff_eq, decide_eq_true_eq, iI_eq, iI_lt, iI_le]
  by_cases h : ti x = ti y
  · rw [if_pos h]; exact Wx_step hq hd (by simp only [xone, xk, xbr, ht, h0.mpr h]; rfl)
  · rw [if_neg h]; exact Wx_step hq hd (by simp only [xone, xk, xbr, ht, mt h0.mp h]; rfl)
theorem w_icmp_ne {off : Int} {x y : Int} (hq : xMc M = cc) (hd : decode cc pc = .ok (.if_icmp .ne off, 3)) (ht : (pc : Int) + off = (tg : Int)) (hp' : pc + 3 = pc') : Wx X d M pc L (.int (iI y) :: .int (iI x) :: st) w Q = if ¬ ti x = ti y then Wx X d M tg L st w Q else Wx X d M pc' L st w Q := by
  subst hp'
  have h0 : xcmp .ne (iI x) (iI y) = true ↔ ¬ ti x = ti y := by
    simp only [xcmp, Bool.not_eq_true', beq_eq_false_iff_ne, ne_eq, beq_iff_eq, decide_eq_true_eq, iI_eq, iI_lt, iI_le]
  by_cases h : ¬ ti x = ti y
  · rw [if_pos h]; exact Wx_step hq hd (by simp only [xone, xk, xbr, ht, h0.mpr h]; rfl)
  · rw [if_neg h]; exact Wx_step hq hd (by simp only [xone, xk, xbr, ht, mt h0.mp h]; rfl)
theorem w_icmp_lt {off : Int} {x y : Int} (hq : xMc M = cc) (hd : decode cc pc = .ok (.if_icmp .lt off, 3)) (ht : (pc : Int) + off = (tg : Int)) (hp' : pc + 3 = pc') : Wx X d M pc L (.int (iI y) :: .int (iI x) :: st) w Q = if ti x < ti y then Wx X d M tg L st w Q else Wx X d M pc' L st w Q := by
  subst hp'
  have h0 : xcmp .lt (iI x) (iI y) = true ↔ ti x < ti y := by
    simp only [xcmp, Bool.not_eq_true', beq_eq_false_iff_ne, ne_eq, beq_iff_eq, decide_eq_true_eq, iI_eq, iI_lt, iI_le]
  by_cases h : ti x < ti y
  · rw [if_pos h]; exact Wx_step hq hd (by simp only [xone, xk, xbr, ht, h0.mpr h]; rfl)
  · rw [if_neg h]; exact Wx_step hq hd (by simp only [xone, xk, xbr, ht, mt h0.mp h]; rfl)
theorem w_icmp_ge {off : Int} {x y : Int} (hq : xMc M = cc) (hd : decode cc pc = .ok (.if_icmp .ge off, 3)) (ht : (pc : Int) + off = (tg : Int)) (hp' : pc + 3 = pc') : Wx X d M pc L (.int (iI y) :: .int (iI x) :: st) w Q = if ti y ≤ ti x then Wx X d M tg L st w Q else Wx X d M pc' L st w Q := by
  subst hp'
  have h0 : xcmp .ge (iI x) (iI y) = true ↔ ti y ≤ ti x := by
    simp only [xcmp, Bool.not_eq_true', beq_eq_false_iff_ne, ne_eq, beq_iff_eq, decide_eq_true_eq, iI_eq, iI_lt, iI_le]
  by_cases h : ti y ≤ ti x
  · rw [if_pos h]; exact Wx_step hq hd (by simp only [xone, xk, xbr, ht, h0.mpr h]; rfl)
  · rw [if_neg h]; exact Wx_step hq hd (by simp only [xone, xk, xbr, ht, mt h0.mp h]; rfl)
theorem w_icmp_gt {off : Int} {x y : Int} (hq : xMc M = cc) (hd : decode cc pc = .ok (.if_icmp .gt off, 3)) (ht : (pc : Int) + off = (tg : Int)) (hp' : pc + 3 = pc') : Wx X d M pc L (.int (iI y) :: .int (iI x) :: st) w Q = if ti y < ti x then Wx X d M tg L st w Q else Wx X d M pc' L st w Q := by
  subst hp'
  have h0 : xcmp .gt (iI x) (iI y) = true ↔ ti y < ti x := by
    simp only [xcmp, Bool.not_eq_true', beq_eq_false_iff_ne, ne_eq, beq_iff_eq, decide_eq_true_eq, iI_eq, iI_lt, iI_le]
  by_cases h : ti y < ti x
  · rw [if_pos h]; exact Wx_step hq hd (by simp only [xone, xk, xbr, ht, h0.mpr h]; rfl)
  · rw [if_neg h]; exact Wx_step hq hd (by simp only [xone, xk, xbr, ht, mt h0.mp h]; rfl)
theorem w_icmp_le {off : Int} {x y : Int} (hq : xMc M = cc) (hd : decode cc pc = .ok (.if_icmp .le off, 3)) (ht : (pc : Int) + off = (tg : Int)) (hp' : pc + 3 = pc') : Wx X d M pc L (.int (iI y) :: .int (iI x) :: st) w Q = if ti x ≤ ti y then Wx X d M tg L st w Q else Wx X d M pc' L st w Q := by
  subst hp'
  have h0 : xcmp .le (iI x) (iI y) = true ↔ ti x ≤ ti y := by
    simp only [xcmp, Bool.not_eq_true', beq_eq_false_iff_ne, ne_eq, beq_iff_eq, decide_eq_true_eq, iI_eq, iI_lt, iI_le]
  by_cases h : ti x ≤ ti y
  · rw [if_pos h]; exact Wx_step hq hd (by simp only [xone, xk, xbr, ht, h0.mpr h]; rfl)
  · rw [if_neg h]; exact Wx_step hq hd (by simp only [xone, xk, xbr, ht, mt h0.mp h]; rfl)
theorem w_ifnn_null {off : Int} (hq : xMc M = cc) (hd : decode cc pc = .ok (.ifnonnull off, 3)) (hp' : pc + 3 = pc') : Wx X d M pc L (.null :: st) w Q = Wx X d M pc' L st w Q := by
  subst hp'; exact Wx_step hq hd rfl
theorem w_ifnn_ref {off : Int} {a : Nat} (hq : xMc M = cc) (hd : decode cc pc = .ok (.ifnonnull off, 3)) (ht : (pc : Int) + off = (tg : Int)) : Wx X d M pc L (.ref a :: st) w Q = Wx X d M tg L st w Q :=
  Wx_step hq hd (by simp only [xone, xk, xjp, ht]; rfl)
theorem w_ifnn_ra {off : Int} {a : Nat} (hq : xMc M = cc) (hd : decode cc pc = .ok (.ifnonnull off, 3)) (ht : (pc : Int) + off = (tg : Int)) : Wx X d M pc L (.retAddr a :: st) w Q = Wx X d M tg L st w Q :=
  Wx_step hq hd (by simp only [xone, xk, xjp, ht]; rfl)
theorem w_tsw {z lo hi : Int} {offs : Array Int} {x : Int} {len : Nat} (hq : xMc M = cc) (hd : decode cc pc = .ok (.tableswitch z lo hi offs, len)) (tgs : List Nat) (df : Nat) (hz : (pc : Int) + z = (df : Int)) (ho : offs.toList.map (fun o => (pc : Int) + o) = tgs.map (fun t : Nat => (t : Int))) (hn : hi - lo + 1 = (tgs.length : Int)) :
    Wx X d M pc L (.int (iI x) :: st) w Q = if ti x < lo ∨ hi < ti x then Wx X d M df L st w Q else Wx X d M (tgs.getD (ti x - lo).toNat 0) L st w Q := by
  by_cases h : ti x < lo ∨ hi < ti x
  · rw [if_pos h]
    refine Wx_step hq hd ?_
    simp only [xone]
    rw [show (iI x).toInt = ti x from rfl, if_pos h]
    simp only [xjp, hz]
  · rw [if_neg h]
    refine Wx_step hq hd ?_
    simp only [xone]
    rw [show (iI x).toInt = ti x from rfl, if_neg h]
    have hlt : (ti x - lo).toNat < tgs.length := by omega
    have hl : offs.toList.length = tgs.length := by have := congrArg List.length ho; simpa using this
    have hlt2 : (ti x - lo).toNat < offs.toList.length := by omega
    have he : (pc : Int) + offs.toList[(ti x - lo).toNat] = ((tgs[(ti x - lo).toNat] : Nat) : Int) := by
      have := congrArg (fun l => l[(ti x - lo).toNat]?) ho
      simp only [List.getElem?_map, List.getElem?_eq_getElem hlt, List.getElem?_eq_getElem hlt2, Option.map_some] at this
      exact Option.some.inj this
    rw [show offs[(ti x - lo).toNat]? = some offs.toList[(ti x - lo).toNat] by rw [← Array.getElem?_toList, List.getElem?_eq_getElem hlt2]]
    simp only [xjp, he]
    rw [List.getD_eq_getElem?_getD, List.getElem?_eq_getElem hlt]
    rfl
theorem w_lsw {z : Int} {ps : Array (Int × Int)} {x : Int} {len : Nat} (hq : xMc M = cc) (hd : decode cc pc = .ok (.lookupswitch z ps, len)) (hs : (ps.toList.zip (ps.toList.drop 1)).all (fun (a, next) => a.1 < next.1) = true) (tf : Int → Nat) (hf : ∀ y : Int, (pc : Int) + Op.lookupswitch.offset ps.toList z y = (tf y : Int)) :
    Wx X d M pc L (.int (iI x) :: st) w Q = Wx X d M (tf (ti x)) L st w Q := by
  refine Wx_step hq hd ?_
  simp only [xone, xk, hs, if_true]
  rw [show (iI x).toInt = ti x from rfl]
  simp only [xjp, hf]
end
