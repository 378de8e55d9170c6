/-! THE LIGHT MACHINE: the bytecode over a plain heap of its own; 06 shows once that the machine of the Statement does what it does -/
section
abbrev xE : Type := (Nat × vp_A) ⊕ (Nat × List Value)
/-- how many cells, the cells, how many were made, how many slots -/
abbrev xH : Type := Nat × (Nat → xE) × Nat × Nat
abbrev xL : Type := List (Option Value)
/-- what comes of a call: a value, or which exception -/
abbrev xO : Type := Option Value ⊕ Nat
/-- the script's length, its ints, whether the static formatter is null -/
abbrev xX : Type := Nat × (Nat → Int32) × Bool
abbrev xR : Type := Nat × xL × List Value × xH
def xat (W : xH) (a : Nat) : xE := W.2.1 a
def xpt (W : xH) (a : Nat) (e : xE) : xH := (W.1, fun k => if k = a then e else W.2.1 k, W.2.2.1, W.2.2.2)
def xal (W : xH) (e : xE) (n : Nat) : xH := (W.1 + 1, fun k => if k = W.1 then e else W.2.1 k, W.2.2.1 + 1, W.2.2.2 + n)
/-- an exception is made beside the cells -/
def xex (W : xH) : xH := (W.1, W.2.1, W.2.2.1 + 1, W.2.2.2 + 6)
def xk {α : Type} (b : Bool) (r : Option α) : Option α := if b = true then r else none
def xld (L : xL) (i : Nat) : Option Value := L.getD i none
def xcl (L : xL) (i : Nat) : xL := match i with
  | 0 => L
  | j + 1 => match L.getD j none with
    | some v => if v.category = 2 then L.set j none else L
    | none => L
def xst (L : xL) (i : Nat) (v : Value) : xL := (xcl L i).set i (some v)
def xst2 (L : xL) (i : Nat) (v : Value) : xL := ((xcl L i).set i (some v)).set (i + 1) none
def xsum (st : List Value) : Nat := (st.map fun v => v.category).sum
/-- loads: int, long, double, reference -/
def xldi (L : xL) (i : Nat) (st : List Value) : Option (List Value) := match xld L i with | some (.int x) => some (.int x :: st) | _ => none
def xldl (L : xL) (i : Nat) (st : List Value) : Option (List Value) := match xld L i with | some (.long x) => some (.long x :: st) | _ => none
def xldd (L : xL) (i : Nat) (st : List Value) : Option (List Value) := match xld L i with | some (.double x) => some (.double x :: st) | _ => none
def xlda (L : xL) (i : Nat) (st : List Value) : Option (List Value) := match xld L i with
  | some (.ref x) => some (.ref x :: st)
  | some (.retAddr x) => some (.retAddr x :: st)
  | some .null => some (.null :: st)
  | _ => none
def xsti (L : xL) (i : Nat) (st : List Value) : Option (xL × List Value) := match st with | .int x :: r => xk (i < L.length) (some (xst L i (.int x), r)) | _ => none
def xstl (L : xL) (i : Nat) (st : List Value) : Option (xL × List Value) := match st with | .long x :: r => xk (i + 1 < L.length) (some (xst2 L i (.long x), r)) | _ => none
def xstd (L : xL) (i : Nat) (st : List Value) : Option (xL × List Value) := match st with | .double x :: r => xk (i + 1 < L.length) (some (xst2 L i (.double x), r)) | _ => none
def xsta (L : xL) (i : Nat) (st : List Value) : Option (xL × List Value) := match st with
  | .ref x :: r => xk (i < L.length) (some (xst L i (.ref x), r))
  | .retAddr x :: r => xk (i < L.length) (some (xst L i (.retAddr x), r))
  | .null :: r => xk (i < L.length) (some (xst L i .null, r))
  | _ => none
/-- on the stack: ints, longs -/
def xi1 (f : Int32 → Value) (st : List Value) : Option (List Value) := match st with | .int x :: r => some (f x :: r) | _ => none
def xi2 (f : Int32 → Int32 → Option Value) (st : List Value) : Option (List Value) := match st with | .int y :: .int x :: r => (f x y).map (fun v => v :: r) | _ => none
def xl1 (f : Int64 → Value) (st : List Value) : Option (List Value) := match st with | .long x :: r => some (f x :: r) | _ => none
def xl2 (f : Int64 → Int64 → Option Value) (st : List Value) : Option (List Value) := match st with | .long y :: .long x :: r => (f x y).map (fun v => v :: r) | _ => none
def xls (f : Int64 → Int32 → Value) (st : List Value) : Option (List Value) := match st with | .int y :: .long x :: r => some (f x y :: r) | _ => none
def xc1 (v : Value) : Bool := match v with | .long _ => false | .double _ => false | _ => true
def xcmp (c : Jvm.ClassFile.Cond) (x y : Int32) : Bool := match c with
  | .eq => x == y | .ne => !(x == y) | .lt => decide (x < y) | .ge => decide (y ≤ x) | .gt => decide (y < x) | .le => decide (x ≤ y)
/-- a jump -/
def xjp (pc : Nat) (off : Int) (L : xL) (st : List Value) (W : xH) : Option xR := match (pc : Int) + off with
  | .ofNat t => some (t, L, st, W)
  | _ => none
def xbr (b : Bool) (pc : Nat) (off : Int) (L : xL) (st : List Value) (W : xH) : Option xR := match (pc : Int) + off with
  | .ofNat t => some (if b = true then t else pc + 3, L, st, W)
  | _ => none
def xin (i : Int32) (n : Nat) : Bool := !(decide (i < 0)) && decide (i.toNatClampNeg < n)
/-- kinds of rows: int 0, long 1, char 2, byte 3, boolean 4, states 5 -/
def xty (k : Nat) : FieldType := match k with | 0 => .int | 1 => .long | 2 => .char | 3 => .byte | _ => .boolean
def xkd (t : Jvm.ClassFile.ArrayType) : Option Nat := match t with | .int => some 0 | .long => some 1 | .char => some 2 | .byte => some 3 | .boolean => some 4 | _ => none
def xz (k n : Nat) : vp_A := match k with
  | 1 => (n, .inr (.inl (fun _ => 0)))
  | 5 => (n, .inr (.inr (.inr (.inr (fun _ => none)))))
  | _ => (n, .inl (fun _ => 0))
/-- loads from rows of ints of a kind -/
def xai (W : xH) (ok : Nat → Bool) (st : List Value) : Option (List Value) := match st with
  | .int i :: .ref a :: r => match xat W a with
    | .inl (k, n, .inl f) => xk (ok k && xin i n) (some (.int (f i.toNatClampNeg) :: r))
    | _ => none
  | _ => none
def xal1 (W : xH) (st : List Value) : Option (List Value) := match st with
  | .int i :: .ref a :: r => match xat W a with
    | .inl (k, n, .inr (.inl f)) => xk (k == 1 && xin i n) (some (.long (f i.toNatClampNeg) :: r))
    | _ => none
  | _ => none
def xaa (W : xH) (st : List Value) : Option (List Value) := match st with
  | .int i :: .ref a :: r => match xat W a with
    | .inl (k, n, .inr (.inr (.inr (.inr f)))) => xk (k == 5 && xin i n) (some (va_rf (f i.toNatClampNeg) :: r))
    | _ => none
  | _ => none
def xnr (k : Nat) (x : Int32) : Int32 := if k = 0 then x else vp_nar (xty k) x
def xsi (W : xH) (ok : Nat → Bool) (st : List Value) : Option (List Value × xH) := match st with
  | .int x :: .int i :: .ref a :: r => match xat W a with
    | .inl (k, n, .inl f) => xk (ok k && xin i n) (some (r, xpt W a (.inl (k, n, .inl (upd f i.toNatClampNeg (xnr k x))))))
    | _ => none
  | _ => none
def xsl (W : xH) (st : List Value) : Option (List Value × xH) := match st with
  | .long x :: .int i :: .ref a :: r => match xat W a with
    | .inl (k, n, .inr (.inl f)) => xk (k == 1 && xin i n) (some (r, xpt W a (.inl (k, n, .inr (.inl (vp_updL f i.toNatClampNeg x))))))
    | _ => none
  | _ => none
def xsa (W : xH) (st : List Value) : Option (List Value × xH) := match st with
  | .ref v :: .int i :: .ref a :: r => match xat W a, xat W v with
    | .inl (k, n, .inr (.inr (.inr (.inr f)))), .inr (ci, _) => xk (k == 5 && ci == 9 && xin i n) (some (r, xpt W a (.inl (k, n, .inr (.inr (.inr (.inr (va_up f i.toNatClampNeg (some v)))))))))
    | _, _ => none
  | _ => none
/-- the rows beside the heap: the script 0, digits 1 and 2, bytes of texts 11, 13 .. -/
def xbl (k : Nat) : Nat := if k = 1 ∨ k = 2 then 100 else xTl.getD ((k - 11) / 2) 0
def xby (k : Nat) (j : Nat) : Int32 := if k = 1 then Int32.ofNat (48 + j % 10) else if k = 2 then Int32.ofNat (48 + j / 10) else (xTb.getD ((k - 11) / 2) []).getD j 0
def xob (k : Nat) : Bool := k == 1 || k == 2 || (decide (11 ≤ k) && k % 2 == 1 && decide ((k - 11) / 2 < 7))
def xos (k : Nat) : Bool := decide (10 ≤ k) && k % 2 == 0 && decide ((k - 10) / 2 < 7)
def xsld (X : xX) (st : List Value) : Option (List Value) := match st with
  | .int i :: .retAddr 0 :: r => xk (xin i X.1) (some (.int (X.2.1 i.toNatClampNeg) :: r))
  | _ => none
def xbld (st : List Value) : Option (List Value) := match st with
  | .int i :: .retAddr k :: r => xk (xob k && xin i (xbl k)) (some (.int (xby k i.toNatClampNeg) :: r))
  | _ => none
def xln (X : xX) (W : xH) (st : List Value) : Option (List Value) := match st with
  | .ref a :: r => match xat W a with
    | .inl (k, n, _) => xk (decide (k < 6)) (some (.int (Int32.ofNat n) :: r))
    | _ => none
  | .retAddr 0 :: r => some (.int (Int32.ofNat X.1) :: r)
  | .retAddr k :: r => xk (xob k) (some (.int (Int32.ofNat (xbl k)) :: r))
  | _ => none
def xgf (W : xH) (o idx : Nat) (st : List Value) : Option (List Value) := match st with
  | .ref a :: r => match xat W a, xFd o idx with
    | .inr (ci, fs), some (cj, k) => xk (ci == cj) ((fs[k]?).map (fun v => v :: r))
    | _, _ => none
  | .retAddr j :: r => match xFd o idx with
    | some (0, 0) => xk (xos j) (some (.retAddr (j + 1) :: r))
    | some (0, 1) => xk (xos j) (some (.int 0 :: r))
    | _ => none
  | _ => none
def xpf (W : xH) (M o idx : Nat) (st : List Value) : Option (List Value × xH) := match st with
  | v :: .ref a :: r => match xat W a, xFd o idx with
    | .inr (ci, fs), some (cj, k) => match (xFz.getD cj [])[k]? with
      | some (ty, fin, dc) => xk (ci == cj && decide (narrow ty v = v) && fits ty v && decide (k < fs.length) && (!fin || (xMini M && dc == o))) (some (r, xpt W a (.inr (ci, fs.set k v))))
      | none => none
    | _, _ => none
  | _ => none
def xcp (W : xH) (st : List Value) : Option (List Value × xH) := match st with
  | .int n :: .int dp :: .ref a :: .int sp :: .ref b :: r => match xat W b, xat W a with
    | .inl (k0, n0, .inl f), .inl (k1, n1, .inl g) => xk (k0 == 3 && k1 == 3 && !(decide (sp < 0)) && !(decide (dp < 0)) && !(decide (n < 0)) && decide (sp.toNatClampNeg + n.toNatClampNeg ≤ n0) && decide (dp.toNatClampNeg + n.toNatClampNeg ≤ n1) && decide (∀ i, i < n.toNatClampNeg → fits .byte (.int (f (sp.toNatClampNeg + i))) = true)) (some (r, xpt W a (.inl (k1, n1, .inl (va_cpy f g sp.toNatClampNeg dp.toNatClampNeg n.toNatClampNeg)))))
    | _, _ => none
  | .int n :: .int dp :: .ref a :: .int sp :: .retAddr j :: r => match xat W a with
    | .inl (k1, n1, .inl g) => xk (xob j && k1 == 3 && !(decide (sp < 0)) && !(decide (dp < 0)) && !(decide (n < 0)) && decide (sp.toNatClampNeg + n.toNatClampNeg ≤ xbl j) && decide (dp.toNatClampNeg + n.toNatClampNeg ≤ n1) && decide (∀ i, i < n.toNatClampNeg → fits .byte (.int (xby j (sp.toNatClampNeg + i))) = true)) (some (r, xpt W a (.inl (k1, n1, .inl (va_cpy (xby j) g sp.toNatClampNeg dp.toNatClampNeg n.toNatClampNeg)))))
    | _ => none
  | _ => none
/-- an instruction that is no call and no return -/
def xone (X : xX) (M o pc : Nat) (L : xL) (st : List Value) (W : xH) (i : Instr) (len : Nat) : Option xR :=
  let nx (l : Nat) (r : Option (List Value)) : Option xR := xk (len == l) (r.map (fun st' => (pc + l, L, st', W)))
  let nl (l : Nat) (r : Option (xL × List Value)) : Option xR := xk (len == l) (r.map (fun q => (pc + l, q.1, q.2, W)))
  let nw (l : Nat) (r : Option (List Value × xH)) : Option xR := xk (len == l) (r.map (fun q => (pc + l, L, q.1, q.2)))
  match i with
  | .iconst n => nx 1 (some (.int (Int32.ofInt n) :: st))
  | .lconst n => nx 1 (some (.long (Int64.ofNat (n : Nat)) :: st))
  | .dconst n => nx 1 (xk ((n : Nat) == 0) (some (.double FP.dconst0 :: st)))
  | .aconst_null => nx 1 (some (.null :: st))
  | .bipush n => nx 2 (some (.int (Int8.ofInt n).toInt32 :: st))
  | .sipush n => nx 3 (some (.int (Int16.ofInt n).toInt32 :: st))
  | .ldc k => nx 2 (match xKi o k with
      | some v => some (.int v :: st)
      | none => match xLs o k with
        | some j => some (.retAddr (10 + 2 * j) :: st)
        | none => none)
  | .ldc_w k => nx 3 ((xKi o k).map (fun v => .int v :: st))
  | .ldc2_w k => nx 3 ((xKl o k).map (fun v => .long v :: st))
  | .iload k => nx 2 (xldi L k st)
  | .iload_n k => nx 1 (xldi L k st)
  | .lload k => nx 2 (xldl L k st)
  | .lload_n k => nx 1 (xldl L k st)
  | .dload k => nx 2 (xldd L k st)
  | .aload k => nx 2 (xlda L k st)
  | .aload_n k => nx 1 (xlda L k st)
  | .istore k => nl 2 (xsti L k st)
  | .istore_n k => nl 1 (xsti L k st)
  | .lstore k => nl 2 (xstl L k st)
  | .lstore_n k => nl 1 (xstl L k st)
  | .dstore k => nl 2 (xstd L k st)
  | .astore k => nl 2 (xsta L k st)
  | .astore_n k => nl 1 (xsta L k st)
  | .iinc k n => match xld L k with
      | some (.int x) => xk (decide (k < L.length) && (len == 3 || len == 6)) (some (pc + len, xst L k (.int (x + Int32.ofInt n)), st, W))
      | _ => none
  | .iadd => nx 1 (xi2 (fun x y => some (.int (x + y))) st)
  | .isub => nx 1 (xi2 (fun x y => some (.int (x - y))) st)
  | .imul => nx 1 (xi2 (fun x y => some (.int (x * y))) st)
  | .idiv => nx 1 (xi2 (fun x y => xk (!(y == 0)) (some (.int (x / y)))) st)
  | .irem => nx 1 (xi2 (fun x y => xk (!(y == 0)) (some (.int (x - x / y * y)))) st)
  | .ineg => nx 1 (xi1 (fun x => .int (-x)) st)
  | .ishl => nx 1 (xi2 (fun x y => some (.int (x <<< (y &&& 31)))) st)
  | .ishr => nx 1 (xi2 (fun x y => some (.int (x >>> (y &&& 31)))) st)
  | .iand => nx 1 (xi2 (fun x y => some (.int (x &&& y))) st)
  | .ior => nx 1 (xi2 (fun x y => some (.int (x ||| y))) st)
  | .ixor => nx 1 (xi2 (fun x y => some (.int (x ^^^ y))) st)
  | .i2l => nx 1 (xi1 (fun x => .long x.toInt64) st)
  | .i2b => nx 1 (xi1 (fun x => .int x.toInt8.toInt32) st)
  | .i2c => nx 1 (xi1 (fun x => .int (x.toUInt32 % 65536).toInt32) st)
  | .i2d => nx 1 (xi1 (fun x => .double (FP.i2d x)) st)
  | .l2i => nx 1 (xl1 (fun x => .int x.toInt32) st)
  | .l2d => nx 1 (xl1 (fun x => .double (FP.l2d x)) st)
  | .ladd => nx 1 (xl2 (fun x y => some (.long (x + y))) st)
  | .lsub => nx 1 (xl2 (fun x y => some (.long (x - y))) st)
  | .lmul => nx 1 (xl2 (fun x y => some (.long (x * y))) st)
  | .ldiv => nx 1 (xl2 (fun x y => xk (!(y == 0)) (some (.long (x / y)))) st)
  | .lneg => nx 1 (xl1 (fun x => .long (-x)) st)
  | .land => nx 1 (xl2 (fun x y => some (.long (x &&& y))) st)
  | .lor => nx 1 (xl2 (fun x y => some (.long (x ||| y))) st)
  | .lxor => nx 1 (xl2 (fun x y => some (.long (x ^^^ y))) st)
  | .lcmp => nx 1 (xl2 (fun x y => some (.int (lg_cmp x y))) st)
  | .lshl => nx 1 (xls (fun x y => .long (x <<< (y.toInt64 &&& 63))) st)
  | .lshr => nx 1 (xls (fun x y => .long (x >>> (y.toInt64 &&& 63))) st)
  | .lushr => nx 1 (xls (fun x y => .long (x.toUInt64 >>> (y.toInt64.toUInt64 &&& Int64.toUInt64 63)).toInt64) st)
  | .ddiv => nx 1 (match st with | .double y :: .double x :: r => xk (decide (FP.ddiv x y &&& 0x7fffffffffffffff ≤ 0x7ff0000000000000)) (some (.double (FP.ddiv x y) :: r)) | _ => none)
  | .dcmp op => nx 1 (match st with | .double y :: .double x :: r => some (.int (Op.cmpValue (FP.dcmp x y) op) :: r) | _ => none)
  | .dup => nx 1 (match st with | v :: r => xk (xc1 v) (some (v :: v :: r)) | _ => none)
  | .dup_x1 => nx 1 (match st with | v :: w :: r => xk (xc1 v && xc1 w) (some (v :: w :: v :: r)) | _ => none)
  | .dup2 => nx 1 (match st with | v :: w :: r => xk (xc1 v && xc1 w) (some (v :: w :: v :: w :: r)) | _ => none)
  | .pop => nx 1 (match st with | v :: r => xk (xc1 v) (some r) | _ => none)
  | .goto off => xk (len == 3) (xjp pc off L st W)
  | .ifCond c off => xk (len == 3) (match st with | .int x :: r => xbr (xcmp c x 0) pc off L r W | _ => none)
  | .if_icmp c off => xk (len == 3) (match st with | .int y :: .int x :: r => xbr (xcmp c x y) pc off L r W | _ => none)
  | .ifnonnull off => xk (len == 3) (match st with
      | .null :: r => some (pc + 3, L, r, W)
      | .ref _ :: r => xjp pc off L r W
      | .retAddr _ :: r => xjp pc off L r W
      | _ => none)
  | .tableswitch d lo hi offs => match st with
      | .int x :: r => if x.toInt < lo ∨ hi < x.toInt then xjp pc d L r W else match offs[(x.toInt - lo).toNat]? with
        | some off => xjp pc off L r W
        | none => none
      | _ => none
  | .lookupswitch d ps => match st with
      | .int x :: r => xk ((ps.toList.zip (ps.toList.drop 1)).all (fun (a, next) => a.1 < next.1)) (xjp pc (Op.lookupswitch.offset ps.toList d x.toInt) L r W)
      | _ => none
  | .arraylength => nx 1 (xln X W st)
  | .iaload => nx 1 (match st with | _ :: .ref _ :: _ => xai W (· == 0) st | _ => xsld X st)
  | .caload => nx 1 (xai W (· == 2) st)
  | .baload => nx 1 (match st with | _ :: .ref _ :: _ => xai W (fun k => k == 3 || k == 4) st | _ => xbld st)
  | .laload => nx 1 (xal1 W st)
  | .aaload => nx 1 (xaa W st)
  | .iastore => nw 1 (xsi W (· == 0) st)
  | .castore => nw 1 (xsi W (· == 2) st)
  | .bastore => nw 1 (xsi W (fun k => k == 3 || k == 4) st)
  | .lastore => nw 1 (xsl W st)
  | .aastore => nw 1 (xsa W st)
  | .getfield k => nx 3 (xgf W o k st)
  | .putfield k => nw 3 (xpf W M o k st)
  | .getstatic k => nx 3 (match xSg o k with
      | some 0 => some (.int 1 :: st)
      | some 1 => some (.retAddr 1 :: st)
      | some 2 => some (.retAddr 2 :: st)
      | some 3 => some ((if X.2.2 = true then .null else .retAddr 3) :: st)
      | _ => none)
  | .new k => nw 3 (match xTh M pc, xNw o k with
      | none, some ci => some (.ref W.1 :: st, xal W (.inr (ci, xDf.getD ci [])) (xDf.getD ci []).length)
      | _, _ => none)
  | .newarray t => nw 2 (match st, xkd t with
      | .int n :: r, some k => xk (!(decide (n < 0)) && decide (n.toNatClampNeg ≤ 20000)) (some (.ref W.1 :: r, xal W (.inl (k, xz k n.toNatClampNeg)) n.toNatClampNeg))
      | _, _ => none)
  | .anewarray k => nw 3 (match st with
      | .int n :: r => xk (xQo o k && !(decide (n < 0)) && decide (n.toNatClampNeg ≤ 20000)) (some (.ref W.1 :: r, xal W (.inl (5, xz 5 n.toNatClampNeg)) n.toNatClampNeg))
      | _ => none)
  | _ => none
/-- a callee's locals -/
def xfl (vs : List Value) : xL := vs.flatMap (fun v => if v.category = 2 then [some v, none] else [some v])
def xen (n : Nat) (vs : List Value) : xL := xfl vs ++ List.replicate (n - (xfl vs).length) none
def xcn (o idx : Nat) : Option Nat := (xCt.find? (fun r => r.1 / 100 / 100000 == o && r.1 / 100 % 100000 == idx)).map (fun r => r.2.2.2.1)
/-- of the receiver's class -/
def xrc (W : xH) (v : Value) : Option Nat := match v with
  | .ref a => match xat W a with | .inr (ci, _) => some ci | _ => none
  | .retAddr k => xk (xos k) (some 0)
  | _ => none
/-- a constant that is returned -/
def xhk (o M : Nat) (cc : ByteArray) (h : Nat) : Option Value := match decode cc h with
  | .ok (.iconst n, 1) => (match decode cc (h + 1) with
    | .ok (.ireturn, 1) => xk (decide (xMret M = some .int)) (some (.int (Int32.ofInt n)))
    | _ => none)
  | .ok (.ldc k, 2) => (match decode cc (h + 2) with
    | .ok (.ireturn, 1) => xk (decide (xMret M = some .int)) ((xKi o k).map Value.int)
    | _ => none)
  | .ok (.ldc2_w k, 3) => (match decode cc (h + 3) with
    | .ok (.lreturn, 1) => xk (decide (xMret M = some .long)) ((xKl o k).map Value.long)
    | _ => none)
  | _ => none
/-- a handler of the law: it throws the exception away and returns a number -/
def xhn (M : Nat) (cc : ByteArray) (h : Nat) : Option Value := match decode cc h with
  | .ok (.astore_n k, 1) => xk (decide ((k : Nat) < xMl M)) (xhk (xMo M) M cc (h + 1))
  | .ok (.astore k, 2) => xk (decide (k < xMl M)) (xhk (xMo M) M cc (h + 2))
  | _ => none
def xhe (h : Nat × Nat × Nat × Nat) : Option Nat := (xHc.find? (fun r => r.1 == h.2.2.2)).map (fun r => r.2)
def xhc (h : Nat × Nat × Nat × Nat) (pc : Nat) : Bool := decide (h.1 ≤ pc) && decide (pc < h.2.1)
/-- which handler: the first, or the second behind one for the other exception -/
def xhd (o : Nat) (hh : List (Nat × Nat × Nat × Nat)) (pc e : Nat) : Option Nat := xk (o == 11) (match hh with
  | h :: t => xk (xhc h pc) (if xhe h = some e then some h.2.2.1 else xk (e == 1 && xhe h == some 0) (match t with
    | h' :: _ => xk (xhc h' pc && xhe h' == some 1) (some h'.2.2.1)
    | [] => none))
  | [] => none)
abbrev xF : Type := Nat → Nat → Nat → ByteArray → Nat → xL → List Value → xH → Option (xO × xH)
def xcall (rec : xF) (d M o : Nat) (cc : ByteArray) (pc : Nat) (L : xL) (rest As : List Value) (W : xH) (kind M' : Nat) : Option (xO × xH) :=
  match d with
  | 0 => none
  | d' + 1 => xk (decide (xsum rest ≤ 8) && decide ((xfl As).length ≤ xMl M')) (match rec d' M' (xMo M') (xMc M') 0 (xen (xMl M') As) [] W with
    | some (.inl v, W') => rec d M o cc (pc + 3) L (v.toList ++ rest) W'
    | some (.inr e, W') => xk (kind < 2) (match xMh M with
      | [] => some (.inr e, W')
      | hh => match xhd o hh pc e with
        | some h => (xhn M cc h).map (fun c => (.inl (some c), W'))
        | none => none)
    | none => none)
def xri (t : FieldType) (v : Value) : Bool := match v with | .int _ => decide (narrow t v = v) | _ => false
def xrl (t : FieldType) (v : Value) : Bool := match t, v with | .long, .long _ => true | _, _ => false
def xrd (t : FieldType) (v : Value) : Bool := match t, v with | .double, .double _ => true | _, _ => false
def xra (t : FieldType) (v : Value) : Bool := match v with
  | .ref _ => (match t with | .object _ => true | .array _ => true | _ => false)
  | .retAddr _ => (match t with | .object _ => true | .array _ => true | _ => false)
  | .null => (match t with | .object _ => true | .array _ => true | _ => false)
  | _ => false
def xret (M : Nat) (ok : FieldType → Value → Bool) (st : List Value) (W : xH) : Option (xO × xH) := match st, xMret M with
  | [v], some t => xk (ok t v) (some (.inl (some v), W))
  | _, _ => none
/-- returns, calls, throws -/
def xctl (rec : xF) (d M o : Nat) (cc : ByteArray) (pc : Nat) (L : xL) (st : List Value) (W : xH) (i : Instr) (len : Nat) : Option (xO × xH) :=
  match i with
  | .return_ => xk (len == 1) (match st, xMret M with | [], none => some (.inl none, W) | _, _ => none)
  | .ireturn => xk (len == 1) (xret M xri st W)
  | .lreturn => xk (len == 1) (xret M xrl st W)
  | .dreturn => xk (len == 1) (xret M xrd st W)
  | .areturn => xk (len == 1) (xret M xra st W)
  | .invokestatic k => xk (len == 3) (if xAc o k = true then match xcp W st with
      | some (r, W') => xk (decide (xsum r ≤ 8) && decide (0 < d)) (rec d M o cc (pc + 3) L r W')
      | none => none
    else match xCa o k 99 with
      | some (kind, M', n) => xk (decide (n ≤ st.length)) (xcall rec d M o cc pc L (st.drop n) (st.take n).reverse W kind M')
      | none => none)
  | .invokespecial k => xk (len == 3) (if xOi o k = true then match st with
      | .ref _ :: r => xk (decide (xsum r ≤ 8) && decide (0 < d)) (rec d M o cc (pc + 3) L r W)
      | _ => none
    else match xCa o k 98 with
      | some (kind, M', n) => match st[n]? with
        | some (.ref a) => match xat W a with
          | .inr _ => xcall rec d M o cc pc L (st.drop (n + 1)) (st.take (n + 1)).reverse W kind M'
          | _ => none
        | _ => none
      | none => none)
  | .invokevirtual k => xk (len == 3) (match xcn o k with
      | some n => match st[n]? with
        | some v => match xrc W v with
          | some ci => match xCa o k ci with
            | some (kind, M', n') => xk (n' == n) (xcall rec d M o cc pc L (st.drop (n + 1)) (st.take (n + 1)).reverse W kind M')
            | none => none
          | none => none
        | none => none
      | none => none)
  | .new _ => match xTh M pc with
    | some e => xk (decide (0 < d) && decide (xsum st ≤ 8) && decide (len = 3)) (some (.inr e, xex W))
    | none => none
  | _ => none
def xins (X : xX) (rec : xF) (d M o : Nat) (cc : ByteArray) (pc : Nat) (L : xL) (st : List Value) (W : xH) (i : Instr) (len : Nat) : Option (xO × xH) := match xone X M o pc L st W i len with
  | some r => rec d M o cc r.1 r.2.1 r.2.2.1 r.2.2.2
  | none => xctl rec d M o cc pc L st W i len
def xexec (X : xX) : Nat → xF
  | 0 => fun _ _ _ _ _ _ _ _ => none
  | n + 1 => fun d M o cc pc L st W => match decode cc pc with
    | .ok (i, len) => xins X (xexec X n) d M o cc pc L st W i len
    | .error _ => none
def Wp (X : xX) (d M o : Nat) (cc : ByteArray) (pc : Nat) (L : xL) (st : List Value) (W : xH) (Q : xO → xH → Prop) : Prop := ∃ n out W', xexec X n d M o cc pc L st W = some (out, W') ∧ Q out W'
end
