/-! what every frame knows: words, classes, texts, statics; the tables are held against the words -/
section
theorem xk_some {α : Type} {b : Bool} {r : Option α} {q : α} : xk b r = some q ↔ b = true ∧ r = some q := by
  unfold xk; split <;> simp_all
def xtys (D2 : Nat → ClassId) : List (ClassId × FieldType) := [(D2 0, .int), (D2 1, .long), (D2 2, .char), (D2 3, .byte), (D2 4, .boolean), (D2 5, .object "CalculatedSheet$State")]
def xsv (X : xX) (i : Nat) : Value := match i with | 0 => .int 1 | 1 => .retAddr 1 | 2 => .retAddr 2 | _ => if X.2.2 = true then .null else .retAddr 3
def xsn (i : Nat) : String × String × String := match i with
  | 0 => ("java/lang/String", "COMPACT_STRINGS", "Z")
  | 1 => ("java/lang/Integer", "DigitOnes", "[B")
  | 2 => ("java/lang/Integer", "DigitTens", "[B")
  | _ => ("jdk/internal/util/Preconditions", "SIOOBE_FORMATTER", "Ljava/util/function/BiFunction;")
/-- the world beside the heap -/
def xK (X : xX) (D : va_G) (D2 : Nat → ClassId) (A : Nat → Prop) (ae : Nat → Nat) (U : State) (H : Heap) : Prop :=
  (va_K D vwCl (xtys D2) U ∧ (∀ q, H.size ≤ q → A q) ∧ va_AO "CalculatedSheet$State" U ∧ (∀ w ∈ lw_tbl, xbk w = true → va_Nw w U) ∧ va_Nc "java/lang/IllegalStateException" "java/lang/IllegalArgumentException" U) ∧
  (va_X (ae 0) X.1 X.2.1 U H ∧ ae 0 < H.size ∧ ¬ A (ae 0)) ∧
  ((∀ i, i < 7 → vk_S 1 [xTl.getD i 0] [xTb.getD i []] (fun _ => ae (10 + 2 * i)) (fun _ => ae (11 + 2 * i)) A U H) ∧ ∀ i q, xTx[i]? = some q → vk_R "CalculatedSheet$Token" q.1 q.2 (ae (10 + 2 * i)) U) ∧
  ((∀ k, k = 1 ∨ k = 2 → va_T .byte (ae k) 100 (fun j => .int (xby k j)) A U H) ∧ ∀ i, i < 4 → va_Z (xsn i).1 (xsn i).2.1 (xsn i).2.2 (xv id ae (xsv X i)) A U H) ∧
  ((∀ r ∈ xTt, ∃ sa, vk_R (xClN (xMo (r.1 / 100000))) r.2.2.2.1 r.2.2.2.2.2.2.1 sa U) ∧ vx_Zq Bundle.tN "UNASSIGNED_STACK" Bundle.steD A U H ∧ vx_Zq Bundle.tN "SUPPRESSED_SENTINEL" Bundle.listD A U H)
theorem xK.moved {X : xX} {D : va_G} {D2 : Nat → ClassId} {A : Nat → Prop} {ae : Nat → Nat} {u U : State} {H H1 : Heap} (h : xK X D D2 A ae u H) (hW : u.WarmedH U.vm) (hs : H.size ≤ H1.size) (hq : ∀ a : Nat, a < H.size → ¬ A a → H1[a]? = H[a]?) : xK X D D2 A ae U H1 := by
  have hvm := hW.alike
  obtain ⟨⟨h1, h2, h3, h4, h5⟩, ⟨h6, h7, h8⟩, ⟨h9, h10⟩, ⟨h11, h12⟩, h13, h14, h15⟩ := h
  refine ⟨⟨h1.moved hvm, fun q hh => h2 q (by omega), h3.moved hvm, fun w hw hb => ?_, h5.moved hvm⟩, ⟨(h6.moved hvm).kept (hq _ h7 h8), by omega, h8⟩, ⟨fun i hi => ((h9 i hi).moved hvm).kept hq, fun i q hi => (h10 i q hi).warm hW⟩, ⟨fun k hk => ((h11 k hk).moved hvm).kept hq, fun i hi => ((h12 i hi).moved hvm).kept hq⟩, fun r hr => ?_, (h14.moved hvm).kept hq, (h15.moved hvm).kept hq⟩
  · have := h4 w hw hb
    unfold xbk at hb
    split at hb
    · exact this.warmM hW
    · exact this.warmD hW
    · exact this.warmC hW
    · cases hb
  · obtain ⟨sa, h⟩ := h13 r hr
    exact ⟨sa, h.warm hW⟩
/-- what a frame of method M knows, d calls deep at most -/
def xC (X : xX) (D : va_G) (D2 : Nat → ClassId) (A : Nat → Prop) (ae : Nat → Nat) (p : Program) (R : Room) (s : State) (m : MethodId) (args : Array Value) (meth : Method) (c : Code) (M d : Nat) : Prop :=
  (p.tables.exec = Jvm.exec ∧ c.code = xMc M ∧ c.maxLocals = xMl M ∧ s.vm.findClass (xClN (xMo M)) = some m.cls) ∧ (meth.sig.returnType = xMret M ∧ (xMini M = true → meth.name = "<init>") ∧ meth.locks = false) ∧ (∀ w ∈ xG, w.before args s = true) ∧ xK X D D2 A ae s s.heap ∧ d + 8 ≤ R.frames ∧ 64 * d + 200 ≤ R.locals
/-- the heap lies in the machine's -/
def xI (D : va_G) (D2 : Nat → ClassId) (A : Nat → Prop) (ad ae : Nat → Nat) (w : xH) (H : Heap) : Prop := va_P D vwCl (xw D2 ad ae w) H ∧ va_D A (xw D2 ad ae w)
def xok (w : xH) (L : xL) (st : List Value) : Prop := xwk w ∧ (∀ v, some v ∈ L → xvk w.1 v) ∧ ∀ v ∈ st, xvk w.1 v
/-- W at a place of the light machine -/
def xWW (D : va_G) (D2 : Nat → ClassId) (A : Nat → Prop) (ae : Nat → Nat) (p : Program) (l : Launch) (e : Env) (R : Room) (s : State) (m : MethodId) (args : Array Value) (below : List Frame) (meth : Method) (c : Code) (Q : State → Prop) (n : Nat) (ad0 : Nat → Nat) (k0 n0 : Nat) (pc : Nat) (L : xL) (st : List Value) (w : xH) : Prop :=
  ∀ (ad : Nat → Nat) (H : Heap) (locs : List Loc) (ls : Array Slot), (∀ k, k < n → ad k = ad0 k) → xI D D2 A ad ae w H → va_S A s.heap H locs → xlr ls (xv ad ae) L → L.length = c.maxLocals → xok w L st → n ≤ w.1 → k0 ≤ w.2.2.1 → n0 ≤ w.2.2.2 →
    W p l e R s m args below meth c H locs (w.2.2.1 - k0) (w.2.2.2 - n0) Q (F0 m pc ls (st.map (xv ad ae)))
/-! the tables against the words -/
def xck1 (r : Nat × Nat × Nat × Nat) : Bool := match vwCl[r.2.1]? with
  | some q => decide (r.2.2.1 < q.2.2) && decide (lw_tbl[r.2.2.2]? = some (.fieldLink (xClN (r.1 / 100000)) (r.1 % 100000) (q.2.1 r.2.2.1).1 (q.2.1 r.2.2.1).2.1 (q.2.1 r.2.2.1).2.2.1))
  | none => false
theorem xFt_ok : xFt.all xck1 = true := by decide +kernel
def xck2 (r : Nat × Int32 × Nat) : Bool := decide (lw_tbl[r.2.2]? = some (.constant (xClN (r.1 / 100000)) (r.1 % 100000) r.2.1))
theorem xKt_ok : xKt.all xck2 = true := by decide +kernel
def xck3 (r : Nat × Int64 × Nat) : Bool := decide (lw_tbl[r.2.2]? = some (.constantLong (xClN (r.1 / 100000)) (r.1 % 100000) r.2.1))
theorem xJt_ok : xJt.all xck3 = true := by decide +kernel
def xck4 (r : Nat × Nat × Nat) : Bool := decide (r.2.1 < 4) && decide (lw_tbl[r.2.2]? = some (.fieldLink (xClN (r.1 / 100000)) (r.1 % 100000) (xsn r.2.1).1 (xsn r.2.1).2.1 (xsn r.2.1).2.2))
theorem xSt_ok : xSt.all xck4 = true := by decide +kernel
def xck5 (r : Nat × Nat × Nat × Nat × Nat) : Bool := match vwCl[r.2.1]? with
  | some q => decide (lw_tbl[r.2.2.1]? = some (.classLink (xClN (r.1 / 100000)) (r.1 % 100000) q.1)) && decide (lw_tbl[r.2.2.2.1]? = some (.instantiable q.1 q.2.2)) && decide (lw_tbl[r.2.2.2.2]? = some (.initialized q.1)) && decide ((xDf.getD r.2.1 []).length = q.2.2)
  | none => false
theorem xNt_ok : xNt.all xck5 = true := by decide +kernel
def xck6 (i : Nat) : Bool := match xAw[i]? with
  | some p => decide (lw_tbl[p]? = some (.arrayClass (xty i)))
  | none => false
theorem xAw_ok : (List.range 5).all xck6 = true := by decide +kernel
def xck7 (r : Nat × Nat) : Bool := decide (lw_tbl[r.2]? = some (.classLink (xClN (r.1 / 100000)) (r.1 % 100000) "CalculatedSheet$State"))
theorem xQt_ok : xQt.all xck7 = true := by decide +kernel
def xck8 (r : Nat × Nat × Nat × Nat × Nat) : Bool := decide (lw_tbl[r.2.1]? = some (.methodLink (xClN (r.1 / 100000)) (r.1 % 100000) arraycopyName)) && decide (lw_tbl[r.2.2.1]? = some (.native arraycopyName)) && decide (lw_tbl[r.2.2.2.1]? = some (.static arraycopyName)) && decide (lw_tbl[r.2.2.2.2]? = some (.initialized "java/lang/System"))
theorem xAt_ok : xAt.all xck8 = true := by decide +kernel
def xck9 (r : Nat × Nat × Nat × Nat) : Bool := decide (lw_tbl[r.2.1]? = some (.methodLink (xClN (r.1 / 100000)) (r.1 % 100000) Lib.objectInit)) && decide (lw_tbl[r.2.2.1]? = some (.instanceMethod Lib.objectInit)) && decide (lw_tbl[r.2.2.2]? = some (.code Lib.objectInit ⟨#[0xb1]⟩ 1 none))
theorem xOt_ok : xOt.all xck9 = true := by decide +kernel
/-- the fields' words, types -/
def xck10 (ci : Nat) : Bool := match vwCl[ci]? with
  | some q => decide ((u_ws q.1 q.2.1 q.2.2).map some = (xUw.getD ci []).map (fun p => lw_tbl[p]?)) && decide ((xFz.getD ci []).length = q.2.2) && (List.range q.2.2).all (fun k => match (xFz.getD ci [])[k]?, (xDf.getD ci [])[k]? with
    | some z, some v => decide (parseFieldDescriptor (q.2.1 k).2.2.1 = some z.1) && decide ((q.2.1 k).2.2.2 = z.2.1) && (!z.2.1 || decide ((q.2.1 k).1 = xClN z.2.2)) && decide (defaultValue z.1 = v)
    | _, _ => false) && (List.range q.2.2).all (fun a => (List.range q.2.2).all (fun b => decide (a = b) || decide ((q.2.1 a).2.1 ≠ (q.2.1 b).2.1)))
  | none => false
theorem xFz_ok : (List.range 11).all xck10 = true := by decide +kernel
end
