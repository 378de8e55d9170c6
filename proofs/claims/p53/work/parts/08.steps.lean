/-! AN INSTRUCTION, A ROW (written by wip/whole/gensteps.py): what the light machine does, the machine of the Statement does; and no reference is left hanging -/
section
variable {X : xX} {D : va_G} {D2 : Nat → ClassId} {A : Nat → Prop} {ae : Nat → Nat} {p : Program} {l : Launch} {e : Env} {R : Room} {s : State} {m : MethodId} {args : Array Value} {below : List Frame} {meth : Method} {c : Code} {Q : State → Prop} {M d n k0 n0 : Nat} {ad0 : Nat → Nat} {pc len : Nat} {L : xL} {st : List Value} {w : xH} {r : xR}
theorem xnx {α β : Type} {b : Nat} {f : α → β} {o : Option α} {q : β} (h : xk (len == b) (o.map f) = some q) : len = b ∧ ∃ a, o = some a ∧ q = f a := by
  obtain ⟨h1, h2⟩ := xk_some.mp h
  obtain ⟨a, h3, h4⟩ := Option.map_eq_some_iff.mp h2
  exact ⟨by simpa using h1, a, h3, h4.symm⟩
theorem xi1_inv {f : Int32 → Value} {st st' : List Value} (h : xi1 f st = some st') : ∃ x r, st = .int x :: r ∧ st' = f x :: r := by
  unfold xi1 at h; split at h
  · cases h; exact ⟨_, _, rfl, rfl⟩
  · cases h
theorem xl1_inv {f : Int64 → Value} {st st' : List Value} (h : xl1 f st = some st') : ∃ x r, st = .long x :: r ∧ st' = f x :: r := by
  unfold xl1 at h; split at h
  · cases h; exact ⟨_, _, rfl, rfl⟩
  · cases h
theorem xi2_inv {f : Int32 → Int32 → Option Value} {st st' : List Value} (h : xi2 f st = some st') : ∃ x y r v, st = .int y :: .int x :: r ∧ f x y = some v ∧ st' = v :: r := by
  unfold xi2 at h; split at h
  · obtain ⟨v, h1, h2⟩ := Option.map_eq_some_iff.mp h; exact ⟨_, _, _, v, rfl, h1, h2.symm⟩
  · cases h
theorem xl2_inv {f : Int64 → Int64 → Option Value} {st st' : List Value} (h : xl2 f st = some st') : ∃ x y r v, st = .long y :: .long x :: r ∧ f x y = some v ∧ st' = v :: r := by
  unfold xl2 at h; split at h
  · obtain ⟨v, h1, h2⟩ := Option.map_eq_some_iff.mp h; exact ⟨_, _, _, v, rfl, h1, h2.symm⟩
  · cases h
theorem xls_inv {f : Int64 → Int32 → Value} {st st' : List Value} (h : xls f st = some st') : ∃ x y r, st = .int y :: .long x :: r ∧ st' = f x y :: r := by
  unfold xls at h; split at h
  · cases h; exact ⟨_, _, _, rfl, rfl⟩
  · cases h
theorem xldi_inv {i : Nat} {st' : List Value} (h : xldi L i st = some st') : ∃ x, xld L i = some (.int x) ∧ st' = .int x :: st := by
  unfold xldi at h; split at h
  · next x hx => cases h; exact ⟨x, hx, rfl⟩
  · cases h
theorem xldl_inv {i : Nat} {st' : List Value} (h : xldl L i st = some st') : ∃ x, xld L i = some (.long x) ∧ st' = .long x :: st := by
  unfold xldl at h; split at h
  · next x hx => cases h; exact ⟨x, hx, rfl⟩
  · cases h
theorem xldd_inv {i : Nat} {st' : List Value} (h : xldd L i st = some st') : ∃ x, xld L i = some (.double x) ∧ st' = .double x :: st := by
  unfold xldd at h; split at h
  · next x hx => cases h; exact ⟨x, hx, rfl⟩
  · cases h
theorem xlda_inv {i : Nat} {st' : List Value} (h : xlda L i st = some st') : ∃ v, xld L i = some v ∧ st' = v :: st ∧ ((∃ x, v = .ref x) ∨ (∃ x, v = .retAddr x) ∨ v = .null) := by
  unfold xlda at h; split at h
  · next x hx => cases h; exact ⟨_, hx, rfl, Or.inl ⟨x, rfl⟩⟩
  · next x hx => cases h; exact ⟨_, hx, rfl, Or.inr (Or.inl ⟨x, rfl⟩)⟩
  · next hx => cases h; exact ⟨_, hx, rfl, Or.inr (Or.inr rfl)⟩
  · cases h
theorem xsti_inv {i : Nat} {q : xL × List Value} (h : xsti L i st = some q) : ∃ x r, st = .int x :: r ∧ i < L.length ∧ q = (xst L i (.int x), r) := by
  unfold xsti at h; split at h
  · obtain ⟨h1, h2⟩ := xk_some.mp h; cases h2; exact ⟨_, _, rfl, of_decide_eq_true h1, rfl⟩
  · cases h
theorem xstl_inv {i : Nat} {q : xL × List Value} (h : xstl L i st = some q) : ∃ x r, st = .long x :: r ∧ i + 1 < L.length ∧ q = (xst2 L i (.long x), r) := by
  unfold xstl at h; split at h
  · obtain ⟨h1, h2⟩ := xk_some.mp h; cases h2; exact ⟨_, _, rfl, of_decide_eq_true h1, rfl⟩
  · cases h
theorem xstd_inv {i : Nat} {q : xL × List Value} (h : xstd L i st = some q) : ∃ x r, st = .double x :: r ∧ i + 1 < L.length ∧ q = (xst2 L i (.double x), r) := by
  unfold xstd at h; split at h
  · obtain ⟨h1, h2⟩ := xk_some.mp h; cases h2; exact ⟨_, _, rfl, of_decide_eq_true h1, rfl⟩
  · cases h
theorem xsta_inv {i : Nat} {q : xL × List Value} (h : xsta L i st = some q) : ∃ v r, st = v :: r ∧ i < L.length ∧ q = (xst L i v, r) ∧ ((∃ x, v = .ref x) ∨ (∃ x, v = .retAddr x) ∨ v = .null) := by
  unfold xsta at h; split at h
  · next x _ => obtain ⟨h1, h2⟩ := xk_some.mp h; cases h2; exact ⟨_, _, rfl, of_decide_eq_true h1, rfl, Or.inl ⟨x, rfl⟩⟩
  · next x _ => obtain ⟨h1, h2⟩ := xk_some.mp h; cases h2; exact ⟨_, _, rfl, of_decide_eq_true h1, rfl, Or.inr (Or.inl ⟨x, rfl⟩)⟩
  · obtain ⟨h1, h2⟩ := xk_some.mp h; cases h2; exact ⟨_, _, rfl, of_decide_eq_true h1, rfl, Or.inr (Or.inr rfl)⟩
  · cases h
theorem xjp_inv {off : Int} (h : xjp pc off L st w = some r) : ∃ t : Nat, (pc : Int) + off = (t : Int) ∧ r = (t, L, st, w) := by
  unfold xjp at h; split at h
  · next t ht => cases h; exact ⟨t, ht, rfl⟩
  · cases h
theorem xbr_inv {b : Bool} {off : Int} (h : xbr b pc off L st w = some r) : ∃ t : Nat, (pc : Int) + off = (t : Int) ∧ r = (if b = true then t else pc + 3, L, st, w) := by
  unfold xbr at h; split at h
  · next t ht => cases h; exact ⟨t, ht, rfl⟩
  · cases h
theorem xin_in {i : Int32} {n : Nat} (h : xin i n = true) : vp_in i n := by
  unfold xin at h
  simp only [Bool.and_eq_true, Bool.not_eq_true', decide_eq_false_iff_not, decide_eq_true_eq] at h
  rintro (h1 | h1)
  · exact h.1 h1
  · omega
theorem xc1_cat {ad ae : Nat → Nat} {v : Value} (h : xc1 v = true) : (xv ad ae v).category = 1 := by
  cases v <;> first | rfl | cases h
/-- what is there after a step -/
def xgd (w : xH) (r : xR) : Prop := xok r.2.2.2 r.2.1 r.2.2.1 ∧ r.2.1.length = r.2.1.length ∧ w.1 ≤ r.2.2.2.1 ∧ w.2.2.1 ≤ r.2.2.2.2.2.1 ∧ w.2.2.2 ≤ r.2.2.2.2.2.2
theorem xok.stk {st' : List Value} (h : xok w L st) (h' : ∀ v ∈ st', xvk w.1 v) : xok w L st' := ⟨h.1, h.2.1, h'⟩
theorem xvk_cons {n : Nat} {v : Value} {r : List Value} (h : xvk n v) (hr : ∀ u ∈ r, xvk n u) : ∀ u ∈ v :: r, xvk n u := List.forall_mem_cons.mpr ⟨h, hr⟩
theorem xok.tl {v : Value} {r : List Value} (h : xok w L (v :: r)) : xok w L r := ⟨h.1, h.2.1, (List.forall_mem_cons.mp h.2.2).2⟩
theorem xok.hd {v : Value} {r : List Value} (h : xok w L (v :: r)) : xvk w.1 v := (List.forall_mem_cons.mp h.2.2).1
theorem xok.push {v : Value} (h : xok w L st) (hv : xvk w.1 v) : xok w L (v :: st) := ⟨h.1, h.2.1, xvk_cons hv h.2.2⟩
theorem xok.loc (h : xok w L st) {i : Nat} {v : Value} (hv : xld L i = some v) : xvk w.1 v := h.2.1 v (List.mem_of_getElem? (xld_get.mp hv))
theorem xst_mem {i : Nat} {v u : Value} (h : some u ∈ xst L i v) : u = v ∨ some u ∈ L := by
  obtain ⟨j, hj⟩ := List.getElem?_of_mem h
  unfold xst at hj
  rw [List.getElem?_set] at hj
  split at hj
  · split at hj
    · cases hj; exact Or.inl rfl
    · cases hj
  · exact Or.inr (List.mem_of_getElem? (xcl_get hj).1)
theorem xst2_mem {i : Nat} {v u : Value} (h : some u ∈ xst2 L i v) : u = v ∨ some u ∈ L := by
  obtain ⟨j, hj⟩ := List.getElem?_of_mem h
  unfold xst2 at hj
  rw [List.getElem?_set] at hj
  split at hj
  · split at hj <;> cases hj
  · rw [List.getElem?_set] at hj
    split at hj
    · split at hj
      · cases hj; exact Or.inl rfl
      · cases hj
    · exact Or.inr (List.mem_of_getElem? (xcl_get hj).1)
theorem xok.sto {i : Nat} {v : Value} {r : List Value} (h : xok w L (v :: r)) : xok w (xst L i v) r :=
  ⟨h.1, fun u hu => (xst_mem hu).elim (fun e => e ▸ h.hd) (h.2.1 u), h.tl.2.2⟩
theorem xok.sto2 {i : Nat} {v : Value} {r : List Value} (h : xok w L (v :: r)) : xok w (xst2 L i v) r :=
  ⟨h.1, fun u hu => (xst2_mem hu).elim (fun e => e ▸ h.hd) (h.2.1 u), h.tl.2.2⟩
theorem xst_len {i : Nat} {v : Value} : (xst L i v).length = L.length := by simp [xst, xcl_len]
theorem xst2_len {i : Nat} {v : Value} : (xst2 L i v).length = L.length := by simp [xst2, xcl_len]
/-- the same world -/
def xSame (L : xL) (st : List Value) (w : xH) (r : xR) : Prop := r.2.1.length = L.length ∧ r.2.2.2 = w ∧ (xok w L st → xok w r.2.1 r.2.2.1)
theorem xmk {pc' : Nat} {L' : xL} {st' : List Value} (hln : L'.length = L.length) (hok : xok w L st → xok w L' st')
    (hW : ∀ (ad : Nat → Nat) (H : Heap) (locs : List Loc) (ls : Array Slot), (∀ k, k < n → ad k = ad0 k) → xI D D2 A ad ae w H → va_S A s.heap H locs → xlr ls (xv ad ae) L → L.length = c.maxLocals → xok w L st → xok w L' st' → n ≤ w.1 → k0 ≤ w.2.2.1 → n0 ≤ w.2.2.2 →
      W p l e R s m args below meth c H locs (w.2.2.1 - k0) (w.2.2.2 - n0) Q (F0 m pc ls (st.map (xv ad ae)))) :
    xSame L st w (pc', L', st', w) ∧ xWW D D2 A ae p l e R s m args below meth c Q n ad0 k0 n0 pc L st w :=
  ⟨⟨hln, rfl, hok⟩, fun ad H locs ls ha hI hS hl hL ho hn hc1 hc2 => hW ad H locs ls ha hI hS hl hL ho (hok ho) hn hc1 hc2⟩

theorem xs_iconst {z : Int} (C : xC X D D2 A ae p R s m args meth c M d) (hdg : decode (xMc M) pc = .ok ((.iconst z), len)) (h : xone X M (xMo M) pc L st w (.iconst z) len = some r) (kk : xWW D D2 A ae p l e R s m args below meth c Q n ad0 k0 n0 r.1 r.2.1 r.2.2.1 r.2.2.2) :
    xSame L st w r ∧ xWW D D2 A ae p l e R s m args below meth c Q n ad0 k0 n0 pc L st w := by
  obtain ⟨rfl, st', h1, rfl⟩ := xnx h
  cases h1
  refine xmk rfl (fun h => h.push trivial) (fun ad H locs ls ha hI hS hl hL ho ho1 hn hc1 hc2 => ?_)
  exact lv_iconst C.1.1 C.1.2.1 hdg rfl (kk ad H locs ls ha hI hS hl hL ho1 hn hc1 hc2)

theorem xs_lconst {z : Fin 2} (C : xC X D D2 A ae p R s m args meth c M d) (hdg : decode (xMc M) pc = .ok ((.lconst z), len)) (h : xone X M (xMo M) pc L st w (.lconst z) len = some r) (kk : xWW D D2 A ae p l e R s m args below meth c Q n ad0 k0 n0 r.1 r.2.1 r.2.2.1 r.2.2.2) :
    xSame L st w r ∧ xWW D D2 A ae p l e R s m args below meth c Q n ad0 k0 n0 pc L st w := by
  obtain ⟨rfl, st', h1, rfl⟩ := xnx h
  cases h1
  refine xmk rfl (fun h => h.push trivial) (fun ad H locs ls ha hI hS hl hL ho ho1 hn hc1 hc2 => ?_)
  exact lv_lconst C.1.1 C.1.2.1 hdg rfl (kk ad H locs ls ha hI hS hl hL ho1 hn hc1 hc2)

theorem xs_null (C : xC X D D2 A ae p R s m args meth c M d) (hdg : decode (xMc M) pc = .ok (.aconst_null, len)) (h : xone X M (xMo M) pc L st w .aconst_null len = some r) (kk : xWW D D2 A ae p l e R s m args below meth c Q n ad0 k0 n0 r.1 r.2.1 r.2.2.1 r.2.2.2) :
    xSame L st w r ∧ xWW D D2 A ae p l e R s m args below meth c Q n ad0 k0 n0 pc L st w := by
  obtain ⟨rfl, st', h1, rfl⟩ := xnx h
  cases h1
  refine xmk rfl (fun h => h.push trivial) (fun ad H locs ls ha hI hS hl hL ho ho1 hn hc1 hc2 => ?_)
  exact lv_null C.1.1 C.1.2.1 hdg (kk ad H locs ls ha hI hS hl hL ho1 hn hc1 hc2)

theorem xs_bipush {z : Int} (C : xC X D D2 A ae p R s m args meth c M d) (hdg : decode (xMc M) pc = .ok ((.bipush z), len)) (h : xone X M (xMo M) pc L st w (.bipush z) len = some r) (kk : xWW D D2 A ae p l e R s m args below meth c Q n ad0 k0 n0 r.1 r.2.1 r.2.2.1 r.2.2.2) :
    xSame L st w r ∧ xWW D D2 A ae p l e R s m args below meth c Q n ad0 k0 n0 pc L st w := by
  obtain ⟨rfl, st', h1, rfl⟩ := xnx h
  cases h1
  refine xmk rfl (fun h => h.push trivial) (fun ad H locs ls ha hI hS hl hL ho ho1 hn hc1 hc2 => ?_)
  exact lv_bipush C.1.1 C.1.2.1 hdg rfl (kk ad H locs ls ha hI hS hl hL ho1 hn hc1 hc2)

theorem xs_sipush {z : Int} (C : xC X D D2 A ae p R s m args meth c M d) (hdg : decode (xMc M) pc = .ok ((.sipush z), len)) (h : xone X M (xMo M) pc L st w (.sipush z) len = some r) (kk : xWW D D2 A ae p l e R s m args below meth c Q n ad0 k0 n0 r.1 r.2.1 r.2.2.1 r.2.2.2) :
    xSame L st w r ∧ xWW D D2 A ae p l e R s m args below meth c Q n ad0 k0 n0 pc L st w := by
  obtain ⟨rfl, st', h1, rfl⟩ := xnx h
  cases h1
  refine xmk rfl (fun h => h.push trivial) (fun ad H locs ls ha hI hS hl hL ho ho1 hn hc1 hc2 => ?_)
  exact lv_sipush C.1.1 C.1.2.1 hdg rfl (kk ad H locs ls ha hI hS hl hL ho1 hn hc1 hc2)

theorem xs_dconst {z : Fin 2} (C : xC X D D2 A ae p R s m args meth c M d) (hdg : decode (xMc M) pc = .ok ((.dconst z), len)) (h : xone X M (xMo M) pc L st w (.dconst z) len = some r) (kk : xWW D D2 A ae p l e R s m args below meth c Q n ad0 k0 n0 r.1 r.2.1 r.2.2.1 r.2.2.2) :
    xSame L st w r ∧ xWW D D2 A ae p l e R s m args below meth c Q n ad0 k0 n0 pc L st w := by
  obtain ⟨rfl, st', h1, rfl⟩ := xnx h
  obtain ⟨hz, h1⟩ := xk_some.mp h1
  cases h1
  obtain rfl : z = 0 := Fin.ext (by simpa using hz)
  refine xmk rfl (fun h => h.push trivial) (fun ad H locs ls ha hI hS hl hL ho ho1 hn hc1 hc2 => ?_)
  exact lv_dconst0 C.1.1 C.1.2.1 hdg (kk ad H locs ls ha hI hS hl hL ho1 hn hc1 hc2)

theorem xs_iload {k : Nat} (C : xC X D D2 A ae p R s m args meth c M d) (hdg : decode (xMc M) pc = .ok ((.iload k), len)) (h : xone X M (xMo M) pc L st w (.iload k) len = some r) (kk : xWW D D2 A ae p l e R s m args below meth c Q n ad0 k0 n0 r.1 r.2.1 r.2.2.1 r.2.2.2) :
    xSame L st w r ∧ xWW D D2 A ae p l e R s m args below meth c Q n ad0 k0 n0 pc L st w := by
  obtain ⟨rfl, st', h1, rfl⟩ := xnx h
  obtain ⟨x, hx, rfl⟩ := xldi_inv h1
  refine xmk rfl (fun h => h.push trivial) (fun ad H locs ls ha hI hS hl hL ho ho1 hn hc1 hc2 => ?_)
  exact lv_iload C.1.1 C.1.2.1 hdg (xlr_at hl hx) (kk ad H locs ls ha hI hS hl hL ho1 hn hc1 hc2)

theorem xs_lload {k : Nat} (C : xC X D D2 A ae p R s m args meth c M d) (hdg : decode (xMc M) pc = .ok ((.lload k), len)) (h : xone X M (xMo M) pc L st w (.lload k) len = some r) (kk : xWW D D2 A ae p l e R s m args below meth c Q n ad0 k0 n0 r.1 r.2.1 r.2.2.1 r.2.2.2) :
    xSame L st w r ∧ xWW D D2 A ae p l e R s m args below meth c Q n ad0 k0 n0 pc L st w := by
  obtain ⟨rfl, st', h1, rfl⟩ := xnx h
  obtain ⟨x, hx, rfl⟩ := xldl_inv h1
  refine xmk rfl (fun h => h.push trivial) (fun ad H locs ls ha hI hS hl hL ho ho1 hn hc1 hc2 => ?_)
  exact lv_lload C.1.1 C.1.2.1 hdg (xlr_at hl hx) (kk ad H locs ls ha hI hS hl hL ho1 hn hc1 hc2)

theorem xs_dload {k : Nat} (C : xC X D D2 A ae p R s m args meth c M d) (hdg : decode (xMc M) pc = .ok ((.dload k), len)) (h : xone X M (xMo M) pc L st w (.dload k) len = some r) (kk : xWW D D2 A ae p l e R s m args below meth c Q n ad0 k0 n0 r.1 r.2.1 r.2.2.1 r.2.2.2) :
    xSame L st w r ∧ xWW D D2 A ae p l e R s m args below meth c Q n ad0 k0 n0 pc L st w := by
  obtain ⟨rfl, st', h1, rfl⟩ := xnx h
  obtain ⟨x, hx, rfl⟩ := xldd_inv h1
  refine xmk rfl (fun h => h.push trivial) (fun ad H locs ls ha hI hS hl hL ho ho1 hn hc1 hc2 => ?_)
  exact lv_dload C.1.1 C.1.2.1 hdg (xlr_at hl hx) (kk ad H locs ls ha hI hS hl hL ho1 hn hc1 hc2)

theorem xs_iload_n {k : Fin 4} (C : xC X D D2 A ae p R s m args meth c M d) (hdg : decode (xMc M) pc = .ok ((.iload_n k), len)) (h : xone X M (xMo M) pc L st w (.iload_n k) len = some r) (kk : xWW D D2 A ae p l e R s m args below meth c Q n ad0 k0 n0 r.1 r.2.1 r.2.2.1 r.2.2.2) :
    xSame L st w r ∧ xWW D D2 A ae p l e R s m args below meth c Q n ad0 k0 n0 pc L st w := by
  obtain ⟨rfl, st', h1, rfl⟩ := xnx h
  obtain ⟨x, hx, rfl⟩ := xldi_inv h1
  refine xmk rfl (fun h => h.push trivial) (fun ad H locs ls ha hI hS hl hL ho ho1 hn hc1 hc2 => ?_)
  exact lv_iload_n C.1.1 C.1.2.1 hdg rfl (xlr_at hl hx) (kk ad H locs ls ha hI hS hl hL ho1 hn hc1 hc2)

theorem xs_lload_n {k : Fin 4} (C : xC X D D2 A ae p R s m args meth c M d) (hdg : decode (xMc M) pc = .ok ((.lload_n k), len)) (h : xone X M (xMo M) pc L st w (.lload_n k) len = some r) (kk : xWW D D2 A ae p l e R s m args below meth c Q n ad0 k0 n0 r.1 r.2.1 r.2.2.1 r.2.2.2) :
    xSame L st w r ∧ xWW D D2 A ae p l e R s m args below meth c Q n ad0 k0 n0 pc L st w := by
  obtain ⟨rfl, st', h1, rfl⟩ := xnx h
  obtain ⟨x, hx, rfl⟩ := xldl_inv h1
  refine xmk rfl (fun h => h.push trivial) (fun ad H locs ls ha hI hS hl hL ho ho1 hn hc1 hc2 => ?_)
  exact lv_lload_n C.1.1 C.1.2.1 hdg rfl (xlr_at hl hx) (kk ad H locs ls ha hI hS hl hL ho1 hn hc1 hc2)

theorem xs_aload {k : Nat} (C : xC X D D2 A ae p R s m args meth c M d) (hdg : decode (xMc M) pc = .ok ((.aload k), len)) (h : xone X M (xMo M) pc L st w (.aload k) len = some r) (kk : xWW D D2 A ae p l e R s m args below meth c Q n ad0 k0 n0 r.1 r.2.1 r.2.2.1 r.2.2.2) :
    xSame L st w r ∧ xWW D D2 A ae p l e R s m args below meth c Q n ad0 k0 n0 pc L st w := by
  obtain ⟨rfl, st', h1, rfl⟩ := xnx h
  obtain ⟨v, hx, rfl, hv⟩ := xlda_inv h1
  refine xmk rfl (fun h => h.push (h.loc hx)) (fun ad H locs ls ha hI hS hl hL ho ho1 hn hc1 hc2 => ?_)
  rcases hv with ⟨x, rfl⟩ | ⟨x, rfl⟩ | rfl
  · exact lv_aload C.1.1 C.1.2.1 hdg (xlr_at hl hx) (kk ad H locs ls ha hI hS hl hL ho1 hn hc1 hc2)
  · exact lv_aload C.1.1 C.1.2.1 hdg (xlr_at hl hx) (kk ad H locs ls ha hI hS hl hL ho1 hn hc1 hc2)
  · exact lv_aloadN C.1.1 C.1.2.1 hdg (xlr_at hl hx) (kk ad H locs ls ha hI hS hl hL ho1 hn hc1 hc2)

theorem xs_aload_n {k : Fin 4} (C : xC X D D2 A ae p R s m args meth c M d) (hdg : decode (xMc M) pc = .ok ((.aload_n k), len)) (h : xone X M (xMo M) pc L st w (.aload_n k) len = some r) (kk : xWW D D2 A ae p l e R s m args below meth c Q n ad0 k0 n0 r.1 r.2.1 r.2.2.1 r.2.2.2) :
    xSame L st w r ∧ xWW D D2 A ae p l e R s m args below meth c Q n ad0 k0 n0 pc L st w := by
  obtain ⟨rfl, st', h1, rfl⟩ := xnx h
  obtain ⟨v, hx, rfl, hv⟩ := xlda_inv h1
  refine xmk rfl (fun h => h.push (h.loc hx)) (fun ad H locs ls ha hI hS hl hL ho ho1 hn hc1 hc2 => ?_)
  rcases hv with ⟨x, rfl⟩ | ⟨x, rfl⟩ | rfl
  · exact lv_aload_n C.1.1 C.1.2.1 hdg rfl (xlr_at hl hx) (kk ad H locs ls ha hI hS hl hL ho1 hn hc1 hc2)
  · exact lv_aload_n C.1.1 C.1.2.1 hdg rfl (xlr_at hl hx) (kk ad H locs ls ha hI hS hl hL ho1 hn hc1 hc2)
  · exact lv_aload_nN C.1.1 C.1.2.1 hdg rfl (xlr_at hl hx) (kk ad H locs ls ha hI hS hl hL ho1 hn hc1 hc2)

theorem xs_istore {k : Nat} (C : xC X D D2 A ae p R s m args meth c M d) (hdg : decode (xMc M) pc = .ok ((.istore k), len)) (h : xone X M (xMo M) pc L st w (.istore k) len = some r) (kk : xWW D D2 A ae p l e R s m args below meth c Q n ad0 k0 n0 r.1 r.2.1 r.2.2.1 r.2.2.2) :
    xSame L st w r ∧ xWW D D2 A ae p l e R s m args below meth c Q n ad0 k0 n0 pc L st w := by
  obtain ⟨rfl, q, h1, rfl⟩ := xnx h
  obtain ⟨x, r, rfl, hk, rfl⟩ := xsti_inv h1
  refine xmk xst_len (fun h => h.sto) (fun ad H locs ls ha hI hS hl hL ho ho1 hn hc1 hc2 => ?_)
  exact lv_istore C.1.1 C.1.2.1 hdg hl hk rfl (fun ls' h' => kk ad H locs ls' ha hI hS (xlr_st (xv_cat ad ae) h') (xst_len.trans hL) ho1 hn hc1 hc2)

theorem xs_istore_n {k : Fin 4} (C : xC X D D2 A ae p R s m args meth c M d) (hdg : decode (xMc M) pc = .ok ((.istore_n k), len)) (h : xone X M (xMo M) pc L st w (.istore_n k) len = some r) (kk : xWW D D2 A ae p l e R s m args below meth c Q n ad0 k0 n0 r.1 r.2.1 r.2.2.1 r.2.2.2) :
    xSame L st w r ∧ xWW D D2 A ae p l e R s m args below meth c Q n ad0 k0 n0 pc L st w := by
  obtain ⟨rfl, q, h1, rfl⟩ := xnx h
  obtain ⟨x, r, rfl, hk, rfl⟩ := xsti_inv h1
  refine xmk xst_len (fun h => h.sto) (fun ad H locs ls ha hI hS hl hL ho ho1 hn hc1 hc2 => ?_)
  exact lv_istore_n C.1.1 C.1.2.1 hdg rfl hl hk rfl (fun ls' h' => kk ad H locs ls' ha hI hS (xlr_st (xv_cat ad ae) h') (xst_len.trans hL) ho1 hn hc1 hc2)

theorem xs_lstore {k : Nat} (C : xC X D D2 A ae p R s m args meth c M d) (hdg : decode (xMc M) pc = .ok ((.lstore k), len)) (h : xone X M (xMo M) pc L st w (.lstore k) len = some r) (kk : xWW D D2 A ae p l e R s m args below meth c Q n ad0 k0 n0 r.1 r.2.1 r.2.2.1 r.2.2.2) :
    xSame L st w r ∧ xWW D D2 A ae p l e R s m args below meth c Q n ad0 k0 n0 pc L st w := by
  obtain ⟨rfl, q, h1, rfl⟩ := xnx h
  obtain ⟨x, r, rfl, hk, rfl⟩ := xstl_inv h1
  refine xmk xst2_len (fun h => h.sto2) (fun ad H locs ls ha hI hS hl hL ho ho1 hn hc1 hc2 => ?_)
  exact lv_lstore C.1.1 C.1.2.1 hdg hl hk rfl (fun ls' h' => kk ad H locs ls' ha hI hS (xlr_st2 (xv_cat ad ae) h') (xst2_len.trans hL) ho1 hn hc1 hc2)

theorem xs_lstore_n {k : Fin 4} (C : xC X D D2 A ae p R s m args meth c M d) (hdg : decode (xMc M) pc = .ok ((.lstore_n k), len)) (h : xone X M (xMo M) pc L st w (.lstore_n k) len = some r) (kk : xWW D D2 A ae p l e R s m args below meth c Q n ad0 k0 n0 r.1 r.2.1 r.2.2.1 r.2.2.2) :
    xSame L st w r ∧ xWW D D2 A ae p l e R s m args below meth c Q n ad0 k0 n0 pc L st w := by
  obtain ⟨rfl, q, h1, rfl⟩ := xnx h
  obtain ⟨x, r, rfl, hk, rfl⟩ := xstl_inv h1
  refine xmk xst2_len (fun h => h.sto2) (fun ad H locs ls ha hI hS hl hL ho ho1 hn hc1 hc2 => ?_)
  exact lv_lstore_n C.1.1 C.1.2.1 hdg rfl hl hk rfl (fun ls' h' => kk ad H locs ls' ha hI hS (xlr_st2 (xv_cat ad ae) h') (xst2_len.trans hL) ho1 hn hc1 hc2)

theorem xs_dstore {k : Nat} (C : xC X D D2 A ae p R s m args meth c M d) (hdg : decode (xMc M) pc = .ok ((.dstore k), len)) (h : xone X M (xMo M) pc L st w (.dstore k) len = some r) (kk : xWW D D2 A ae p l e R s m args below meth c Q n ad0 k0 n0 r.1 r.2.1 r.2.2.1 r.2.2.2) :
    xSame L st w r ∧ xWW D D2 A ae p l e R s m args below meth c Q n ad0 k0 n0 pc L st w := by
  obtain ⟨rfl, q, h1, rfl⟩ := xnx h
  obtain ⟨x, r, rfl, hk, rfl⟩ := xstd_inv h1
  refine xmk xst2_len (fun h => h.sto2) (fun ad H locs ls ha hI hS hl hL ho ho1 hn hc1 hc2 => ?_)
  exact lv_dstore C.1.1 C.1.2.1 hdg hl hk rfl (fun ls' h' => kk ad H locs ls' ha hI hS (xlr_st2 (xv_cat ad ae) h') (xst2_len.trans hL) ho1 hn hc1 hc2)

theorem xs_astore {k : Nat} (C : xC X D D2 A ae p R s m args meth c M d) (hdg : decode (xMc M) pc = .ok ((.astore k), len)) (h : xone X M (xMo M) pc L st w (.astore k) len = some r) (kk : xWW D D2 A ae p l e R s m args below meth c Q n ad0 k0 n0 r.1 r.2.1 r.2.2.1 r.2.2.2) :
    xSame L st w r ∧ xWW D D2 A ae p l e R s m args below meth c Q n ad0 k0 n0 pc L st w := by
  obtain ⟨rfl, q, h1, rfl⟩ := xnx h
  obtain ⟨v, r, rfl, hk, rfl, hv⟩ := xsta_inv h1
  refine xmk xst_len (fun h => h.sto) (fun ad H locs ls ha hI hS hl hL ho ho1 hn hc1 hc2 => ?_)
  rcases hv with ⟨x, rfl⟩ | ⟨x, rfl⟩ | rfl
  · exact lv_astore C.1.1 C.1.2.1 hdg hl hk rfl (fun ls' h' => kk ad H locs ls' ha hI hS (xlr_st (xv_cat ad ae) h') (xst_len.trans hL) ho1 hn hc1 hc2)
  · exact lv_astore C.1.1 C.1.2.1 hdg hl hk rfl (fun ls' h' => kk ad H locs ls' ha hI hS (xlr_st (xv_cat ad ae) h') (xst_len.trans hL) ho1 hn hc1 hc2)
  · exact lv_astoreN C.1.1 C.1.2.1 hdg hl hk rfl (fun ls' h' => kk ad H locs ls' ha hI hS (xlr_st (xv_cat ad ae) h') (xst_len.trans hL) ho1 hn hc1 hc2)

theorem xs_astore_n {k : Fin 4} (C : xC X D D2 A ae p R s m args meth c M d) (hdg : decode (xMc M) pc = .ok ((.astore_n k), len)) (h : xone X M (xMo M) pc L st w (.astore_n k) len = some r) (kk : xWW D D2 A ae p l e R s m args below meth c Q n ad0 k0 n0 r.1 r.2.1 r.2.2.1 r.2.2.2) :
    xSame L st w r ∧ xWW D D2 A ae p l e R s m args below meth c Q n ad0 k0 n0 pc L st w := by
  obtain ⟨rfl, q, h1, rfl⟩ := xnx h
  obtain ⟨v, r, rfl, hk, rfl, hv⟩ := xsta_inv h1
  refine xmk xst_len (fun h => h.sto) (fun ad H locs ls ha hI hS hl hL ho ho1 hn hc1 hc2 => ?_)
  rcases hv with ⟨x, rfl⟩ | ⟨x, rfl⟩ | rfl
  · exact lv_astore_n C.1.1 C.1.2.1 hdg rfl hl hk rfl (fun ls' h' => kk ad H locs ls' ha hI hS (xlr_st (xv_cat ad ae) h') (xst_len.trans hL) ho1 hn hc1 hc2)
  · exact lv_astore_n C.1.1 C.1.2.1 hdg rfl hl hk rfl (fun ls' h' => kk ad H locs ls' ha hI hS (xlr_st (xv_cat ad ae) h') (xst_len.trans hL) ho1 hn hc1 hc2)
  · exact lv_astore_nN C.1.1 C.1.2.1 hdg rfl hl hk rfl (fun ls' h' => kk ad H locs ls' ha hI hS (xlr_st (xv_cat ad ae) h') (xst_len.trans hL) ho1 hn hc1 hc2)

theorem xs_iinc {k : Nat} {z : Int} (C : xC X D D2 A ae p R s m args meth c M d) (hdg : decode (xMc M) pc = .ok (.iinc k z, len)) (h : xone X M (xMo M) pc L st w (.iinc k z) len = some r) (kk : xWW D D2 A ae p l e R s m args below meth c Q n ad0 k0 n0 r.1 r.2.1 r.2.2.1 r.2.2.2) :
    xSame L st w r ∧ xWW D D2 A ae p l e R s m args below meth c Q n ad0 k0 n0 pc L st w := by
  have h0 : (match xld L k with
      | some (.int x) => xk (decide (k < L.length) && (len == 3 || len == 6)) (some (pc + len, xst L k (.int (x + Int32.ofInt z)), st, w))
      | _ => none) = some r := h
  split at h0
  · next x hx =>
    obtain ⟨h1, h2⟩ := xk_some.mp h0
    cases h2
    rw [Bool.and_eq_true, Bool.or_eq_true] at h1
    have hk : k < L.length := of_decide_eq_true h1.1
    have hok : xok w L st → xok w (xst L k (.int (x + Int32.ofInt z))) st := fun h => (h.push (v := .int (x + Int32.ofInt z)) trivial).sto
    refine ⟨⟨xst_len, rfl, hok⟩, fun ad H locs ls ha hI hS hl hL ho hn hc1 hc2 => ?_⟩
    obtain ⟨k', hk'⟩ := List.getElem?_of_mem (xlv_mem (g := xv ad ae) (k := 0) (u := xv ad ae (.int x)).mpr ⟨k, .int x, xld_get.mp hx, rfl, rfl⟩)
    rw [Nat.zero_add] at hk'
    rcases h1.2 with h | h
    · obtain rfl : len = 3 := by simpa using h
      exact lv_iinc C.1.1 C.1.2.1 hdg hl hk' rfl hk rfl (fun ls' h' => kk ad H locs ls' ha hI hS (xlr_st (xv_cat ad ae) h') (xst_len.trans hL) (hok ho) hn hc1 hc2)
    · obtain rfl : len = 6 := by simpa using h
      exact lv_iincW C.1.1 C.1.2.1 hdg hl hk' rfl hk rfl (fun ls' h' => kk ad H locs ls' ha hI hS (xlr_st (xv_cat ad ae) h') (xst_len.trans hL) (hok ho) hn hc1 hc2)
  · cases h0

theorem xs_iadd (C : xC X D D2 A ae p R s m args meth c M d) (hdg : decode (xMc M) pc = .ok (.iadd, len)) (h : xone X M (xMo M) pc L st w .iadd len = some r) (kk : xWW D D2 A ae p l e R s m args below meth c Q n ad0 k0 n0 r.1 r.2.1 r.2.2.1 r.2.2.2) :
    xSame L st w r ∧ xWW D D2 A ae p l e R s m args below meth c Q n ad0 k0 n0 pc L st w := by
  obtain ⟨rfl, st', h1, rfl⟩ := xnx h
  obtain ⟨x, y, r, v, rfl, h2, rfl⟩ := xi2_inv h1
  cases h2
  refine xmk rfl (fun h => h.tl.tl.push trivial) (fun ad H locs ls ha hI hS hl hL ho ho1 hn hc1 hc2 => ?_)
  exact lv_iadd C.1.1 C.1.2.1 hdg (kk ad H locs ls ha hI hS hl hL ho1 hn hc1 hc2)

theorem xs_isub (C : xC X D D2 A ae p R s m args meth c M d) (hdg : decode (xMc M) pc = .ok (.isub, len)) (h : xone X M (xMo M) pc L st w .isub len = some r) (kk : xWW D D2 A ae p l e R s m args below meth c Q n ad0 k0 n0 r.1 r.2.1 r.2.2.1 r.2.2.2) :
    xSame L st w r ∧ xWW D D2 A ae p l e R s m args below meth c Q n ad0 k0 n0 pc L st w := by
  obtain ⟨rfl, st', h1, rfl⟩ := xnx h
  obtain ⟨x, y, r, v, rfl, h2, rfl⟩ := xi2_inv h1
  cases h2
  refine xmk rfl (fun h => h.tl.tl.push trivial) (fun ad H locs ls ha hI hS hl hL ho ho1 hn hc1 hc2 => ?_)
  exact lv_isub C.1.1 C.1.2.1 hdg (kk ad H locs ls ha hI hS hl hL ho1 hn hc1 hc2)

theorem xs_imul (C : xC X D D2 A ae p R s m args meth c M d) (hdg : decode (xMc M) pc = .ok (.imul, len)) (h : xone X M (xMo M) pc L st w .imul len = some r) (kk : xWW D D2 A ae p l e R s m args below meth c Q n ad0 k0 n0 r.1 r.2.1 r.2.2.1 r.2.2.2) :
    xSame L st w r ∧ xWW D D2 A ae p l e R s m args below meth c Q n ad0 k0 n0 pc L st w := by
  obtain ⟨rfl, st', h1, rfl⟩ := xnx h
  obtain ⟨x, y, r, v, rfl, h2, rfl⟩ := xi2_inv h1
  cases h2
  refine xmk rfl (fun h => h.tl.tl.push trivial) (fun ad H locs ls ha hI hS hl hL ho ho1 hn hc1 hc2 => ?_)
  exact lv_imul C.1.1 C.1.2.1 hdg (kk ad H locs ls ha hI hS hl hL ho1 hn hc1 hc2)

theorem xs_ishl (C : xC X D D2 A ae p R s m args meth c M d) (hdg : decode (xMc M) pc = .ok (.ishl, len)) (h : xone X M (xMo M) pc L st w .ishl len = some r) (kk : xWW D D2 A ae p l e R s m args below meth c Q n ad0 k0 n0 r.1 r.2.1 r.2.2.1 r.2.2.2) :
    xSame L st w r ∧ xWW D D2 A ae p l e R s m args below meth c Q n ad0 k0 n0 pc L st w := by
  obtain ⟨rfl, st', h1, rfl⟩ := xnx h
  obtain ⟨x, y, r, v, rfl, h2, rfl⟩ := xi2_inv h1
  cases h2
  refine xmk rfl (fun h => h.tl.tl.push trivial) (fun ad H locs ls ha hI hS hl hL ho ho1 hn hc1 hc2 => ?_)
  exact lv_ishl C.1.1 C.1.2.1 hdg (kk ad H locs ls ha hI hS hl hL ho1 hn hc1 hc2)

theorem xs_ishr (C : xC X D D2 A ae p R s m args meth c M d) (hdg : decode (xMc M) pc = .ok (.ishr, len)) (h : xone X M (xMo M) pc L st w .ishr len = some r) (kk : xWW D D2 A ae p l e R s m args below meth c Q n ad0 k0 n0 r.1 r.2.1 r.2.2.1 r.2.2.2) :
    xSame L st w r ∧ xWW D D2 A ae p l e R s m args below meth c Q n ad0 k0 n0 pc L st w := by
  obtain ⟨rfl, st', h1, rfl⟩ := xnx h
  obtain ⟨x, y, r, v, rfl, h2, rfl⟩ := xi2_inv h1
  cases h2
  refine xmk rfl (fun h => h.tl.tl.push trivial) (fun ad H locs ls ha hI hS hl hL ho ho1 hn hc1 hc2 => ?_)
  exact lv_ishr C.1.1 C.1.2.1 hdg (kk ad H locs ls ha hI hS hl hL ho1 hn hc1 hc2)

theorem xs_iand (C : xC X D D2 A ae p R s m args meth c M d) (hdg : decode (xMc M) pc = .ok (.iand, len)) (h : xone X M (xMo M) pc L st w .iand len = some r) (kk : xWW D D2 A ae p l e R s m args below meth c Q n ad0 k0 n0 r.1 r.2.1 r.2.2.1 r.2.2.2) :
    xSame L st w r ∧ xWW D D2 A ae p l e R s m args below meth c Q n ad0 k0 n0 pc L st w := by
  obtain ⟨rfl, st', h1, rfl⟩ := xnx h
  obtain ⟨x, y, r, v, rfl, h2, rfl⟩ := xi2_inv h1
  cases h2
  refine xmk rfl (fun h => h.tl.tl.push trivial) (fun ad H locs ls ha hI hS hl hL ho ho1 hn hc1 hc2 => ?_)
  exact lv_iand C.1.1 C.1.2.1 hdg (kk ad H locs ls ha hI hS hl hL ho1 hn hc1 hc2)

theorem xs_ior (C : xC X D D2 A ae p R s m args meth c M d) (hdg : decode (xMc M) pc = .ok (.ior, len)) (h : xone X M (xMo M) pc L st w .ior len = some r) (kk : xWW D D2 A ae p l e R s m args below meth c Q n ad0 k0 n0 r.1 r.2.1 r.2.2.1 r.2.2.2) :
    xSame L st w r ∧ xWW D D2 A ae p l e R s m args below meth c Q n ad0 k0 n0 pc L st w := by
  obtain ⟨rfl, st', h1, rfl⟩ := xnx h
  obtain ⟨x, y, r, v, rfl, h2, rfl⟩ := xi2_inv h1
  cases h2
  refine xmk rfl (fun h => h.tl.tl.push trivial) (fun ad H locs ls ha hI hS hl hL ho ho1 hn hc1 hc2 => ?_)
  exact lv_ior C.1.1 C.1.2.1 hdg (kk ad H locs ls ha hI hS hl hL ho1 hn hc1 hc2)

theorem xs_ixor (C : xC X D D2 A ae p R s m args meth c M d) (hdg : decode (xMc M) pc = .ok (.ixor, len)) (h : xone X M (xMo M) pc L st w .ixor len = some r) (kk : xWW D D2 A ae p l e R s m args below meth c Q n ad0 k0 n0 r.1 r.2.1 r.2.2.1 r.2.2.2) :
    xSame L st w r ∧ xWW D D2 A ae p l e R s m args below meth c Q n ad0 k0 n0 pc L st w := by
  obtain ⟨rfl, st', h1, rfl⟩ := xnx h
  obtain ⟨x, y, r, v, rfl, h2, rfl⟩ := xi2_inv h1
  cases h2
  refine xmk rfl (fun h => h.tl.tl.push trivial) (fun ad H locs ls ha hI hS hl hL ho ho1 hn hc1 hc2 => ?_)
  exact lv_ixor C.1.1 C.1.2.1 hdg (kk ad H locs ls ha hI hS hl hL ho1 hn hc1 hc2)

theorem xs_idiv (C : xC X D D2 A ae p R s m args meth c M d) (hdg : decode (xMc M) pc = .ok (.idiv, len)) (h : xone X M (xMo M) pc L st w .idiv len = some r) (kk : xWW D D2 A ae p l e R s m args below meth c Q n ad0 k0 n0 r.1 r.2.1 r.2.2.1 r.2.2.2) :
    xSame L st w r ∧ xWW D D2 A ae p l e R s m args below meth c Q n ad0 k0 n0 pc L st w := by
  obtain ⟨rfl, st', h1, rfl⟩ := xnx h
  obtain ⟨x, y, r, v, rfl, h2, rfl⟩ := xi2_inv h1
  obtain ⟨hy, h2⟩ := xk_some.mp h2
  cases h2
  have hy0 : ¬ y = 0 := by simpa using hy
  refine xmk rfl (fun h => h.tl.tl.push trivial) (fun ad H locs ls ha hI hS hl hL ho ho1 hn hc1 hc2 => ?_)
  exact lv_idiv C.1.1 C.1.2.1 hdg hy0 (kk ad H locs ls ha hI hS hl hL ho1 hn hc1 hc2)

theorem xs_irem (C : xC X D D2 A ae p R s m args meth c M d) (hdg : decode (xMc M) pc = .ok (.irem, len)) (h : xone X M (xMo M) pc L st w .irem len = some r) (kk : xWW D D2 A ae p l e R s m args below meth c Q n ad0 k0 n0 r.1 r.2.1 r.2.2.1 r.2.2.2) :
    xSame L st w r ∧ xWW D D2 A ae p l e R s m args below meth c Q n ad0 k0 n0 pc L st w := by
  obtain ⟨rfl, st', h1, rfl⟩ := xnx h
  obtain ⟨x, y, r, v, rfl, h2, rfl⟩ := xi2_inv h1
  obtain ⟨hy, h2⟩ := xk_some.mp h2
  cases h2
  have hy0 : ¬ y = 0 := by simpa using hy
  refine xmk rfl (fun h => h.tl.tl.push trivial) (fun ad H locs ls ha hI hS hl hL ho ho1 hn hc1 hc2 => ?_)
  exact lv_irem C.1.1 C.1.2.1 hdg hy0 (kk ad H locs ls ha hI hS hl hL ho1 hn hc1 hc2)

theorem xs_ladd (C : xC X D D2 A ae p R s m args meth c M d) (hdg : decode (xMc M) pc = .ok (.ladd, len)) (h : xone X M (xMo M) pc L st w .ladd len = some r) (kk : xWW D D2 A ae p l e R s m args below meth c Q n ad0 k0 n0 r.1 r.2.1 r.2.2.1 r.2.2.2) :
    xSame L st w r ∧ xWW D D2 A ae p l e R s m args below meth c Q n ad0 k0 n0 pc L st w := by
  obtain ⟨rfl, st', h1, rfl⟩ := xnx h
  obtain ⟨x, y, r, v, rfl, h2, rfl⟩ := xl2_inv h1
  cases h2
  refine xmk rfl (fun h => h.tl.tl.push trivial) (fun ad H locs ls ha hI hS hl hL ho ho1 hn hc1 hc2 => ?_)
  exact lv_ladd C.1.1 C.1.2.1 hdg (kk ad H locs ls ha hI hS hl hL ho1 hn hc1 hc2)

theorem xs_lsub (C : xC X D D2 A ae p R s m args meth c M d) (hdg : decode (xMc M) pc = .ok (.lsub, len)) (h : xone X M (xMo M) pc L st w .lsub len = some r) (kk : xWW D D2 A ae p l e R s m args below meth c Q n ad0 k0 n0 r.1 r.2.1 r.2.2.1 r.2.2.2) :
    xSame L st w r ∧ xWW D D2 A ae p l e R s m args below meth c Q n ad0 k0 n0 pc L st w := by
  obtain ⟨rfl, st', h1, rfl⟩ := xnx h
  obtain ⟨x, y, r, v, rfl, h2, rfl⟩ := xl2_inv h1
  cases h2
  refine xmk rfl (fun h => h.tl.tl.push trivial) (fun ad H locs ls ha hI hS hl hL ho ho1 hn hc1 hc2 => ?_)
  exact lv_lsub C.1.1 C.1.2.1 hdg (kk ad H locs ls ha hI hS hl hL ho1 hn hc1 hc2)

theorem xs_lmul (C : xC X D D2 A ae p R s m args meth c M d) (hdg : decode (xMc M) pc = .ok (.lmul, len)) (h : xone X M (xMo M) pc L st w .lmul len = some r) (kk : xWW D D2 A ae p l e R s m args below meth c Q n ad0 k0 n0 r.1 r.2.1 r.2.2.1 r.2.2.2) :
    xSame L st w r ∧ xWW D D2 A ae p l e R s m args below meth c Q n ad0 k0 n0 pc L st w := by
  obtain ⟨rfl, st', h1, rfl⟩ := xnx h
  obtain ⟨x, y, r, v, rfl, h2, rfl⟩ := xl2_inv h1
  cases h2
  refine xmk rfl (fun h => h.tl.tl.push trivial) (fun ad H locs ls ha hI hS hl hL ho ho1 hn hc1 hc2 => ?_)
  exact lv_lmul C.1.1 C.1.2.1 hdg (kk ad H locs ls ha hI hS hl hL ho1 hn hc1 hc2)

theorem xs_land (C : xC X D D2 A ae p R s m args meth c M d) (hdg : decode (xMc M) pc = .ok (.land, len)) (h : xone X M (xMo M) pc L st w .land len = some r) (kk : xWW D D2 A ae p l e R s m args below meth c Q n ad0 k0 n0 r.1 r.2.1 r.2.2.1 r.2.2.2) :
    xSame L st w r ∧ xWW D D2 A ae p l e R s m args below meth c Q n ad0 k0 n0 pc L st w := by
  obtain ⟨rfl, st', h1, rfl⟩ := xnx h
  obtain ⟨x, y, r, v, rfl, h2, rfl⟩ := xl2_inv h1
  cases h2
  refine xmk rfl (fun h => h.tl.tl.push trivial) (fun ad H locs ls ha hI hS hl hL ho ho1 hn hc1 hc2 => ?_)
  exact lv_land C.1.1 C.1.2.1 hdg (kk ad H locs ls ha hI hS hl hL ho1 hn hc1 hc2)

theorem xs_lor (C : xC X D D2 A ae p R s m args meth c M d) (hdg : decode (xMc M) pc = .ok (.lor, len)) (h : xone X M (xMo M) pc L st w .lor len = some r) (kk : xWW D D2 A ae p l e R s m args below meth c Q n ad0 k0 n0 r.1 r.2.1 r.2.2.1 r.2.2.2) :
    xSame L st w r ∧ xWW D D2 A ae p l e R s m args below meth c Q n ad0 k0 n0 pc L st w := by
  obtain ⟨rfl, st', h1, rfl⟩ := xnx h
  obtain ⟨x, y, r, v, rfl, h2, rfl⟩ := xl2_inv h1
  cases h2
  refine xmk rfl (fun h => h.tl.tl.push trivial) (fun ad H locs ls ha hI hS hl hL ho ho1 hn hc1 hc2 => ?_)
  exact lv_lor C.1.1 C.1.2.1 hdg (kk ad H locs ls ha hI hS hl hL ho1 hn hc1 hc2)

theorem xs_lxor (C : xC X D D2 A ae p R s m args meth c M d) (hdg : decode (xMc M) pc = .ok (.lxor, len)) (h : xone X M (xMo M) pc L st w .lxor len = some r) (kk : xWW D D2 A ae p l e R s m args below meth c Q n ad0 k0 n0 r.1 r.2.1 r.2.2.1 r.2.2.2) :
    xSame L st w r ∧ xWW D D2 A ae p l e R s m args below meth c Q n ad0 k0 n0 pc L st w := by
  obtain ⟨rfl, st', h1, rfl⟩ := xnx h
  obtain ⟨x, y, r, v, rfl, h2, rfl⟩ := xl2_inv h1
  cases h2
  refine xmk rfl (fun h => h.tl.tl.push trivial) (fun ad H locs ls ha hI hS hl hL ho ho1 hn hc1 hc2 => ?_)
  exact lv_lxor C.1.1 C.1.2.1 hdg (kk ad H locs ls ha hI hS hl hL ho1 hn hc1 hc2)

theorem xs_ldiv (C : xC X D D2 A ae p R s m args meth c M d) (hdg : decode (xMc M) pc = .ok (.ldiv, len)) (h : xone X M (xMo M) pc L st w .ldiv len = some r) (kk : xWW D D2 A ae p l e R s m args below meth c Q n ad0 k0 n0 r.1 r.2.1 r.2.2.1 r.2.2.2) :
    xSame L st w r ∧ xWW D D2 A ae p l e R s m args below meth c Q n ad0 k0 n0 pc L st w := by
  obtain ⟨rfl, st', h1, rfl⟩ := xnx h
  obtain ⟨x, y, r, v, rfl, h2, rfl⟩ := xl2_inv h1
  obtain ⟨hy, h2⟩ := xk_some.mp h2
  cases h2
  have hy0 : ¬ y = 0 := by simpa using hy
  refine xmk rfl (fun h => h.tl.tl.push trivial) (fun ad H locs ls ha hI hS hl hL ho ho1 hn hc1 hc2 => ?_)
  exact lv_ldiv C.1.1 C.1.2.1 hdg hy0 (kk ad H locs ls ha hI hS hl hL ho1 hn hc1 hc2)

theorem xs_lcmp (C : xC X D D2 A ae p R s m args meth c M d) (hdg : decode (xMc M) pc = .ok (.lcmp, len)) (h : xone X M (xMo M) pc L st w .lcmp len = some r) (kk : xWW D D2 A ae p l e R s m args below meth c Q n ad0 k0 n0 r.1 r.2.1 r.2.2.1 r.2.2.2) :
    xSame L st w r ∧ xWW D D2 A ae p l e R s m args below meth c Q n ad0 k0 n0 pc L st w := by
  obtain ⟨rfl, st', h1, rfl⟩ := xnx h
  obtain ⟨x, y, r, v, rfl, h2, rfl⟩ := xl2_inv h1
  cases h2
  refine xmk rfl (fun h => h.tl.tl.push trivial) (fun ad H locs ls ha hI hS hl hL ho ho1 hn hc1 hc2 => ?_)
  exact W.lcmp C.1.1 C.1.2.1 hdg (kk ad H locs ls ha hI hS hl hL ho1 hn hc1 hc2)

theorem xs_ineg (C : xC X D D2 A ae p R s m args meth c M d) (hdg : decode (xMc M) pc = .ok (.ineg, len)) (h : xone X M (xMo M) pc L st w .ineg len = some r) (kk : xWW D D2 A ae p l e R s m args below meth c Q n ad0 k0 n0 r.1 r.2.1 r.2.2.1 r.2.2.2) :
    xSame L st w r ∧ xWW D D2 A ae p l e R s m args below meth c Q n ad0 k0 n0 pc L st w := by
  obtain ⟨rfl, st', h1, rfl⟩ := xnx h
  obtain ⟨x, r, rfl, rfl⟩ := xi1_inv h1
  refine xmk rfl (fun h => h.tl.push trivial) (fun ad H locs ls ha hI hS hl hL ho ho1 hn hc1 hc2 => ?_)
  exact lv_ineg C.1.1 C.1.2.1 hdg (kk ad H locs ls ha hI hS hl hL ho1 hn hc1 hc2)

theorem xs_i2l (C : xC X D D2 A ae p R s m args meth c M d) (hdg : decode (xMc M) pc = .ok (.i2l, len)) (h : xone X M (xMo M) pc L st w .i2l len = some r) (kk : xWW D D2 A ae p l e R s m args below meth c Q n ad0 k0 n0 r.1 r.2.1 r.2.2.1 r.2.2.2) :
    xSame L st w r ∧ xWW D D2 A ae p l e R s m args below meth c Q n ad0 k0 n0 pc L st w := by
  obtain ⟨rfl, st', h1, rfl⟩ := xnx h
  obtain ⟨x, r, rfl, rfl⟩ := xi1_inv h1
  refine xmk rfl (fun h => h.tl.push trivial) (fun ad H locs ls ha hI hS hl hL ho ho1 hn hc1 hc2 => ?_)
  exact lv_i2l C.1.1 C.1.2.1 hdg rfl (kk ad H locs ls ha hI hS hl hL ho1 hn hc1 hc2)

theorem xs_i2b (C : xC X D D2 A ae p R s m args meth c M d) (hdg : decode (xMc M) pc = .ok (.i2b, len)) (h : xone X M (xMo M) pc L st w .i2b len = some r) (kk : xWW D D2 A ae p l e R s m args below meth c Q n ad0 k0 n0 r.1 r.2.1 r.2.2.1 r.2.2.2) :
    xSame L st w r ∧ xWW D D2 A ae p l e R s m args below meth c Q n ad0 k0 n0 pc L st w := by
  obtain ⟨rfl, st', h1, rfl⟩ := xnx h
  obtain ⟨x, r, rfl, rfl⟩ := xi1_inv h1
  refine xmk rfl (fun h => h.tl.push trivial) (fun ad H locs ls ha hI hS hl hL ho ho1 hn hc1 hc2 => ?_)
  exact lv_i2b C.1.1 C.1.2.1 hdg rfl (kk ad H locs ls ha hI hS hl hL ho1 hn hc1 hc2)

theorem xs_i2c (C : xC X D D2 A ae p R s m args meth c M d) (hdg : decode (xMc M) pc = .ok (.i2c, len)) (h : xone X M (xMo M) pc L st w .i2c len = some r) (kk : xWW D D2 A ae p l e R s m args below meth c Q n ad0 k0 n0 r.1 r.2.1 r.2.2.1 r.2.2.2) :
    xSame L st w r ∧ xWW D D2 A ae p l e R s m args below meth c Q n ad0 k0 n0 pc L st w := by
  obtain ⟨rfl, st', h1, rfl⟩ := xnx h
  obtain ⟨x, r, rfl, rfl⟩ := xi1_inv h1
  refine xmk rfl (fun h => h.tl.push trivial) (fun ad H locs ls ha hI hS hl hL ho ho1 hn hc1 hc2 => ?_)
  exact lv_i2c C.1.1 C.1.2.1 hdg rfl (kk ad H locs ls ha hI hS hl hL ho1 hn hc1 hc2)

theorem xs_i2d (C : xC X D D2 A ae p R s m args meth c M d) (hdg : decode (xMc M) pc = .ok (.i2d, len)) (h : xone X M (xMo M) pc L st w .i2d len = some r) (kk : xWW D D2 A ae p l e R s m args below meth c Q n ad0 k0 n0 r.1 r.2.1 r.2.2.1 r.2.2.2) :
    xSame L st w r ∧ xWW D D2 A ae p l e R s m args below meth c Q n ad0 k0 n0 pc L st w := by
  obtain ⟨rfl, st', h1, rfl⟩ := xnx h
  obtain ⟨x, r, rfl, rfl⟩ := xi1_inv h1
  refine xmk rfl (fun h => h.tl.push trivial) (fun ad H locs ls ha hI hS hl hL ho ho1 hn hc1 hc2 => ?_)
  exact lv_i2d C.1.1 C.1.2.1 hdg (kk ad H locs ls ha hI hS hl hL ho1 hn hc1 hc2)

theorem xs_lneg (C : xC X D D2 A ae p R s m args meth c M d) (hdg : decode (xMc M) pc = .ok (.lneg, len)) (h : xone X M (xMo M) pc L st w .lneg len = some r) (kk : xWW D D2 A ae p l e R s m args below meth c Q n ad0 k0 n0 r.1 r.2.1 r.2.2.1 r.2.2.2) :
    xSame L st w r ∧ xWW D D2 A ae p l e R s m args below meth c Q n ad0 k0 n0 pc L st w := by
  obtain ⟨rfl, st', h1, rfl⟩ := xnx h
  obtain ⟨x, r, rfl, rfl⟩ := xl1_inv h1
  refine xmk rfl (fun h => h.tl.push trivial) (fun ad H locs ls ha hI hS hl hL ho ho1 hn hc1 hc2 => ?_)
  exact lv_lneg C.1.1 C.1.2.1 hdg (kk ad H locs ls ha hI hS hl hL ho1 hn hc1 hc2)

theorem xs_l2i (C : xC X D D2 A ae p R s m args meth c M d) (hdg : decode (xMc M) pc = .ok (.l2i, len)) (h : xone X M (xMo M) pc L st w .l2i len = some r) (kk : xWW D D2 A ae p l e R s m args below meth c Q n ad0 k0 n0 r.1 r.2.1 r.2.2.1 r.2.2.2) :
    xSame L st w r ∧ xWW D D2 A ae p l e R s m args below meth c Q n ad0 k0 n0 pc L st w := by
  obtain ⟨rfl, st', h1, rfl⟩ := xnx h
  obtain ⟨x, r, rfl, rfl⟩ := xl1_inv h1
  refine xmk rfl (fun h => h.tl.push trivial) (fun ad H locs ls ha hI hS hl hL ho ho1 hn hc1 hc2 => ?_)
  exact lv_l2i C.1.1 C.1.2.1 hdg rfl (kk ad H locs ls ha hI hS hl hL ho1 hn hc1 hc2)

theorem xs_l2d (C : xC X D D2 A ae p R s m args meth c M d) (hdg : decode (xMc M) pc = .ok (.l2d, len)) (h : xone X M (xMo M) pc L st w .l2d len = some r) (kk : xWW D D2 A ae p l e R s m args below meth c Q n ad0 k0 n0 r.1 r.2.1 r.2.2.1 r.2.2.2) :
    xSame L st w r ∧ xWW D D2 A ae p l e R s m args below meth c Q n ad0 k0 n0 pc L st w := by
  obtain ⟨rfl, st', h1, rfl⟩ := xnx h
  obtain ⟨x, r, rfl, rfl⟩ := xl1_inv h1
  refine xmk rfl (fun h => h.tl.push trivial) (fun ad H locs ls ha hI hS hl hL ho ho1 hn hc1 hc2 => ?_)
  exact lv_l2d C.1.1 C.1.2.1 hdg (kk ad H locs ls ha hI hS hl hL ho1 hn hc1 hc2)

theorem xs_lshl (C : xC X D D2 A ae p R s m args meth c M d) (hdg : decode (xMc M) pc = .ok (.lshl, len)) (h : xone X M (xMo M) pc L st w .lshl len = some r) (kk : xWW D D2 A ae p l e R s m args below meth c Q n ad0 k0 n0 r.1 r.2.1 r.2.2.1 r.2.2.2) :
    xSame L st w r ∧ xWW D D2 A ae p l e R s m args below meth c Q n ad0 k0 n0 pc L st w := by
  obtain ⟨rfl, st', h1, rfl⟩ := xnx h
  obtain ⟨x, y, r, rfl, rfl⟩ := xls_inv h1
  refine xmk rfl (fun h => h.tl.tl.push trivial) (fun ad H locs ls ha hI hS hl hL ho ho1 hn hc1 hc2 => ?_)
  exact lv_lshl C.1.1 C.1.2.1 hdg rfl (kk ad H locs ls ha hI hS hl hL ho1 hn hc1 hc2)

theorem xs_lshr (C : xC X D D2 A ae p R s m args meth c M d) (hdg : decode (xMc M) pc = .ok (.lshr, len)) (h : xone X M (xMo M) pc L st w .lshr len = some r) (kk : xWW D D2 A ae p l e R s m args below meth c Q n ad0 k0 n0 r.1 r.2.1 r.2.2.1 r.2.2.2) :
    xSame L st w r ∧ xWW D D2 A ae p l e R s m args below meth c Q n ad0 k0 n0 pc L st w := by
  obtain ⟨rfl, st', h1, rfl⟩ := xnx h
  obtain ⟨x, y, r, rfl, rfl⟩ := xls_inv h1
  refine xmk rfl (fun h => h.tl.tl.push trivial) (fun ad H locs ls ha hI hS hl hL ho ho1 hn hc1 hc2 => ?_)
  exact lv_lshr C.1.1 C.1.2.1 hdg rfl (kk ad H locs ls ha hI hS hl hL ho1 hn hc1 hc2)

theorem xs_lushr (C : xC X D D2 A ae p R s m args meth c M d) (hdg : decode (xMc M) pc = .ok (.lushr, len)) (h : xone X M (xMo M) pc L st w .lushr len = some r) (kk : xWW D D2 A ae p l e R s m args below meth c Q n ad0 k0 n0 r.1 r.2.1 r.2.2.1 r.2.2.2) :
    xSame L st w r ∧ xWW D D2 A ae p l e R s m args below meth c Q n ad0 k0 n0 pc L st w := by
  obtain ⟨rfl, st', h1, rfl⟩ := xnx h
  obtain ⟨x, y, r, rfl, rfl⟩ := xls_inv h1
  refine xmk rfl (fun h => h.tl.tl.push trivial) (fun ad H locs ls ha hI hS hl hL ho ho1 hn hc1 hc2 => ?_)
  exact lv_lushr C.1.1 C.1.2.1 hdg rfl (kk ad H locs ls ha hI hS hl hL ho1 hn hc1 hc2)

theorem xs_ddiv (C : xC X D D2 A ae p R s m args meth c M d) (hdg : decode (xMc M) pc = .ok (.ddiv, len)) (h : xone X M (xMo M) pc L st w .ddiv len = some r) (kk : xWW D D2 A ae p l e R s m args below meth c Q n ad0 k0 n0 r.1 r.2.1 r.2.2.1 r.2.2.2) :
    xSame L st w r ∧ xWW D D2 A ae p l e R s m args below meth c Q n ad0 k0 n0 pc L st w := by
  obtain ⟨rfl, st', h1, rfl⟩ := xnx h
  split at h1
  rotate_left
  · cases h1
  next y x r =>
  obtain ⟨h2, h1⟩ := xk_some.mp h1
  cases h1
  have h3 := of_decide_eq_true h2
  refine xmk rfl (fun h => h.tl.tl.push trivial) (fun ad H locs ls ha hI hS hl hL ho ho1 hn hc1 hc2 => ?_)
  exact lv_ddiv C.1.1 C.1.2.1 hdg h3 (kk ad H locs ls ha hI hS hl hL ho1 hn hc1 hc2)

theorem xs_dcmp {op : CmpOp} (C : xC X D D2 A ae p R s m args meth c M d) (hdg : decode (xMc M) pc = .ok ((.dcmp op), len)) (h : xone X M (xMo M) pc L st w (.dcmp op) len = some r) (kk : xWW D D2 A ae p l e R s m args below meth c Q n ad0 k0 n0 r.1 r.2.1 r.2.2.1 r.2.2.2) :
    xSame L st w r ∧ xWW D D2 A ae p l e R s m args below meth c Q n ad0 k0 n0 pc L st w := by
  obtain ⟨rfl, st', h1, rfl⟩ := xnx h
  split at h1
  rotate_left
  · cases h1
  next y x r =>
  cases h1
  refine xmk rfl (fun h => h.tl.tl.push trivial) (fun ad H locs ls ha hI hS hl hL ho ho1 hn hc1 hc2 => ?_)
  exact lv_dcmp C.1.1 C.1.2.1 hdg (kk ad H locs ls ha hI hS hl hL ho1 hn hc1 hc2)

theorem xs_dup (C : xC X D D2 A ae p R s m args meth c M d) (hdg : decode (xMc M) pc = .ok (.dup, len)) (h : xone X M (xMo M) pc L st w .dup len = some r) (kk : xWW D D2 A ae p l e R s m args below meth c Q n ad0 k0 n0 r.1 r.2.1 r.2.2.1 r.2.2.2) :
    xSame L st w r ∧ xWW D D2 A ae p l e R s m args below meth c Q n ad0 k0 n0 pc L st w := by
  obtain ⟨rfl, st', h1, rfl⟩ := xnx h
  split at h1
  rotate_left
  · cases h1
  next v r =>
  obtain ⟨h2, h1⟩ := xk_some.mp h1
  cases h1
  refine xmk rfl (fun h => h.push h.hd) (fun ad H locs ls ha hI hS hl hL ho ho1 hn hc1 hc2 => ?_)
  exact lv_dup C.1.1 C.1.2.1 hdg (xc1_cat h2) (kk ad H locs ls ha hI hS hl hL ho1 hn hc1 hc2)

theorem xs_pop (C : xC X D D2 A ae p R s m args meth c M d) (hdg : decode (xMc M) pc = .ok (.pop, len)) (h : xone X M (xMo M) pc L st w .pop len = some r) (kk : xWW D D2 A ae p l e R s m args below meth c Q n ad0 k0 n0 r.1 r.2.1 r.2.2.1 r.2.2.2) :
    xSame L st w r ∧ xWW D D2 A ae p l e R s m args below meth c Q n ad0 k0 n0 pc L st w := by
  obtain ⟨rfl, st', h1, rfl⟩ := xnx h
  split at h1
  rotate_left
  · cases h1
  next v r =>
  obtain ⟨h2, h1⟩ := xk_some.mp h1
  cases h1
  refine xmk rfl (fun h => h.tl) (fun ad H locs ls ha hI hS hl hL ho ho1 hn hc1 hc2 => ?_)
  exact lv_pop C.1.1 C.1.2.1 hdg (xc1_cat h2) (kk ad H locs ls ha hI hS hl hL ho1 hn hc1 hc2)

theorem xs_dup_x1 (C : xC X D D2 A ae p R s m args meth c M d) (hdg : decode (xMc M) pc = .ok (.dup_x1, len)) (h : xone X M (xMo M) pc L st w .dup_x1 len = some r) (kk : xWW D D2 A ae p l e R s m args below meth c Q n ad0 k0 n0 r.1 r.2.1 r.2.2.1 r.2.2.2) :
    xSame L st w r ∧ xWW D D2 A ae p l e R s m args below meth c Q n ad0 k0 n0 pc L st w := by
  obtain ⟨rfl, st', h1, rfl⟩ := xnx h
  split at h1
  rotate_left
  · cases h1
  next v u r =>
  obtain ⟨h2, h1⟩ := xk_some.mp h1
  cases h1
  rw [Bool.and_eq_true] at h2
  refine xmk rfl (fun h => ((h.tl.tl.push h.hd).push h.tl.hd).push h.hd) (fun ad H locs ls ha hI hS hl hL ho ho1 hn hc1 hc2 => ?_)
  exact lv_dup_x1 C.1.1 C.1.2.1 hdg (xc1_cat h2.1) (xc1_cat h2.2) (kk ad H locs ls ha hI hS hl hL ho1 hn hc1 hc2)

theorem xs_dup2 (C : xC X D D2 A ae p R s m args meth c M d) (hdg : decode (xMc M) pc = .ok (.dup2, len)) (h : xone X M (xMo M) pc L st w .dup2 len = some r) (kk : xWW D D2 A ae p l e R s m args below meth c Q n ad0 k0 n0 r.1 r.2.1 r.2.2.1 r.2.2.2) :
    xSame L st w r ∧ xWW D D2 A ae p l e R s m args below meth c Q n ad0 k0 n0 pc L st w := by
  obtain ⟨rfl, st', h1, rfl⟩ := xnx h
  split at h1
  rotate_left
  · cases h1
  next v u r =>
  obtain ⟨h2, h1⟩ := xk_some.mp h1
  cases h1
  rw [Bool.and_eq_true] at h2
  refine xmk rfl (fun h => (h.push h.tl.hd).push h.hd) (fun ad H locs ls ha hI hS hl hL ho ho1 hn hc1 hc2 => ?_)
  exact lv_dup2_11 C.1.1 C.1.2.1 hdg (xc1_cat h2.1) (xc1_cat h2.2) (kk ad H locs ls ha hI hS hl hL ho1 hn hc1 hc2)

theorem xs_goto {off : Int} (C : xC X D D2 A ae p R s m args meth c M d) (hdg : decode (xMc M) pc = .ok ((.goto off), len)) (h : xone X M (xMo M) pc L st w (.goto off) len = some r) (kk : xWW D D2 A ae p l e R s m args below meth c Q n ad0 k0 n0 r.1 r.2.1 r.2.2.1 r.2.2.2) :
    xSame L st w r ∧ xWW D D2 A ae p l e R s m args below meth c Q n ad0 k0 n0 pc L st w := by
  simp only [xone] at h
  obtain ⟨hlen, h1⟩ := xk_some.mp h
  obtain rfl : len = 3 := by simpa using hlen
  obtain ⟨t, ht, rfl⟩ := xjp_inv h1
  refine xmk rfl (fun h => h) (fun ad H locs ls ha hI hS hl hL ho ho1 hn hc1 hc2 => ?_)
  exact lv_goto C.1.1 C.1.2.1 hdg ht (kk ad H locs ls ha hI hS hl hL ho1 hn hc1 hc2)

theorem xs_ifCond {cnd : Jvm.ClassFile.Cond} {off : Int} (C : xC X D D2 A ae p R s m args meth c M d) (hdg : decode (xMc M) pc = .ok ((.ifCond cnd off), len)) (h : xone X M (xMo M) pc L st w (.ifCond cnd off) len = some r) (kk : xWW D D2 A ae p l e R s m args below meth c Q n ad0 k0 n0 r.1 r.2.1 r.2.2.1 r.2.2.2) :
    xSame L st w r ∧ xWW D D2 A ae p l e R s m args below meth c Q n ad0 k0 n0 pc L st w := by
  simp only [xone] at h
  obtain ⟨hlen, h1⟩ := xk_some.mp h
  obtain rfl : len = 3 := by simpa using hlen
  split at h1
  rotate_left
  · cases h1
  next x r =>
  obtain ⟨t, ht, rfl⟩ := xbr_inv h1
  refine xmk rfl (fun h => h.tl) (fun ad H locs ls ha hI hS hl hL ho ho1 hn hc1 hc2 => ?_)
  cases cnd
  · refine lv_if_eq C.1.1 C.1.2.1 hdg ht (fun hc => ?_) (fun hc => ?_)
    · have := (kk ad H locs ls ha hI hS hl hL ho1 hn hc1 hc2)
      rw [show xcmp _ x 0 = true by simp [xcmp, hc]] at this
      exact this
    · have := (kk ad H locs ls ha hI hS hl hL ho1 hn hc1 hc2)
      rw [show xcmp _ x 0 = false by simpa [xcmp] using hc] at this
      exact this
  · refine lv_if_ne C.1.1 C.1.2.1 hdg ht (fun hc => ?_) (fun hc => ?_)
    · have := (kk ad H locs ls ha hI hS hl hL ho1 hn hc1 hc2)
      rw [show xcmp _ x 0 = true by simp [xcmp, hc]] at this
      exact this
    · have := (kk ad H locs ls ha hI hS hl hL ho1 hn hc1 hc2)
      rw [show xcmp _ x 0 = false by simpa [xcmp] using hc] at this
      exact this
  · refine lv_if_lt C.1.1 C.1.2.1 hdg ht (fun hc => ?_) (fun hc => ?_)
    · have := (kk ad H locs ls ha hI hS hl hL ho1 hn hc1 hc2)
      rw [show xcmp _ x 0 = true by simp [xcmp, hc]] at this
      exact this
    · have := (kk ad H locs ls ha hI hS hl hL ho1 hn hc1 hc2)
      rw [show xcmp _ x 0 = false by simpa [xcmp] using hc] at this
      exact this
  · refine lv_if_ge C.1.1 C.1.2.1 hdg ht (fun hc => ?_) (fun hc => ?_)
    · have := (kk ad H locs ls ha hI hS hl hL ho1 hn hc1 hc2)
      rw [show xcmp _ x 0 = true by simp [xcmp, hc]] at this
      exact this
    · have := (kk ad H locs ls ha hI hS hl hL ho1 hn hc1 hc2)
      rw [show xcmp _ x 0 = false by simpa [xcmp] using hc] at this
      exact this
  · refine lv_if_gt C.1.1 C.1.2.1 hdg ht (fun hc => ?_) (fun hc => ?_)
    · have := (kk ad H locs ls ha hI hS hl hL ho1 hn hc1 hc2)
      rw [show xcmp _ x 0 = true by simp [xcmp, hc]] at this
      exact this
    · have := (kk ad H locs ls ha hI hS hl hL ho1 hn hc1 hc2)
      rw [show xcmp _ x 0 = false by simpa [xcmp] using hc] at this
      exact this
  · refine lv_if_le C.1.1 C.1.2.1 hdg ht (fun hc => ?_) (fun hc => ?_)
    · have := (kk ad H locs ls ha hI hS hl hL ho1 hn hc1 hc2)
      rw [show xcmp _ x 0 = true by simp [xcmp, hc]] at this
      exact this
    · have := (kk ad H locs ls ha hI hS hl hL ho1 hn hc1 hc2)
      rw [show xcmp _ x 0 = false by simpa [xcmp] using hc] at this
      exact this

theorem xs_if_icmp {cnd : Jvm.ClassFile.Cond} {off : Int} (C : xC X D D2 A ae p R s m args meth c M d) (hdg : decode (xMc M) pc = .ok ((.if_icmp cnd off), len)) (h : xone X M (xMo M) pc L st w (.if_icmp cnd off) len = some r) (kk : xWW D D2 A ae p l e R s m args below meth c Q n ad0 k0 n0 r.1 r.2.1 r.2.2.1 r.2.2.2) :
    xSame L st w r ∧ xWW D D2 A ae p l e R s m args below meth c Q n ad0 k0 n0 pc L st w := by
  simp only [xone] at h
  obtain ⟨hlen, h1⟩ := xk_some.mp h
  obtain rfl : len = 3 := by simpa using hlen
  split at h1
  rotate_left
  · cases h1
  next y x r =>
  obtain ⟨t, ht, rfl⟩ := xbr_inv h1
  refine xmk rfl (fun h => h.tl.tl) (fun ad H locs ls ha hI hS hl hL ho ho1 hn hc1 hc2 => ?_)
  cases cnd
  · refine lv_icmp_eq C.1.1 C.1.2.1 hdg ht (fun hc => ?_) (fun hc => ?_)
    · have := (kk ad H locs ls ha hI hS hl hL ho1 hn hc1 hc2)
      rw [show xcmp _ x y = true by simp [xcmp, hc]] at this
      exact this
    · have := (kk ad H locs ls ha hI hS hl hL ho1 hn hc1 hc2)
      rw [show xcmp _ x y = false by simpa [xcmp] using hc] at this
      exact this
  · refine lv_icmp_ne C.1.1 C.1.2.1 hdg ht (fun hc => ?_) (fun hc => ?_)
    · have := (kk ad H locs ls ha hI hS hl hL ho1 hn hc1 hc2)
      rw [show xcmp _ x y = true by simp [xcmp, hc]] at this
      exact this
    · have := (kk ad H locs ls ha hI hS hl hL ho1 hn hc1 hc2)
      rw [show xcmp _ x y = false by simpa [xcmp] using hc] at this
      exact this
  · refine lv_icmp_lt C.1.1 C.1.2.1 hdg ht (fun hc => ?_) (fun hc => ?_)
    · have := (kk ad H locs ls ha hI hS hl hL ho1 hn hc1 hc2)
      rw [show xcmp _ x y = true by simp [xcmp, hc]] at this
      exact this
    · have := (kk ad H locs ls ha hI hS hl hL ho1 hn hc1 hc2)
      rw [show xcmp _ x y = false by simpa [xcmp] using hc] at this
      exact this
  · refine lv_icmp_ge C.1.1 C.1.2.1 hdg ht (fun hc => ?_) (fun hc => ?_)
    · have := (kk ad H locs ls ha hI hS hl hL ho1 hn hc1 hc2)
      rw [show xcmp _ x y = true by simp [xcmp, hc]] at this
      exact this
    · have := (kk ad H locs ls ha hI hS hl hL ho1 hn hc1 hc2)
      rw [show xcmp _ x y = false by simpa [xcmp] using hc] at this
      exact this
  · refine lv_icmp_gt C.1.1 C.1.2.1 hdg ht (fun hc => ?_) (fun hc => ?_)
    · have := (kk ad H locs ls ha hI hS hl hL ho1 hn hc1 hc2)
      rw [show xcmp _ x y = true by simp [xcmp, hc]] at this
      exact this
    · have := (kk ad H locs ls ha hI hS hl hL ho1 hn hc1 hc2)
      rw [show xcmp _ x y = false by simpa [xcmp] using hc] at this
      exact this
  · refine lv_icmp_le C.1.1 C.1.2.1 hdg ht (fun hc => ?_) (fun hc => ?_)
    · have := (kk ad H locs ls ha hI hS hl hL ho1 hn hc1 hc2)
      rw [show xcmp _ x y = true by simp [xcmp, hc]] at this
      exact this
    · have := (kk ad H locs ls ha hI hS hl hL ho1 hn hc1 hc2)
      rw [show xcmp _ x y = false by simpa [xcmp] using hc] at this
      exact this

theorem xs_ifnonnull {off : Int} (C : xC X D D2 A ae p R s m args meth c M d) (hdg : decode (xMc M) pc = .ok (.ifnonnull off, len)) (h : xone X M (xMo M) pc L st w (.ifnonnull off) len = some r) (kk : xWW D D2 A ae p l e R s m args below meth c Q n ad0 k0 n0 r.1 r.2.1 r.2.2.1 r.2.2.2) :
    xSame L st w r ∧ xWW D D2 A ae p l e R s m args below meth c Q n ad0 k0 n0 pc L st w := by
  simp only [xone] at h
  obtain ⟨hlen, h⟩ := xk_some.mp h
  obtain rfl : len = 3 := by simpa using hlen
  split at h
  · cases h
    exact ⟨⟨rfl, rfl, fun h => h.tl⟩, fun ad H locs ls ha hI hS hl hL ho hn hc1 hc2 => lv_ifnonnullN C.1.1 C.1.2.1 hdg (kk ad H locs ls ha hI hS hl hL ho.tl hn hc1 hc2)⟩
  · obtain ⟨t, ht, rfl⟩ := xjp_inv h
    exact ⟨⟨rfl, rfl, fun h => h.tl⟩, fun ad H locs ls ha hI hS hl hL ho hn hc1 hc2 => lv_ifnonnull C.1.1 C.1.2.1 hdg ht (kk ad H locs ls ha hI hS hl hL ho.tl hn hc1 hc2)⟩
  · obtain ⟨t, ht, rfl⟩ := xjp_inv h
    exact ⟨⟨rfl, rfl, fun h => h.tl⟩, fun ad H locs ls ha hI hS hl hL ho hn hc1 hc2 => lv_ifnonnull C.1.1 C.1.2.1 hdg ht (kk ad H locs ls ha hI hS hl hL ho.tl hn hc1 hc2)⟩
  · cases h
theorem xs_tableswitch {z lo hi : Int} {offs : Array Int} (C : xC X D D2 A ae p R s m args meth c M d) (hdg : decode (xMc M) pc = .ok (.tableswitch z lo hi offs, len)) (h : xone X M (xMo M) pc L st w (.tableswitch z lo hi offs) len = some r) (kk : xWW D D2 A ae p l e R s m args below meth c Q n ad0 k0 n0 r.1 r.2.1 r.2.2.1 r.2.2.2) :
    xSame L st w r ∧ xWW D D2 A ae p l e R s m args below meth c Q n ad0 k0 n0 pc L st w := by
  have h0 := h
  simp only [xone] at h0
  split at h0
  · next x r' =>
    split at h0
    · next hc =>
      obtain ⟨t, ht, rfl⟩ := xjp_inv h0
      exact ⟨⟨rfl, rfl, fun h => h.tl⟩, fun ad H locs ls ha hI hS hl hL ho hn hc1 hc2 => lv_tableOut C.1.1 C.1.2.1 hdg hc ht (kk ad H locs ls ha hI hS hl hL ho.tl hn hc1 hc2)⟩
    · next hc =>
      split at h0
      · next off hoff =>
        obtain ⟨t, ht, rfl⟩ := xjp_inv h0
        exact ⟨⟨rfl, rfl, fun h => h.tl⟩, fun ad H locs ls ha hI hS hl hL ho hn hc1 hc2 => lv_tableIn C.1.1 C.1.2.1 hdg (fun h => hc (Or.inl h)) (fun h => hc (Or.inr h)) hoff ht (kk ad H locs ls ha hI hS hl hL ho.tl hn hc1 hc2)⟩
      · cases h0
  · cases h0
theorem xs_lookupswitch {z : Int} {ps : Array (Int × Int)} (C : xC X D D2 A ae p R s m args meth c M d) (hdg : decode (xMc M) pc = .ok (.lookupswitch z ps, len)) (h : xone X M (xMo M) pc L st w (.lookupswitch z ps) len = some r) (kk : xWW D D2 A ae p l e R s m args below meth c Q n ad0 k0 n0 r.1 r.2.1 r.2.2.1 r.2.2.2) :
    xSame L st w r ∧ xWW D D2 A ae p l e R s m args below meth c Q n ad0 k0 n0 pc L st w := by
  have h0 := h
  simp only [xone] at h0
  split at h0
  · next x r' =>
    obtain ⟨h1, h2⟩ := xk_some.mp h0
    obtain ⟨t, ht, rfl⟩ := xjp_inv h2
    exact ⟨⟨rfl, rfl, fun h => h.tl⟩, fun ad H locs ls ha hI hS hl hL ho hn hc1 hc2 => lv_lookup C.1.1 C.1.2.1 hdg h1 rfl ht (kk ad H locs ls ha hI hS hl hL ho.tl hn hc1 hc2)⟩
  · cases h0

end
