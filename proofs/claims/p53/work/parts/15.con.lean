/-! THE CONTRACT of a method out of the light machine's run of its body -/
section
def xrm (d mc ms : Nat) : Room := { frames := d + 8, cells := mc, slots := ms, locals := 64 * d + 200 }
def xPc (X : xX) (D : va_G) (D2 : Nat → ClassId) (A : Nat → Prop) (ae ad : Nat → Nat) (As : List Value) (w : xH) : Array Value → State → Prop := fun a U => a = (As.map (xv ad ae)).toArray ∧ xK X D D2 A ae U U.heap ∧ xI D D2 A ad ae w U.heap
def xQc (D : va_G) (D2 : Nat → ClassId) (A : Nat → Prop) (ae ad : Nat → Nat) (w wf : xH) (out : xO) : Array Value → State → Outcome → State → Prop := fun _ st oc t => ∃ v ad', out = .inl v ∧ oc = .returned (v.map (xv ad' ae)) ∧ (∀ k, k < w.1 → ad' k = ad k) ∧ xI D D2 A ad' ae wf t.heap ∧ va_F A st t
def xXC (D : va_G) (D2 : Nat → ClassId) (A : Nat → Prop) (ae ad : Nat → Nat) (w wf : xH) (out : xO) : String → State → State → Prop := fun E st t => ∃ ee ad', out = .inr ee ∧ E = xEn ee ∧ (∀ k, k < w.1 → ad' k = ad k) ∧ xI D D2 A ad' ae wf t.heap ∧ va_F A st t
theorem xPc_blind {X : xX} {D : va_G} {D2 : Nat → ClassId} {A : Nat → Prop} {ae ad : Nat → Nat} {As : List Value} {w : xH} : FrameBlind (xPc X D D2 A ae ad As w) := fun _ U _ _ h =>
  ⟨h.1, h.2.1.moved (State.WarmedH.refl U) (Nat.le_refl _) (fun _ _ _ => rfl), h.2.2⟩
theorem xofW {l : Launch} {y : MethodName} {ws ws' : List Cond} {rm : Room} {Pc : Array Value → State → Prop} {Qc : Array Value → State → Outcome → State → Prop} {XC : String → State → State → Prop} {mc ms : Nat} {free : Addr → Prop} {cc : ByteArray} {maxL : Nat} {ret : Option FieldType}
    (hy : plainFor y = true) (hw : ws = Cond.code y cc maxL ret :: ws')
    (body : ∀ p e s m args below meth c s₁, BodyLoose p l y (headSpec ws rm) cc maxL ret e s m args below meth c s₁ → c.maxLocals = maxL → (∀ x ∈ c.exceptionTable.toList, False) → Pc args s →
      W p l e (headSpec ws rm).room s m args below meth c s.heap [] 0 0 (vx_MQ below Qc XC args s mc ms free) (entryFrame m args maxL)) : vx_Met l y ws rm Pc Qc XC mc ms free := by
  refine MetFree.of_bodySF (code := cc) (maxLocals := maxL) (ret := ret) hy ?_ ?_
  · intro args s m h hn
    obtain ⟨meth, c, h1, h2, h3, h4, h5, h6, -, -⟩ := Cond.code_spec hn (atoms_spec (ws := ws) h _ (by rw [hw]; exact List.mem_cons_self))
    exact ⟨meth, c, h1, h2, h3, h4, h5, h6⟩
  · intro p e s m args below meth c s₁ B hml hP _
    have hh0 : s₁.heap = s.heap := by rw [B.state]; rfl
    have ht : ∀ x ∈ c.exceptionTable.toList, False := by
      obtain ⟨meth9, c9, h1, h2, -, -, -, -, h7, -⟩ := Cond.code_spec B.named (atoms_spec (ws := ws) B.pre _ (by rw [hw]; exact List.mem_cons_self))
      cases Option.some.inj (h1.symm.trans B.method)
      cases Option.some.inj (h2.symm.trans (Stand.of_body B).code)
      intro x hx
      rw [Array.isEmpty_iff.mp h7] at hx
      cases hx
    obtain ⟨t, a1, o, b1, b2, b3⟩ := body p e s m args below meth c s₁ B hml ht hP s₁ hh0 (Stand.of_body B)
    exact ⟨t, o, a1, b1, b2, b3⟩
theorem xofWH {l : Launch} {y : MethodName} {ws ws' : List Cond} {rm : Room} {Pc : Array Value → State → Prop} {Qc : Array Value → State → Outcome → State → Prop} {XC : String → State → State → Prop} {mc ms : Nat} {free : Addr → Prop} {cc : ByteArray} {maxL : Nat} {ret : Option FieldType} {hh : List (Nat × Nat × Nat × Nat)}
    (hy : plainFor y = true) (hw : ws = Cond.codeWith y cc maxL ret hh :: ws')
    (body : ∀ p e s m args below meth c s₁, BodyLoose p l y (headSpec ws rm) cc maxL ret e s m args below meth c s₁ → c.maxLocals = maxL → Pc args s →
      W p l e (headSpec ws rm).room s m args below meth c s.heap [] 0 0 (vx_MQ below Qc XC args s mc ms free) (entryFrame m args maxL)) : vx_Met l y ws rm Pc Qc XC mc ms free := by
  refine MetFree.of_bodySF (code := cc) (maxLocals := maxL) (ret := ret) hy ?_ ?_
  · intro args s m h hn
    obtain ⟨m9, meth, c, hn9, h1, h2, h3, h4, -, h5, h6, -⟩ := Cond.codeWith_spec (atoms_spec (ws := ws) h _ (by rw [hw]; exact List.mem_cons_self))
    cases hn.symm.trans hn9
    exact ⟨meth, c, h1, h2, h3, h4, h5, h6⟩
  · intro p e s m args below meth c s₁ B hml hP _
    have hh0 : s₁.heap = s.heap := by rw [B.state]; rfl
    obtain ⟨t, a1, o, b1, b2, b3⟩ := body p e s m args below meth c s₁ B hml hP s₁ hh0 (Stand.of_body B)
    exact ⟨t, o, a1, b1, b2, b3⟩
theorem xMet_of {l : Launch} {y : MethodName} {ws : List Cond} {rm : Room} {Pc : Array Value → State → Prop} {Qc : Array Value → State → Outcome → State → Prop} {XC : String → State → State → Prop} {mc ms : Nat} {free : Addr → Prop} (h : vx_Met l y ws rm Pc Qc XC mc ms free) (hx : ∀ E st t, ¬ XC E st t) : Met l y ws rm Pc Qc mc ms free := by
  intro p e h1 h2 h3 s m args below h4 h5 h6 h7
  obtain ⟨n, o, g1, g2, g3, g4⟩ := h p e h1 h2 h3 s m args below h4 h5 h6 h7
  rcases g4 with g4 | ⟨q, -, E, ce, L, g5, -⟩
  · exact ⟨n, o, g1, g2, g3, g4⟩
  · exact absurd g5 (hx _ _ _)
/-- what a frame owes at its ends -/
def xEnd (X : xX) (D : va_G) (D2 : Nat → ClassId) (A : Nat → Prop) (ae : Nat → Nat) (p : Program) (l : Launch) (e : Env) (R : Room) (s : State) (m : MethodId) (args : Array Value) (below : List Frame) (meth : Method) (c : Code) (Q : State → Prop) (M d n : Nat) (ad0 : Nat → Nat) (k0 n0 : Nat) (out : xO) (wf : xH) : Prop :=
  (∀ (v : Option Value) (i : Instr) (pc : Nat) (ad : Nat → Nat) (H : Heap) (locs : List Loc) (ls : Array Slot), out = .inl v → decode (xMc M) pc = .ok (i, 1) → xrk M i v → (∀ k, k < n → ad k = ad0 k) → xI D D2 A ad ae wf H → va_S A s.heap H locs →
    W p l e R s m args below meth c H locs (wf.2.2.1 - k0) (wf.2.2.2 - n0) Q (F0 m pc ls (v.toList.map (xv ad ae)))) ∧
  (∀ (ee pc : Nat) (ad : Nat → Nat) (H : Heap) (locs : List Loc) (ls : Array Slot) (rest : List Value) (q : Addr) (ce : Cell), out = .inr ee → xMh M = [] → (∀ k, k < n → ad k = ad0 k) → xI D D2 A ad ae wf H → va_S A s.heap H locs → H[q]? = some ce → ce.vm = .none → s.vm.findClass (xEn ee) = some ce.cls →
    vx_W p l e R s m args below meth c H locs (wf.2.2.1 - k0) (wf.2.2.2 - n0) Q (F0 m pc ls rest) q) ∧
  (∀ (ee k pc : Nat) (ad : Nat → Nat) (H : Heap) (locs : List Loc) (ls : Array Slot) (st : List Value) (w : xH), out = .inr ee → wf = xex w → decode (xMc M) pc = .ok (.new k, 3) → xTh M pc = some ee → xsum st ≤ 8 → (∀ k, k < n → ad k = ad0 k) → xI D D2 A ad ae w H → va_S A s.heap H locs → ls.size = c.maxLocals → k0 ≤ w.2.2.1 → n0 ≤ w.2.2.2 →
    W p l e R s m args below meth c H locs (w.2.2.1 - k0) (w.2.2.2 - n0) Q (F0 m pc ls (st.map (xv ad ae))))
theorem xsum_map {ad ae : Nat → Nat} {st : List Value} : ((st.map (xv ad ae)).map fun v => v.category).sum = xsum st := by
  unfold xsum
  rw [List.map_map]
  congr 1
  exact List.map_congr_left fun v _ => xv_cat ad ae v
theorem xTh_inv {M pc ee : Nat} (h : xTh M pc = some ee) : ∃ r ∈ xTt, r.1 / 100000 = M ∧ r.1 % 100000 = pc ∧ r.2.1 = ee ∧ xck14 r = true := by
  unfold xTh at h
  obtain ⟨r, h1, h2⟩ := Option.map_eq_some_iff.mp h
  obtain ⟨h3, h4⟩ := xfind xTt_ok h1
  simp only [Bool.and_eq_true, beq_iff_eq] at h4
  exact ⟨r, List.mem_of_find?_eq_some h1, h4.1, h4.2, h2, h3⟩
variable {X : xX} {D : va_G} {D2 : Nat → ClassId} {A : Nat → Prop} {ae : Nat → Nat} {p : Program} {l : Launch} {e : Env} {R : Room} {s : State} {m : MethodId} {args : Array Value} {below : List Frame} {meth : Method} {c : Code} {Q : State → Prop} {M d n k0 n0 : Nat} {ad ad0 : Nat → Nat} {pc len : Nat} {L : xL} {st : List Value} {w wf : xH} {out : xO}
theorem xw_hat (C : xC X D D2 A ae p R s m args meth c M d) {u : Cond} (h : xck13 u = true) : u.before args s = true ∧ vx_ot u = true := by
  unfold xck13 at h
  simp only [Bool.and_eq_true, Bool.or_eq_true, decide_eq_true_eq] at h
  obtain ⟨⟨h1, h2⟩, h3⟩ := h
  refine ⟨?_, h3⟩
  rcases h2 with h2 | h2
  · obtain ⟨i, hi⟩ := List.getElem?_of_mem h1
    exact C.2.2.1 _ (xG_pos hi h2)
  · have hn := C.2.2.2.1.1.2.2.2.1 u h1 h2
    refine va_Nw.use ?_ hn
    unfold xbk at h2
    split at h2 <;> first | rfl | cases h2
/-- the throw -/
theorem xthrow (hl : l.stackTraces = false) (C : xC X D D2 A ae p R s m args meth c M d) (htab : xMh M = [] → ∀ x ∈ c.exceptionTable.toList, False) {Qc : Array Value → State → Outcome → State → Prop} {XC : String → State → State → Prop} {mc ms cells slots : Nat} {H : Heap} {locs : List Loc} {ls : Array Slot} {rest : List Value} {ee k : Nat}
    (hdg : decode (xMc M) pc = .ok (.new k, 3)) (hth : xTh M pc = some ee) (hsum : (rest.map fun v => v.category).sum ≤ 8) (hS : va_S A s.heap H locs) (hsize : ls.size = c.maxLocals) (hc : cells + 1 ≤ mc) (hs : slots + 6 ≤ ms) (hRc : mc ≤ R.cells) (hRs : ms ≤ R.slots)
    (hx : ∀ t : State, s.vm.Alike t.vm → H.size ≤ t.heap.size → (∀ q : Nat, q < H.size → t.heap[q]? = H[q]?) → XC (xEn ee) s t) :
    W p l e R s m args below meth c H locs cells slots (vx_MQ below Qc XC args s mc ms A) (F0 m pc ls rest) := by
  obtain ⟨r, hr, rfl, rfl, rfl, hck⟩ := xTh_inv hth
  unfold xck14 at hck
  simp only [Bool.and_eq_true, decide_eq_true_eq] at hck
  obtain ⟨⟨⟨⟨⟨⟨⟨⟨⟨c0, c1⟩, c2⟩, c3⟩, c4⟩, c5⟩, c6⟩, c7⟩, c8⟩, c9⟩ := hck
  obtain ⟨sa, hsa⟩ := C.2.2.2.1.2.2.2.2.1 r hr
  rw [c1] at hsa
  have hown : s.vm.findClass "CalculatedSheet" = some m.cls := by have := C.1.2.2.2; rw [c1] at this; exact this
  have hfr : xNames.length + 3 < R.frames := by have := C.2.2.2.2.1; show 2 + 3 < R.frames; omega
  have hlo : (rest.map fun v => v.category).sum + (13 * (xNames.length + 1) + 43) ≤ R.locals := by have := C.2.2.2.2.2; show _ + (13 * (2 + 1) + 43) ≤ _; omega
  have hall : ∀ u ∈ vx_atS "CalculatedSheet" r.2.2.2.2.1 (xEn r.2.1) xNames, xck13 u = true := by
    intro u hu
    refine List.all_eq_true.mp xat_ok u ?_
    rcases (by omega : r.2.1 = 0 ∨ r.2.1 = 1) with h | h
    · rw [c4, h, if_pos rfl] at hu; exact List.mem_append_left _ hu
    · rw [c4, h, if_neg (by decide)] at hu; exact List.mem_append_right _ hu
  have hg : ∀ u ∈ Cond.classLink "CalculatedSheet" r.2.2.1 (xEn r.2.1) :: Cond.initialized (xEn r.2.1) :: vx_atS "CalculatedSheet" r.2.2.2.2.1 (xEn r.2.1) xNames, vx_ot u = true := by
    intro u hu
    rcases List.mem_cons.mp hu with rfl | hu
    · rfl
    · rcases List.mem_cons.mp hu with rfl | hu
      · rfl
      · exact (xw_hat C (hall u hu)).2
  have hat : ∀ u ∈ vx_atS "CalculatedSheet" r.2.2.2.2.1 (xEn r.2.1) xNames, u.before args s = true := fun u hu => (xw_hat C (hall u hu)).1
  split at c9
  · simp only [Bool.and_eq_true, decide_eq_true_eq] at c9
    exact vx_throwS C.1.1 C.1.2.1 hl hown (xEn_fit _ c3) xNames_fit (C.2.2.1 _ (xG_pos c5 rfl)) (C.2.2.1 _ (xG_pos c6 rfl)) hsa hat hg C.2.2.2.1.2.2.2.2.2.1 C.2.2.2.1.2.2.2.2.2.2 hS hsize c7 c8 c9.1.1 c9.1.2 c9.2 (fun x hx => (htab c0 x hx).elim) hfr hlo (by omega) (by omega) C.2.1.2.2 hx hS.2.2 hc hs
  · simp only [Bool.and_eq_true, decide_eq_true_eq] at c9
    exact vx_throwSW C.1.1 C.1.2.1 hl hown (xEn_fit _ c3) xNames_fit (C.2.2.1 _ (xG_pos c5 rfl)) (C.2.2.1 _ (xG_pos c6 rfl)) hsa hat hg C.2.2.2.1.2.2.2.2.2.1 C.2.2.2.1.2.2.2.2.2.2 hS hsize c7 c8 c9.1.1 c9.1.2 c9.2 (fun x hx => (htab c0 x hx).elim) hfr hlo (by omega) (by omega) C.2.1.2.2 hx hS.2.2 hc hs
theorem xI_kept {H H1 : Heap} (h : xI D D2 A ad ae w H) (hq : ∀ q : Nat, q < H.size → H1[q]? = H[q]?) : xI D D2 A ad ae w H1 :=
  ⟨h.1.kept fun _ _ hk => hq _ (vx_lt h.1 hk), h.2⟩
/-- the run of a body, said of any frame -/
def xSnd (X : xX) (l : Launch) (D : va_G) (D2 : Nat → ClassId) (A : Nat → Prop) (ae : Nat → Nat) (f : Nat) : Prop :=
  ∀ (p : Program) (e : Env) (R : Room) (s : State) (m : MethodId) (args : Array Value) (below : List Frame) (meth : Method) (c : Code) (Q : State → Prop) (M d n : Nat) (ad0 : Nat → Nat) (k0 n0 pc : Nat) (L : xL) (st : List Value) (w wf : xH) (out : xO),
    xexec X f d M (xMo M) (xMc M) pc L st w = some (out, wf) → xok w L st → xC X D D2 A ae p R s m args meth c M d → (xMh M ≠ [] → c.exceptionTable.toList = tableOf (xMh M)) → xEnd X D D2 A ae p l e R s m args below meth c Q M d n ad0 k0 n0 out wf → wf.2.2.1 - k0 ≤ R.cells → wf.2.2.2 - n0 ≤ R.slots →
    xWW D D2 A ae p l e R s m args below meth c Q n ad0 k0 n0 pc L st w
theorem xcon (hl : l.stackTraces = false) {f : Nat} (ih : xSnd X l D D2 A ae f) {M' d' : Nat} {As : List Value} (hM : M' < 417) (h : xexec X f d' M' (xMo M') (xMc M') 0 (xen (xMl M') As) [] w = some (out, wf)) (hfl : (xfl As).length ≤ xMl M') (hw : xwk w) (hAs : ∀ v ∈ As, xvk w.1 v) (ad : Nat → Nat) :
    vx_Met l (xMn M') (xws M') (xrm d' (wf.2.2.1 - w.2.2.1) (wf.2.2.2 - w.2.2.2)) (xPc X D D2 A ae ad As w) (xQc D D2 A ae ad w wf out) (xXC D D2 A ae ad w wf out) (wf.2.2.1 - w.2.2.1) (wf.2.2.2 - w.2.2.2) A := by
  have body : ∀ (p : Program) (e : Env) (s : State) (m : MethodId) (args : Array Value) (below : List Frame) (meth : Method) (c : Code) (s₁ : State), BodyLoose p l (xMn M') (headSpec (xws M') (xrm d' (wf.2.2.1 - w.2.2.1) (wf.2.2.2 - w.2.2.2))) (xMc M') (xMl M') (xMret M') e s m args below meth c s₁ → c.maxLocals = xMl M' →
      (xMh M' ≠ [] → c.exceptionTable.toList = tableOf (xMh M')) → (xMh M' = [] → ∀ x ∈ c.exceptionTable.toList, False) → xPc X D D2 A ae ad As w args s →
      W p l e (headSpec (xws M') (xrm d' (wf.2.2.1 - w.2.2.1) (wf.2.2.2 - w.2.2.2))).room s m args below meth c s.heap [] 0 0 (vx_MQ below (xQc D D2 A ae ad w wf out) (xXC D D2 A ae ad w wf out) args s (wf.2.2.1 - w.2.2.1) (wf.2.2.2 - w.2.2.2) A) (entryFrame m args (xMl M')) := by
    intro p e s m args below meth c s₁ B hml ht1 ht2 hP
    obtain ⟨rfl, hK, hI⟩ := hP
    have hts := atoms_spec (ws := xws M') B.pre
    have C : xC X D D2 A ae p (xrm d' (wf.2.2.1 - w.2.2.1) (wf.2.2.2 - w.2.2.2)) s m (As.map (xv ad ae)).toArray meth c M' d' :=
      ⟨⟨B.exec, B.bytes, hml, by rw [← (xM_ok hM).2.1]; exact findClass_of_methodNamed B.named⟩, ⟨B.returns, fun hi => by rw [(name_of_methodNamed B.named B.method).1]; exact beq_iff_eq.mp hi, B.notSynchronized⟩, fun u hu => hts u (List.mem_cons_of_mem _ hu), hK, Nat.le_refl _, Nat.le_refl _⟩
    rw [lg_entry_eq]
    have hl0 := xlr_entry (xv ad ae) (xv_cat ad ae) hfl
    generalize (lg_sl (As.map (xv ad ae)) ++ List.replicate (xMl M' - (lg_sl (As.map (xv ad ae))).length) Slot.unset).toArray = ls at hl0 ⊢
    have hok := xexec_ok _ _ _ _ _ _ _ _ _ _ _ h (xen_ok hw hAs)
    have hE : xEnd X D D2 A ae p l e (xrm d' (wf.2.2.1 - w.2.2.1) (wf.2.2.2 - w.2.2.2)) s m (As.map (xv ad ae)).toArray below meth c (vx_MQ below (xQc D D2 A ae ad w wf out) (xXC D D2 A ae ad w wf out) (As.map (xv ad ae)).toArray s (wf.2.2.1 - w.2.2.1) (wf.2.2.2 - w.2.2.2) A) M' d' w.1 ad w.2.2.1 w.2.2.2 out wf := by
      refine ⟨?_, ?_, ?_⟩
      · intro v i pc ad' H locs ls hout hdg hrk had hI' hS
        have hq : ∀ t : State, t.heap = H → s.WarmedH t.vm → xQc D D2 A ae ad w wf out (As.map (xv ad ae)).toArray s (.returned (v.map (xv ad' ae))) t := fun t ht _ => ⟨v, ad', hout, rfl, had, by rw [ht]; exact hI', hS.F ht⟩
        unfold xrk at hrk
        split at hrk
        · exact vx_ret (W.vret C.1.1 C.1.2.1 (C.2.1.1.trans hrk) hq hS.2.2 hdg C.2.1.2.2)
        · obtain ⟨t, h1, h2⟩ := hrk
          unfold xri at h2
          split at h2
          · exact vx_ret (W.zret C.1.1 C.1.2.1 (C.2.1.1.trans h1) (of_decide_eq_true h2) hq hS.2.2 hdg C.2.1.2.2)
          · cases h2
        · obtain ⟨t, h1, h2⟩ := hrk
          unfold xrl at h2
          split at h2
          · exact vx_ret (W.lret C.1.1 C.1.2.1 (C.2.1.1.trans h1) hq hS.2.2 hdg C.2.1.2.2)
          · cases h2
        · obtain ⟨t, h1, h2⟩ := hrk
          unfold xrd at h2
          split at h2
          · exact vx_ret (W.dret C.1.1 C.1.2.1 (C.2.1.1.trans h1) hq hS.2.2 hdg C.2.1.2.2)
          · cases h2
        · obtain ⟨t, h1, h2⟩ := hrk
          have hrt : (∃ n, t = .object n) ∨ ∃ t', t = .array t' := by
            unfold xra at h2
            cases t <;> first | exact Or.inl ⟨_, rfl⟩ | exact Or.inr ⟨_, rfl⟩ | (split at h2 <;> cases h2)
          next u =>
          have hv : xv ad' ae u = .null ∨ ∃ a, xv ad' ae u = .ref a := by
            unfold xra at h2
            split at h2
            · exact Or.inr ⟨_, rfl⟩
            · exact Or.inr ⟨_, rfl⟩
            · exact Or.inl rfl
            · cases h2
          exact vx_ret (W.aret C.1.1 C.1.2.1 (C.2.1.1.trans h1) hrt hv hq hS.2.2 hdg C.2.1.2.2)
        · exact hrk.elim
      · intro ee pc ad' H locs ls rest q ce hout hh had hI' hS hce hcv hcl
        exact vx_out (fun x hx => (ht2 hh x hx).elim) C.2.1.2.2 hce hcv hcl (fun t ht _ => ⟨ee, ad', hout, rfl, had, by rw [ht]; exact hI', hS.F ht⟩) hS.2.2 (Nat.le_refl _) (Nat.le_refl _)
      · intro ee k pc ad' H locs ls st w1 hout hwf hdg hth hsum had hI' hS hsz hk hn
        have e1 : wf.2.2.1 = w1.2.2.1 + 1 := by rw [hwf]; rfl
        have e2 : wf.2.2.2 = w1.2.2.2 + 6 := by rw [hwf]; rfl
        refine xthrow hl C ht2 hdg hth (by rw [xsum_map]; exact hsum) hS hsz (by omega) (by omega) (Nat.le_refl _) (Nat.le_refl _) (fun t hal hs hq => ⟨ee, ad', hout, rfl, had, ?_, ?_⟩)
        · rw [hwf]
          exact xI_kept (w := w1) hI' hq
        · exact ⟨Nat.le_trans hS.1 hs, fun q h1 h2 => (hq q (Nat.lt_of_lt_of_le h1 hS.1)).trans (hS.2.1 q h1 h2)⟩
    have := ih p e (xrm d' (wf.2.2.1 - w.2.2.1) (wf.2.2.2 - w.2.2.2)) s m (As.map (xv ad ae)).toArray below meth c _ M' d' w.1 ad w.2.2.1 w.2.2.2 0 (xen (xMl M') As) [] w wf out h (xen_ok hw hAs) C ht1 hE (Nat.le_refl _) (Nat.le_refl _) ad s.heap [] ls (fun _ _ => rfl) hI va_S.rf hl0 (by rw [xen_len hfl, hml]) (xen_ok hw hAs) (Nat.le_refl _) (Nat.le_refl _) (Nat.le_refl _)
    rw [Nat.sub_self, Nat.sub_self] at this
    exact this
  cases hh : xMh M' with
  | nil =>
    refine xofW (cc := xMc M') (maxL := xMl M') (ret := xMret M') (xM_ok hM).2.2.1 (ws' := xG) (by unfold xws xcw; rw [hh]) ?_
    intro p e s m args below meth c s₁ B hml ht hP
    exact body p e s m args below meth c s₁ B hml (fun h => absurd hh h) (fun _ => ht) hP
  | cons h0 t0 =>
    refine xofWH (cc := xMc M') (maxL := xMl M') (ret := xMret M') (hh := h0 :: t0) (xM_ok hM).2.2.1 (ws' := xG) (by unfold xws xcw; rw [hh]) ?_
    intro p e s m args below meth c s₁ B hml hP
    refine body p e s m args below meth c s₁ B hml (fun _ => ?_) (fun h => by rw [hh] at h; cases h) hP
    have hw0 : Cond.codeWith (xMn M') (xMc M') (xMl M') (xMret M') (xMh M') ∈ xws M' := by unfold xws xcw; rw [hh]; exact List.mem_cons_self
    exact vx_table (x := xMn M') B (atoms_spec (ws := xws M') B.pre _ hw0)
end
