/-! the claim out of a run of the light machine: the head of it began as the kit's skeleton -/
section
def R_law : String := "CalculatedSheetLaw"
def lw_P (b : Addr) (xs : List Int32) (args : Array Value) (s : State) : Prop := args = #[.ref b] ∧ s.IntsAt b xs ∧ xs.length ≤ 260 ∧ (Jvm.Cond.and given_1 narrow_1).before args s = true
/-- what a walk over the start with the record d0 says of its end, said of the start itself -/
theorem lw_closed {s t : State} {o : Outcome} {d0 : Drawn} {L : List Loc} {k n : Nat} (hd0 : s.drawn.sameBut d0 lw_cs) (hv : ∃ v, o = .returned v) (hW : (s.setDrawn d0).WarmedH t.vm) (hs : (s.setDrawn d0).sameButNew ({ t with vm := s.vm } : State) L k n) : State.butDraws s t lw_cs (fun t1 => Framed s o t1 L k n) := by
  have h2 : t.drawn = d0 := congrArg State.drawn hs.1
  refine ⟨⟨hv, hW, State.sameButNew.setDrawn hs s.drawn⟩, ?_, by decide⟩
  rw [h2]
  exact hd0
def lw_Q (_ : Array Value) (s : State) (o : Outcome) (t : State) : Prop := o = .returned (some (.int 1)) ∧ State.butDraws s t lw_cs (fun t1 => Framed s o t1 [] 600130 7301080)
def lw_Z (below : List Frame) (a : Array Value) (s : State) : State → Prop := fun t => ∃ o, t.status = .running ∧ Ended t below o ∧ lw_Q a s o t
/-- the law's own end, with 1 on the stack, nothing written that was there before, its room as the claim has it; d0: the record of draws at this point (at the entry s.drawn: begin with 'refine W.base ?_' and 'have hd0 := Drawn.sameBut.refl s.drawn lw_cs') -/
theorem lw_ret {p : Program} {l : Launch} {e : Env} {s : State} {m : MethodId} {below : List Frame} {meth : Method} {c : Code} {b : Nat} {d0 : Drawn} (hd0 : s.drawn.sameBut d0 lw_cs) (hx : p.tables.exec = Jvm.exec) (hb : c.code = code) (hr : meth.sig.returnType = ret) (hlocks : meth.locks = false) {pc : Nat} {H : Heap} {ls : Array Slot} (hdg : decode code pc = .ok (.ireturn, 1)) : W p l e room_1 (s.setDrawn d0) m #[Value.ref b] below meth c H [] 600130 7301080 (lw_Z below #[Value.ref b] s) (F0 m pc ls [.int 1]) := by
  intro T hT X
  obtain ⟨fs, hret, hrun, hended, hW, hframe⟩ := X.leave (v := some (.int 1)) (hlocks := hlocks) (fun h => by rw [hr] at h; cases h)
  have hmeth' : T.vm.method? m = some meth := X.method'
  refine ⟨T.setFrames fs, ?_, .returned (some (.int 1)), hrun, hended, rfl, lw_closed hd0 ⟨_, rfl⟩ hW hframe⟩
  jvm_step X.here [X.here.top, hx, hb, hdg, hmeth', hr, ret, narrow_b1]
  (try refine ⟨rfl, ?_⟩); (try refine ⟨rfl, ?_⟩)
  first | (intro acts; rw [hret _ acts rfl rfl rfl]) | rw [hret _ _ rfl rfl rfl]
  exact Steps.refl _
/-- what holds at the law's entry: the machine, the code, the tables' words (any of lw_tbl by 'hts w (by decide +kernel)'), the script of L ints xs at the cell b, what the Statement gives of the start (any of its parts by flat_of_before) -/
def lw_At (p : Program) (s : State) (m : MethodId) (meth : Method) (c : Code) (b L : Nat) (xs : Nat → Int32) : Prop :=
  p.tables.exec = Jvm.exec ∧ c.code = code ∧ meth.sig.returnType = ret ∧ c.maxLocals = 11 ∧ s.vm.findClass R_law = some m.cls ∧ (∀ w ∈ lw_tbl, w.before #[Value.ref b] s = true) ∧ va_X b L xs s s.heap ∧ b < s.heap.size ∧ meth.locks = false ∧ (Jvm.Cond.and given_1 narrow_1).before #[Value.ref b] s = true

theorem xm417 : xMo 417 = 11 ∧ xMl 417 = 11 ∧ xMh 417 = [] ∧ xMini 417 = false := by decide +kernel
set_option maxRecDepth 100000 in
theorem xm417c : xMc 417 = code := rfl
set_option maxRecDepth 100000 in
theorem xm417r : xMret 417 = ret := rfl
def xw0 : xH := (0, fun _ => .inl (0, 0, .inl fun _ => 0), 0, 0)
/-- WHAT IS LEFT: the light machine runs the law to the end, and answers 1 -/
def xPure : Prop := ∀ X : xX, X.1 ≤ 260 → ∃ f wf, xexec X f 400 417 11 (xMc 417) 0 (xen 11 [.retAddr 0]) [] xw0 = some (.inl (some (.int 1)), wf) ∧ wf.2.2.1 ≤ 600130 ∧ wf.2.2.2 ≤ 7301080
theorem whole_of (hpure : xPure) {p : Program} {e : Env} {s : State} {m : MethodId} {below : List Frame} {meth : Method} {c : Code} (l : Launch) (hflags : l.flags = flags0) {b L : Nat} {xs : Nat → Int32} (hL : L ≤ 260) (C0 : lw_At p s m meth c b L xs) : W p l e room_1 s m #[Value.ref b] below meth c s.heap [] 0 0 (lw_Z below #[Value.ref b] s) (entryFrame m ([Value.ref b] : List Value).toArray 11) := by
  obtain ⟨c1, c2, c3, c4, c5, c6, c7, c8, c9, c10⟩ := C0
  obtain ⟨nul, D, D2, ae, hae, hK⟩ := xstart c6 c10 c7 c8
  have hl : l.stackTraces = false := by
    unfold Launch.stackTraces
    rw [hflags]
    decide +kernel
  obtain ⟨f, wf, hrun, hc, hs⟩ := hpure (L, xs, nul) hL
  have hd0 := Drawn.sameBut.refl s.drawn lw_cs
  refine W.base ?_
  have hfl : (xfl [Value.retAddr 0]).length ≤ 11 := by decide
  have C : xC (L, xs, nul) D D2 (fun q => s.heap.size ≤ q) ae p room_1 (s.setDrawn s.drawn) m #[Value.ref b] meth c 417 400 := by
    refine ⟨⟨c1, by rw [xm417c]; exact c2, by rw [xm417.2.1]; exact c4, by rw [xm417.1]; exact c5⟩, ⟨by rw [xm417r]; exact c3, (fun h => by rw [xm417.2.2.2] at h; cases h), c9⟩, fun w hw => ?_, hK, by decide, by decide⟩
    rcases List.mem_append.mp hw with hw | hw
    · exact xU_true c6 w hw
    · exact c6 w (List.mem_filter.mp hw).1
  have hok : xok xw0 (xen 11 [Value.retAddr 0]) [] := xen_ok (fun k hk => absurd hk (Nat.not_lt_zero k)) (fun v hv => by cases List.mem_singleton.mp hv; trivial)
  have hE : xEnd (L, xs, nul) D D2 (fun q => s.heap.size ≤ q) ae p l e room_1 (s.setDrawn s.drawn) m #[Value.ref b] below meth c (lw_Z below #[Value.ref b] s) 417 400 0 (fun _ => 0) 0 0 (.inl (some (.int 1))) wf := by
    refine ⟨?_, fun _ _ _ _ _ _ _ _ _ h => by (cases h), fun _ _ _ _ _ _ _ _ _ h => by (cases h)⟩
    intro v i pc ad H locs ls hv hdg hrk _ _ hS
    cases hv
    unfold xrk at hrk
    split at hrk
    · next h => cases h
    · next h =>
      cases h
      refine va_forget hS.2.2 (W.widen (Nat.le_trans (Nat.sub_le _ _) hc) (Nat.le_trans (Nat.sub_le _ _) hs) ?_)
      rw [xm417c] at hdg
      exact lw_ret hd0 c1 c2 c3 c9 hdg
    · next h => cases h; obtain ⟨t, -, h2⟩ := hrk; cases t <;> cases h2
    · next h => cases h; obtain ⟨t, -, h2⟩ := hrk; cases t <;> cases h2
    · next h => cases h; obtain ⟨t, -, h2⟩ := hrk; cases h2
    · exact hrk.elim
  have hrun' : xexec (L, xs, nul) f 400 417 (xMo 417) (xMc 417) 0 (xen 11 [Value.retAddr 0]) [] xw0 = some (.inl (some (.int 1)), wf) := by rw [xm417.1]; exact hrun
  have k := xsnd hl f p e room_1 (s.setDrawn s.drawn) m #[Value.ref b] below meth c _ 417 400 0 (fun _ => 0) 0 0 0 (xen 11 [Value.retAddr 0]) [] xw0 wf _ hrun' hok C (fun h => absurd xm417.2.2.1 h) hE (Nat.le_trans (Nat.sub_le _ _) hc) (Nat.le_trans (Nat.sub_le _ _) hs)
  have hl0 := xlr_entry (n := 11) (xv (fun _ => 0) ae) (xv_cat (fun _ => 0) ae) hfl
  have hmap : ([Value.retAddr 0].map (xv (fun _ => 0) ae)) = [Value.ref b] := by
    show [Value.ref (ae 0)] = _
    rw [hae]
  rw [hmap] at hl0
  rw [lg_entry_eq]
  exact k (fun _ => 0) s.heap [] _ (fun _ _ => rfl) ⟨(fun k q h => by cases h), (fun i j p q h => by cases h), (fun k q h => by cases h)⟩ va_S.rf hl0 (by rw [xen_len hfl]; exact c4.symm) hok (Nat.le_refl _) (Nat.le_refl _) (Nat.le_refl _)
end
