/-! THE LIGHT MACHINE IS SOUND -/
section
variable {X : xX} {D : va_G} {D2 : Nat → ClassId} {A : Nat → Prop} {ae : Nat → Nat} {p : Program} {l : Launch} {e : Env} {R : Room} {s : State} {m : MethodId} {args : Array Value} {below : List Frame} {meth : Method} {c : Code} {Q : State → Prop} {M d n k0 n0 : Nat} {ad ad0 : Nat → Nat} {pc len : Nat} {L : xL} {st : List Value} {w wf : xH} {out : xO}
theorem xrunX {i : Instr} {rest As : List Value} {kind M' d' mc ms cells slots : Nat} {H : Heap} {locs : List Loc} {ls : Array Slot} {Qc : Array Value → State → Outcome → State → Prop} {XC : String → State → State → Prop} (hk2 : kind < 2) (C : xC X D D2 A ae p R s m args meth c M (d' + 1)) (hI : xI D D2 A ad ae w H) (hS : va_S A s.heap H locs) (ho : xok w L st)
    (h3 : xcl3 (xMo M) w st i rest As kind M') (hdg : decode (xMc M) pc = .ok (i, 3)) (hsz : ls.size = c.maxLocals) (hsum : xsum rest ≤ 8) (hMet : vx_Met l (xMn M') (xws M') (xrm d' mc ms) (xPc X D D2 A ae ad As w) Qc XC mc ms A) (hf : cells + mc ≤ R.cells ∧ slots + ms ≤ R.slots) :
    vx_Run p l e R s m args below meth c H locs cells slots mc ms (F0 m pc ls (st.map (xv ad ae))) (rest.map (xv ad ae)) (Qc (As.map (xv ad ae)).toArray) XC A := by
  have S : CallFix p m c (xMc M) c.maxLocals s args xG (xClN (xMo M)) := ⟨C.1.1, C.1.2.1, rfl, C.1.2.2.2, C.2.2.1⟩
  have hPc : ∀ U : State, U.heap = H → s.WarmedH U.vm → xPc X D D2 A ae ad As w (As.map (xv ad ae)).toArray U := fun U hU hW => ⟨rfl, by rw [hU]; exact C.2.2.2.1.moved hW hS.1 hS.2.1, by rw [hU]; exact hI⟩
  have hW8 : ∀ g : List Value, 2 * (F0 m pc ls g).monitorRoom + ((rest.map (xv ad ae)).map fun v => v.category).sum ≤ 8 := fun g => by
    rw [xsum_map]
    show 2 * 0 + xsum rest ≤ 8
    omega
  have hR : ∀ {M'}, M' < 417 → (xrm d' mc ms).frames + 1 ≤ R.frames ∧ 8 + (xMl M' + 11) + (xrm d' mc ms).locals ≤ R.locals := fun {M'} hM => by
    have h1 := C.2.2.2.2.1
    have h2 := C.2.2.2.2.2
    have h4 := xMl_le hM
    show d' + 8 + 1 ≤ R.frames ∧ 8 + (xMl M' + 11) + (64 * d' + 200) ≤ R.locals
    omega
  rcases h3 with ⟨k, n, rfl, hca, hn, rfl, rfl⟩ | ⟨k, n, a, ci, fs, rfl, hca, hst, hobj, rfl, rfl⟩ | ⟨k, n, v, ci, rfl, hst, hci, hca, rfl, rfl⟩
  · -- static
    obtain ⟨hM, hpn, hk, hh, hw⟩ := xCa_inv hca
    have hlen : ((st.take n).reverse.map (xv ad ae)).length = n := by rw [List.length_map, List.length_reverse, List.length_take]; omega
    have hstk : (F0 m pc ls (st.map (xv ad ae))).stack = ((st.take n).reverse.map (xv ad ae)).reverse ++ (st.drop n).map (xv ad ae) := by
      show st.map (xv ad ae) = _
      rw [← List.map_reverse, List.reverse_reverse, ← List.map_append, List.take_append_drop]
    have hcls := (xM_ok hM).2.2.2
    match kind, hk2 with
    | 1, _ => simp only [xcki, Bool.and_eq_true, decide_eq_true_eq] at hk; omega
    | 0, _ =>
      have hT : GoodIn xG (va_wsS (xClN (xMo M)) k (xMn M') (xws M')) := xws_in hM _ (fun u hu => by
        rcases List.mem_cons.mp hu with rfl | hu
        · exact xw_good hw List.mem_cons_self rfl rfl
        rcases List.mem_cons.mp hu with rfl | hu
        · exact xw_good hw (List.mem_cons_of_mem _ List.mem_cons_self) rfl rfl
        rcases List.mem_cons.mp hu with rfl | hu
        · exact xw_good hw (List.mem_cons_of_mem _ (List.mem_cons_of_mem _ List.mem_cons_self)) rfl rfl
        cases hu)
      cases hhq : xMh M' with
      | nil => exact vx_runS S hMet (va_cwS n C.2.2.1 hT (xws_code hhq) rfl rfl ⟨hcls.1, hcls.2, hpn⟩ (hR hM)) ⟨xPc_blind, hPc⟩ rfl hlen hsz hstk (hW8 _) hdg hf
      | cons h0 t0 => exact vx_runSX (hh := h0 :: t0) S hMet (vx_cwSW (bytes := xMc M') (maxL := xMl M') (ret := xMret M') (ws' := xG) n C.2.2.1 hT (by unfold xws xcw; rw [hhq]) rfl rfl ⟨hcls.1, hcls.2, hpn⟩ (hR hM)) ⟨xPc_blind, hPc⟩ rfl hlen hsz hstk (hW8 _) hdg hf
  · obtain ⟨hM, hpn, hk, hh, hw⟩ := xCa_inv hca
    match kind, hk2 with
    | 1, _ => simp only [xcki, Bool.and_eq_true, decide_eq_true_eq] at hk; omega
    | 0, _ => simp only [xcki, beq_iff_eq] at hk; omega
  · obtain ⟨hM, hpn, hk, hh, hw⟩ := xCa_inv hca
    obtain ⟨e1, -, e3⟩ := xtk hst
    rw [e1] at hMet hPc ⊢
    have hlen : ((st.take n).reverse.map (xv ad ae)).length = n := by rw [List.length_map, List.length_reverse, e3]
    have hcls := (xM_ok hM).2.2.2
    match kind, hk2 with
    | 0, _ =>
      simp only [xcki, beq_iff_eq] at hk
      rw [hk] at hci
      unfold xrc at hci
      split at hci
      · split at hci
        · next cj fs hw0 =>
          cases hci
          have hP := hI.1 _ _ (xw_obj (ho.2.2 _ (List.mem_of_getElem? hst)) hw0)
          obtain ⟨r, hr, -⟩ := hP
          have : (99 : Nat) < 11 := (List.getElem?_eq_some_iff.mp hr).1
          omega
        · cases hci
      · obtain ⟨-, h2⟩ := xk_some.mp hci; cases h2
      · cases hci
    | 1, _ =>
      simp only [xcki, Bool.and_eq_true, decide_eq_true_eq] at hk
      have hh := hh.resolve_right (by decide)
      obtain ⟨b, hb, hrecv⟩ := xrecv C hI hS (ho.2.2 _ (List.mem_of_getElem? hst)) hci hk.2
      have hstk : (F0 m pc ls (st.map (xv ad ae))).stack = ((st.take n).reverse.map (xv ad ae)).reverse ++ .ref b :: (st.drop (n + 1)).map (xv ad ae) := hb ▸ xst_split hst (xv ad ae)
      rw [List.map_cons, hb] at hPc ⊢
      have hT : GoodIn xG (wsV (xClN (xMo M)) k (xNm ci) (xMn M') (xws M')) := xws_in hM _ (fun u hu => by
        rcases List.mem_cons.mp hu with rfl | hu
        · exact xw_good hw List.mem_cons_self rfl rfl
        rcases List.mem_cons.mp hu with rfl | hu
        · exact xw_good hw (List.mem_cons_of_mem _ List.mem_cons_self) rfl rfl
        rcases List.mem_cons.mp hu with rfl | hu
        · exact xw_good hw (List.mem_cons_of_mem _ (List.mem_cons_of_mem _ List.mem_cons_self)) rfl rfl
        rcases List.mem_cons.mp hu with rfl | hu
        · rw [← hk.1]; exact xw_good hw (List.mem_cons_of_mem _ (List.mem_cons_of_mem _ (List.mem_cons_of_mem _ List.mem_cons_self))) rfl rfl
        cases hu)
      exact vx_runV S hMet (cwV n C.2.2.1 hT (xws_code hh) rfl rfl ⟨hk.1, hcls.1, hcls.2, hpn⟩ (hR hM)) ⟨xPc_blind, hrecv, hPc⟩ rfl hlen hsz hstk (hW8 _) hdg hf
theorem xcl3_lt {i : Instr} {rest As : List Value} {kind M' o : Nat} (h3 : xcl3 o w st i rest As kind M') : M' < 417 := by
  rcases h3 with ⟨k, n, -, hca, -⟩ | ⟨k, n, a, ci, fs, -, hca, -⟩ | ⟨k, n, v, ci, -, -, -, hca, -⟩ <;> exact (xCa_inv hca).1
/-- behind a call that returns -/
theorem xfin {v : Option Value} {w1 : xH} {a : Array Value} {cells slots mc ms : Nat} {H : Heap} {locs : List Loc} {ls : Array Slot} {st0 rest : List Value} (hA : ∀ q, s.heap.size ≤ q → A q)
    (hr : va_Run p l e R s m args below meth c H locs cells slots mc ms (F0 m pc ls st0) rest (xQc D D2 A ae ad w w1 (.inl v) a) A) (hS : va_S A s.heap H locs)
    (kk : ∀ (ad1 : Nat → Nat) (H1 : Heap) (locs1 : List Loc), (∀ k, k < w.1 → ad1 k = ad k) → xI D D2 A ad1 ae w1 H1 → va_S A s.heap H1 locs1 → W p l e R s m args below meth c H1 locs1 (cells + mc) (slots + ms) Q (F0 m (pc + 3) ls ((v.toList.map (xv ad1 ae)) ++ rest))) :
    W p l e R s m args below meth c H locs cells slots Q (F0 m pc ls st0) := by
  intro T hT X
  obtain ⟨v', st₀, t, T', L, h0, X', hL, e1, e2, ⟨v2, ad1, hv2, hoc, had, hI1, hF⟩, st⟩ := hr T hT X
  cases hv2
  cases hoc
  obtain ⟨-, -, k3⟩ := vx_keep h0 e1 hS (fun _ _ h => h) (fun _ h => h) hL hF
  obtain ⟨t2, a1, b1⟩ := kk ad1 T'.heap (locs ++ L) had (by rw [e1]; exact hI1) k3 T' rfl X'
  refine ⟨t2, st t2 ?_, b1⟩
  cases v <;> exact a1
/-- behind a call that throws -/
theorem xfinX {ee : Nat} {w1 : xH} {a : Array Value} {cells slots mc ms : Nat} {H : Heap} {locs : List Loc} {ls : Array Slot} {st0 rest : List Value}
    (hr : vx_Run p l e R s m args below meth c H locs cells slots mc ms (F0 m pc ls st0) rest (xQc D D2 A ae ad w w1 (.inr ee) a) (xXC D D2 A ae ad w w1 (.inr ee)) A) (hS : va_S A s.heap H locs)
    (kk : ∀ (ad1 : Nat → Nat) (H1 : Heap) (locs1 : List Loc) (q : Addr) (ce : Cell), (∀ k, k < w.1 → ad1 k = ad k) → xI D D2 A ad1 ae w1 H1 → va_S A s.heap H1 locs1 → H1[q]? = some ce → ce.vm = .none → s.vm.findClass (xEn ee) = some ce.cls → vx_W p l e R s m args below meth c H1 locs1 (cells + mc) (slots + ms) Q (F0 m pc ls rest) q) :
    W p l e R s m args below meth c H locs cells slots Q (F0 m pc ls st0) := by
  intro T hT X
  rcases hr T hT X with ⟨v', st₀, t, T', L, h0, X', hL, e1, e2, ⟨v2, ad1, hv2, -⟩, st⟩ | ⟨q, st₀, t, T', L, E, ce, h0, X', hL, e1, e2, ⟨e3, ad1, he3, rfl, had, hI1, hF⟩, hce, hcv, hcl, st⟩
  · cases hv2
  · cases he3
    obtain ⟨-, -, k3⟩ := vx_keep h0 e1 hS (fun _ _ h => h) (fun _ h => h) hL hF
    obtain ⟨t2, a1, b1⟩ := kk ad1 T'.heap (locs ++ L) q ce had (by rw [e1]; exact hI1) k3 (by rw [e1]; exact hce) hcv hcl T' rfl X'
    exact ⟨t2, st.trans a1, b1⟩
/-- into the handler -/
def xhT (h : Nat × Nat × Nat × Nat) : ExceptionTableEntry := ⟨h.1, h.2.1, h.2.2.1, h.2.2.2⟩
theorem xhe_inv {h : Nat × Nat × Nat × Nat} {ee : Nat} (h1 : xhe h = some ee) : ee < 2 ∧ h.2.2.2 ≠ 0 ∧ Cond.classLink "CalculatedSheetLaw" h.2.2.2 (xEn ee) ∈ xG ∧ Cond.castable (xEn ee) (xEn ee) ∈ lw_tbl := by
  unfold xhe at h1
  obtain ⟨r, h2, rfl⟩ := Option.map_eq_some_iff.mp h1
  have hp := List.find?_some h2
  have hm := List.mem_of_find?_eq_some h2
  have he : r.1 = h.2.2.2 := by simpa using hp
  rw [← he]
  simp only [xHc, List.mem_cons, List.not_mem_nil, or_false] at hm
  rcases hm with rfl | rfl
  · exact ⟨by decide, by decide, xG_pos (p := 563) (by decide +kernel) rfl, List.mem_of_getElem? (i := 546) (by decide +kernel)⟩
  · exact ⟨by decide, by decide, xG_pos (p := 378) (by decide +kernel) rfl, List.mem_of_getElem? (i := 385) (by decide +kernel)⟩
theorem xhand {hh : List (Nat × Nat × Nat × Nat)} {ee hp cells slots : Nat} {H : Heap} {locs : List Loc} {ls : Array Slot} {rest : List Value} {q : Addr} {ce : Cell} (C : xC X D D2 A ae p R s m args meth c M d) (ht : c.exceptionTable.toList = tableOf hh) (hS : va_S A s.heap H locs)
    (h : xhd (xMo M) hh pc ee = some hp) (hce : H[q]? = some ce) (hcv : ce.vm = .none) (hcl : s.vm.findClass (xEn ee) = some ce.cls) (kk : W p l e R s m args below meth c H locs cells slots Q (F0 m hp ls [.ref q])) :
    vx_W p l e R s m args below meth c H locs cells slots Q (F0 m pc ls rest) q := by
  unfold xhd at h
  replace h := xk_some.mp h; obtain ⟨h1, h⟩ := h
  have hown := C.1.2.2.2
  rw [beq_iff_eq.mp h1] at hown
  have hown : s.vm.findClass "CalculatedSheetLaw" = some m.cls := hown
  split at h
  · next h0 t0 =>
    replace h := xk_some.mp h; obtain ⟨h2, h⟩ := h
    split at h
    · next he =>
      cases h
      obtain ⟨g1, g2, g3, g4⟩ := xhe_inv he
      exact vx_catch hown [] (xhT h0) (tableOf t0) (by rw [ht]; rfl) (fun z hz => by cases hz) h2 g2 (C.2.2.1 _ g3) (va_Nw.use rfl (C.2.2.2.1.1.2.2.2.1 _ g4 rfl)) hce hcv hcl kk
    · replace h := xk_some.mp h; obtain ⟨h3, h⟩ := h
      rw [Bool.and_eq_true, beq_iff_eq, beq_iff_eq] at h3
      obtain ⟨rfl, h3⟩ := h3
      split at h
      · next h' t' =>
        replace h := xk_some.mp h; obtain ⟨h4, h⟩ := h
        cases h
        rw [Bool.and_eq_true, beq_iff_eq] at h4
        obtain ⟨g1, g2, g3, g4⟩ := xhe_inv h4.2
        obtain ⟨-, f2, f3, -⟩ := xhe_inv h3
        exact vx_catch hown [xhT h0] (xhT h') (tableOf t') (by rw [ht]; rfl) (fun z hz => by
          cases List.mem_singleton.mp hz
          exact Or.inr ⟨f2, _, C.2.2.1 _ f3, C.2.2.2.1.1.2.2.2.2⟩) h4.1 g2 (C.2.2.1 _ g3) (va_Nw.use rfl (C.2.2.2.1.1.2.2.2.1 _ g4 rfl)) hce hcv hcl kk
      · cases h
  · cases h
theorem xhk_W {v : Value} {ad : Nat → Nat} {ls : Array Slot} {hp cells slots : Nat} {H : Heap} {locs : List Loc} (C : xC X D D2 A ae p R s m args meth c M d) (h : xhk (xMo M) M (xMc M) hp = some v)
    (kk : ∀ (i : Instr) (q : Nat), decode (xMc M) q = .ok (i, 1) → xrk M i (some v) → W p l e R s m args below meth c H locs cells slots Q (F0 m q ls ((some v).toList.map (xv ad ae)))) : W p l e R s m args below meth c H locs cells slots Q (F0 m hp ls []) := by
  unfold xhk at h
  split at h
  · next n hd1 =>
    split at h
    · next hd2 =>
      obtain ⟨h1, h2⟩ := xk_some.mp h
      cases h2
      exact lv_iconst C.1.1 C.1.2.1 hd1 rfl (kk .ireturn _ hd2 ⟨.int, of_decide_eq_true h1, decide_eq_true rfl⟩)
    · cases h
  · next k hd1 =>
    split at h
    · next hd2 =>
      obtain ⟨h1, h2⟩ := xk_some.mp h
      obtain ⟨u, hu, rfl⟩ := Option.map_eq_some_iff.mp h2
      exact lv_ldc C.1.1 C.1.2.1 C.1.2.2.2 (C.2.2.1 _ (xKi_inv hu)) hd1 (kk .ireturn _ hd2 ⟨.int, of_decide_eq_true h1, decide_eq_true rfl⟩)
    · cases h
  · next k hd1 =>
    split at h
    · next hd2 =>
      obtain ⟨h1, h2⟩ := xk_some.mp h
      obtain ⟨u, hu, rfl⟩ := Option.map_eq_some_iff.mp h2
      exact lv_ldc2 C.1.1 C.1.2.1 C.1.2.2.2 (C.2.2.1 _ (xKl_inv hu)) hd1 (kk .lreturn _ hd2 ⟨.long, of_decide_eq_true h1, rfl⟩)
    · cases h
  · cases h
/-- an instruction that copies bytes -/
theorem xs_copy {k : Nat} {r : List Value} {w' : xH} (C : xC X D D2 A ae p R s m args meth c M d) (hd : 0 < d) (hdg : decode (xMc M) pc = .ok (.invokestatic k, 3)) (hac : xAc (xMo M) k = true) (hcp : xcp w st = some (r, w')) (hsum : xsum r ≤ 8) (kk : xWW D D2 A ae p l e R s m args below meth c Q n ad0 k0 n0 (pc + 3) L r w') :
    xWW D D2 A ae p l e R s m args below meth c Q n ad0 k0 n0 pc L st w := by
  obtain ⟨g1, g2, g3, g4⟩ := xAc_inv hac
  have hfr : 1 ≤ R.frames := by have := C.2.2.2.2.1; omega
  have hlo : ∀ ad : Nat → Nat, ((r.map (xv ad ae)).map fun v => v.category).sum + (nativeFrameWords "java/lang/System" "arraycopy" 5 + 11) ≤ R.locals := fun ad => by
    rw [xsum_map]
    have h1 := C.2.2.2.2.2
    have h2 : nativeFrameWords "java/lang/System" "arraycopy" 5 ≤ 20 := by decide
    omega
  have hcp' := hcp
  unfold xcp at hcp
  split at hcp
  · next z dp a sp b r' =>
    split at hcp
    · next k0' n0' f k1' n1' g hw0 hw1 =>
      obtain ⟨h1, h2⟩ := xk_some.mp hcp
      cases h2
      simp only [Bool.and_eq_true, decide_eq_true_eq, Bool.not_eq_true', decide_eq_false_iff_not, beq_iff_eq] at h1
      obtain ⟨⟨⟨⟨⟨⟨⟨rfl, rfl⟩, h3⟩, h4⟩, h5⟩, h6⟩, h7⟩, h8⟩ := h1
      intro ad H locs ls ha hI hS hl hL ho hn hc1 hc2
      have hok := (xcp_ok hcp' ho).1
      exact va_copyi C.1.1 C.1.2.1 (hL.symm.trans hl.1.symm) C.1.2.2.2 (C.2.2.1 _ g1) (C.2.2.1 _ g2) (C.2.2.1 _ g3) (C.2.2.1 _ g4) C.2.2.2.1.1.1 hI.1 hI.2 hS b a 3 3 (xw_arr ho.tl.tl.tl.tl.hd hw0) (xw_arr ho.tl.tl.hd hw1) rfl rfl rfl h3 h4 h5 h6 h7 h8 hfr (hlo ad) hdg (fun H1 locs1 a1 a2 a3 => kk ad H1 locs1 ls ha (xI_pt ho.tl.tl.hd rfl a1 a2) a3 hl hL hok hn hc1 hc2)
    · cases hcp
  · next z dp a sp j r' =>
    split at hcp
    · next k1' n1' g hw1 =>
      obtain ⟨h1, h2⟩ := xk_some.mp hcp
      cases h2
      simp only [Bool.and_eq_true, decide_eq_true_eq, Bool.not_eq_true', decide_eq_false_iff_not, beq_iff_eq] at h1
      obtain ⟨⟨⟨⟨⟨⟨⟨hj, rfl⟩, h3⟩, h4⟩, h5⟩, h6⟩, h7⟩, h8⟩ := h1
      intro ad H locs ls ha hI hS hl hL ho hn hc1 hc2
      have hok := (xcp_ok hcp' ho).1
      exact vk_copyt C.1.1 C.1.2.1 (hL.symm.trans hl.1.symm) C.1.2.2.2 (C.2.2.1 _ g1) (C.2.2.1 _ g2) (C.2.2.1 _ g3) (C.2.2.1 _ g4) C.2.2.2.1.1.1 hI.1 hI.2 hS (xob_T C hj) a 3 (xw_arr ho.tl.tl.hd hw1) rfl h3 h4 h5 h6 h7 h8 hfr (hlo ad) hdg (fun H1 locs1 a1 a2 a3 => kk ad H1 locs1 ls ha (xI_pt ho.tl.tl.hd rfl a1 a2) a3 hl hL hok hn hc1 hc2)
    · cases hcp
  · cases hcp
end
section
variable {X : xX} {D : va_G} {D2 : Nat → ClassId} {A : Nat → Prop} {ae : Nat → Nat} {l : Launch}
theorem xsnd (hl : l.stackTraces = false) : ∀ f : Nat, xSnd X l D D2 A ae f
  | 0 => by intro p e R s m args below meth c Q M d n ad0 k0 n0 pc L st w wf out h; cases h
  | f + 1 => by
    have ih := xsnd hl f
    intro p e R s m args below meth c Q M d n ad0 k0 n0 pc L st w wf out h ho C hT hE hfc hfs
    have h0 : (match decode (xMc M) pc with
      | .ok (i, len) => xins X (xexec X f) d M (xMo M) (xMc M) pc L st w i len
      | .error _ => none) = some (out, wf) := h
    split at h0
    · next i len hdg =>
      unfold xins at h0
      split at h0
      · next r hr =>
        obtain ⟨-, g1, g2, g3, g4⟩ := xone_ok hr
        have g := xexec_ok _ _ _ _ _ _ _ _ _ _ _ h0 (g1 ho)
        exact xone_snd C hdg hr (Nat.le_trans (Nat.sub_le_sub_right g.2.2.2.1 _) hfc) (Nat.le_trans (Nat.sub_le_sub_right g.2.2.2.2 _) hfs) (ih p e R s m args below meth c Q M d n ad0 k0 n0 _ _ _ _ wf out h0 (g1 ho) C hT hE hfc hfs)
      · rcases xctl_inv h0 with ⟨v, rfl, rfl, rfl, hrk, rfl⟩ | ⟨k, ee, rfl, rfl, hth, hd, hsum, rfl, rfl⟩ | ⟨k, r, w', rfl, rfl, hac, hcp, hsum, hd, h1⟩ | ⟨k, a, r, rfl, rfl, hoi, rfl, hsum, hd, h1⟩ | ⟨rest, As, kind, M', rfl, h3, h4⟩
        · intro ad H locs ls ha hI hS hlr hL ho1 hn hc1 hc2
          exact hE.1 v i pc ad H locs ls rfl hdg hrk ha hI hS
        · intro ad H locs ls ha hI hS hlr hL ho1 hn hc1 hc2
          exact hE.2.2 ee k pc ad H locs ls st w rfl rfl hdg hth hsum ha hI hS (hlr.1.trans hL) hc1 hc2
        · exact xs_copy C hd hdg hac hcp hsum (ih p e R s m args below meth c Q M d n ad0 k0 n0 _ _ _ _ wf out h1 (xcp_ok hcp ho).1 C hT hE hfc hfs)
        · have k1 := ih p e R s m args below meth c Q M d n ad0 k0 n0 _ _ _ _ wf out h1 ho.tl C hT hE hfc hfs
          obtain ⟨g1, g2, g3⟩ := xOi_inv hoi
          intro ad H locs ls ha hI hS hlr hL ho1 hn hc1 hc2
          refine W.objInit C.1.1 C.1.2.1 C.1.2.2.2 (C.2.2.1 _ g1) (C.2.2.1 _ g2) (C.2.2.1 _ g3) rfl (hlr.1.trans hL) (rest := r.map (xv ad ae)) rfl hdg (by have := C.2.2.2.2.1; omega) ?_ (k1 ad H locs ls ha hI hS hlr hL ho1.tl hn hc1 hc2)
          rw [xsum_map]
          have := C.2.2.2.2.2
          show 2 * 0 + xsum r + 12 ≤ R.locals
          omega
        · obtain ⟨d', out1, w1, rfl, hsum, hfl, h5, h6⟩ := xcall_inv h4
          obtain ⟨m1, m2⟩ := xcl3_mem h3
          have hAs : ∀ v ∈ As, xvk w.1 v := fun v hv => ho.2.2 v (m2 v hv)
          have g := xexec_ok _ _ _ _ _ _ _ _ _ _ _ h5 (xen_ok ho.1 hAs)
          have hA : ∀ q, s.heap.size ≤ q → A q := C.2.2.2.1.1.2.1
          intro ad H locs ls ha hI hS hlr hL ho1 hn hc1 hc2
          have hMet := xcon hl ih (xcl3_lt h3) h5 hfl ho.1 hAs ad
          rcases h6 with ⟨v, rfl, h7⟩ | ⟨ee, rfl, hk2, h8⟩
          · have hok2 : xok w1 L (v.toList ++ rest) := ⟨g.1, fun u hu => xvk_mono g.2.2.1 (ho.2.1 u hu), fun u hu => by
              rcases List.mem_append.mp hu with hu | hu
              · cases v with
                | none => cases hu
                | some v => cases List.mem_singleton.mp hu; exact g.2.1 _ rfl
              · exact xvk_mono g.2.2.1 (ho.2.2 u (m1 u hu))⟩
            have g9 := xexec_ok _ _ _ _ _ _ _ _ _ _ _ h7 hok2
            have hb : w.2.2.1 - k0 + (w1.2.2.1 - w.2.2.1) = w1.2.2.1 - k0 ∧ w.2.2.2 - n0 + (w1.2.2.2 - w.2.2.2) = w1.2.2.2 - n0 := by
              have := g.2.2.2.1
              have := g.2.2.2.2
              omega
            have hr := xrunR (below := below) (e := e) (cells := w.2.2.1 - k0) (slots := w.2.2.2 - n0) C hI hS ho1 h3 hdg (hlr.1.trans hL) hsum (xMet_of hMet (fun E st t hx => by obtain ⟨ee, _, h, -⟩ := hx; cases h)) (by rw [hb.1, hb.2]; exact ⟨Nat.le_trans (Nat.sub_le_sub_right g9.2.2.2.1 _) hfc, Nat.le_trans (Nat.sub_le_sub_right g9.2.2.2.2 _) hfs⟩)
            refine xfin hA hr hS (fun ad1 H1 locs1 had hI1 hS1 => ?_)
            have k1 := ih p e R s m args below meth c Q M (d' + 1) n ad0 k0 n0 _ _ _ _ wf out h7 hok2 C hT hE hfc hfs
            have hl1 : xlr ls (xv ad1 ae) L := by
              refine ⟨hlr.1, hlr.2.1, fun z hz => ?_⟩
              obtain ⟨j, u, f1, f2, f3⟩ := xlv_mem.mp (show (z.1, z.2) ∈ _ from hz)
              refine hlr.2.2 z (xlv_mem.mpr ⟨j, u, f1, f2, ?_⟩)
              rw [f3]
              exact xv_eq had (ho1.2.1 u (List.mem_of_getElem? f1))
            have hr1 : rest.map (xv ad1 ae) = rest.map (xv ad ae) := List.map_congr_left fun u hu => xv_eq had (ho1.2.2 u (m1 u hu))
            have k2 := k1 ad1 H1 locs1 ls (fun k hk => (had k (Nat.lt_of_lt_of_le hk hn)).trans (ha k hk)) hI1 hS1 hl1 hL hok2 (Nat.le_trans hn g.2.2.1) (Nat.le_trans hc1 g.2.2.2.1) (Nat.le_trans hc2 g.2.2.2.2)
            rw [List.map_append, hr1] at k2
            rw [hb.1, hb.2]
            exact k2
          · have hwf : w1.2.2.1 ≤ wf.2.2.1 ∧ w1.2.2.2 ≤ wf.2.2.2 := by
              rcases h8 with ⟨-, -, rfl⟩ | ⟨hp, z, -, -, -, -, rfl⟩ <;> exact ⟨Nat.le_refl _, Nat.le_refl _⟩
            have hb : w.2.2.1 - k0 + (w1.2.2.1 - w.2.2.1) = w1.2.2.1 - k0 ∧ w.2.2.2 - n0 + (w1.2.2.2 - w.2.2.2) = w1.2.2.2 - n0 := by
              have := g.2.2.2.1
              have := g.2.2.2.2
              omega
            have hr := xrunX (below := below) (e := e) (cells := w.2.2.1 - k0) (slots := w.2.2.2 - n0) hk2 C hI hS ho1 h3 hdg (hlr.1.trans hL) hsum hMet (by rw [hb.1, hb.2]; exact ⟨Nat.le_trans (Nat.sub_le_sub_right hwf.1 _) hfc, Nat.le_trans (Nat.sub_le_sub_right hwf.2 _) hfs⟩)
            refine xfinX hr hS (fun ad1 H1 locs1 q ce had hI1 hS1 hce hcv hcl => ?_)
            have ha1 : ∀ k, k < n → ad1 k = ad0 k := fun k hk => (had k (Nat.lt_of_lt_of_le hk hn)).trans (ha k hk)
            rw [hb.1, hb.2]
            rcases h8 with ⟨hh, rfl, rfl⟩ | ⟨hp, z, hh, hhd, hhn, rfl, rfl⟩
            · exact hE.2.1 ee pc ad1 H1 locs1 ls _ q ce rfl hh ha1 hI1 hS1 hce hcv hcl
            · refine xhand C (hT hh) hS1 hhd hce hcv hcl ?_
              unfold xhn at hhn
              split at hhn
              · next kk hd0 =>
                obtain ⟨h9, h10⟩ := xk_some.mp hhn
                refine lv_astore_n C.1.1 C.1.2.1 hd0 rfl hlr (by rw [hL, C.1.2.2.1]; exact of_decide_eq_true h9) rfl (fun ls' h' => ?_)
                exact xhk_W C h10 (fun i q hd hr => hE.1 (some z) i q ad1 H1 locs1 ls' rfl hd hr ha1 hI1 hS1)
              · next kk hd0 =>
                obtain ⟨h9, h10⟩ := xk_some.mp hhn
                refine lv_astore C.1.1 C.1.2.1 hd0 hlr (by rw [hL, C.1.2.2.1]; exact of_decide_eq_true h9) rfl (fun ls' h' => ?_)
                exact xhk_W C h10 (fun i q hd hr => hE.1 (some z) i q ad1 H1 locs1 ls' rfl hd hr ha1 hI1 hS1)
              · cases hhn
    · cases h0
end
