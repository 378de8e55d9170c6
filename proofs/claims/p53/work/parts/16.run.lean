/-! a call: from the callee's contract to its run in the caller's frame -/
section
theorem xzip {α β : Type} {f : α × β → Bool} : ∀ {l : List α} {ps : List β}, l.length = ps.length → (l.zip ps).all f = true → ∀ u ∈ l, ∃ q, f (u, q) = true
  | [], _, _, _, u, hu => by cases hu
  | a :: l, [], h, _, u, hu => by cases h
  | a :: l, b :: ps, h, h1, u, hu => by
    rw [List.zip_cons_cons, List.all_cons, Bool.and_eq_true] at h1
    rcases List.mem_cons.mp hu with rfl | hu
    · exact ⟨b, h1.1⟩
    · exact xzip (Nat.succ.inj h) h1.2 u hu
def xcd (u : Cond) : Bool := match u with | .code _ _ _ _ => true | _ => false
theorem xCa_inv {o k ci kind M' n : Nat} (h : xCa o k ci = some (kind, M', n)) : M' < 417 ∧ xpn (xMn M') = some n ∧ xcki kind M' ci = true ∧ (xMh M' = [] ∨ kind = 0) ∧
    ∀ u ∈ xcws kind (xClN o) k (xNm ci) (xMn M'), xcd u = true ∨ (goodWord u = true ∧ u ∈ xG) ∨ (xbk u = true ∧ u ∈ lw_tbl) := by
  unfold xCa at h
  obtain ⟨r, h1, h2⟩ := Option.map_eq_some_iff.mp h
  obtain ⟨h3, h4⟩ := xfind xCt_ok h1
  obtain ⟨rfl, h5⟩ := Prod.mk.inj h2
  obtain ⟨rfl, rfl⟩ := Prod.mk.inj h5
  simp only [Bool.and_eq_true, beq_iff_eq] at h4
  unfold xck12 at h3
  rw [h4.1.1, h4.1.2, h4.2] at h3
  simp only [Bool.and_eq_true, decide_eq_true_eq, Bool.or_eq_true, beq_iff_eq] at h3
  obtain ⟨⟨⟨⟨⟨c1, c2⟩, c3⟩, c4⟩, c5⟩, c6⟩ := h3
  refine ⟨c1, c2, c3, c4, fun u hu => ?_⟩
  obtain ⟨q, hq⟩ := xzip c5 c6 u hu
  unfold xcwk at hq
  split at hq
  · exact Or.inl (by simp_all [xcd])
  · simp only [Bool.and_eq_true, decide_eq_true_eq, Bool.or_eq_true] at hq
    rcases hq with ⟨h7, h8 | ⟨h8, h9⟩⟩
    · exact Or.inr (Or.inl ⟨h8, xGat_in h7 h8⟩)
    · refine Or.inr (Or.inr ⟨h8, ?_⟩)
      unfold xGat at h7
      rw [if_pos h9] at h7
      exact List.mem_of_getElem? h7
theorem xMl_le {M : Nat} (h : M < 417) : xMl M ≤ 45 := of_decide_eq_true (List.all_eq_true.mp xMl_ok M (List.mem_range.mpr h))
variable {X : xX} {D : va_G} {D2 : Nat → ClassId} {A : Nat → Prop} {ae : Nat → Nat} {p : Program} {l : Launch} {e : Env} {R : Room} {s : State} {m : MethodId} {args : Array Value} {below : List Frame} {meth : Method} {c : Code} {Q : State → Prop} {M d n k0 n0 : Nat} {ad ad0 : Nat → Nat} {pc len : Nat} {L : xL} {st : List Value} {w wf : xH} {out : xO}
theorem xw_good {W0 : List Cond} {u : Cond} (h : ∀ u ∈ W0, xcd u = true ∨ (goodWord u = true ∧ u ∈ xG) ∨ (xbk u = true ∧ u ∈ lw_tbl)) (hu : u ∈ W0) (h1 : xcd u = false) (h2 : xbk u = false) : u ∈ xG := by
  rcases h u hu with h3 | h3 | h3
  · rw [h1] at h3; cases h3
  · exact h3.2
  · rw [h2] at h3; cases h3.1
theorem xw_bad (C : xC X D D2 A ae p R s m args meth c M d) {W0 : List Cond} {u : Cond} (h : ∀ u ∈ W0, xcd u = true ∨ (goodWord u = true ∧ u ∈ xG) ∨ (xbk u = true ∧ u ∈ lw_tbl)) (hu : u ∈ W0) (h1 : xcd u = false) (h2 : u.onTables = true) : va_Nw u s := by
  rcases h u hu with h3 | h3 | h3
  · rw [h1] at h3; cases h3
  · exact va_Nw.of h2 (C.2.2.1 u h3.2)
  · exact C.2.2.2.1.1.2.2.2.1 u h3.2 h3.1
theorem xtk {n : Nat} {v : Value} (h : st[n]? = some v) : (st.take (n + 1)).reverse = v :: (st.take n).reverse ∧ st = st.take n ++ v :: st.drop (n + 1) ∧ (st.take n).length = n := by
  have hn : n < st.length := (List.getElem?_eq_some_iff.mp h).1
  refine ⟨?_, ?_, by rw [List.length_take]; omega⟩
  · rw [List.take_succ, h, Option.toList_some, List.reverse_append]; rfl
  · conv => lhs; rw [← List.take_append_drop n st]
    rw [List.drop_eq_getElem_cons hn, (List.getElem?_eq_some_iff.mp h).2]
theorem xst_split {n : Nat} {v : Value} (h : st[n]? = some v) (f : Value → Value) : st.map f = (((st.take n).reverse.map f)).reverse ++ f v :: (st.drop (n + 1)).map f := by
  conv => lhs; rw [(xtk h).2.1]
  rw [List.map_append, List.map_cons, List.map_reverse, List.reverse_reverse]
theorem xws_code {M : Nat} (h : xMh M = []) : xws M = Cond.code (xMn M) (xMc M) (xMl M) (xMret M) :: xG := by unfold xws xcw; rw [h]
theorem xvw {ci : Nat} (h : ci < 11) : ∃ q, vwCl[ci]? = some q ∧ xNm ci = q.1 := by
  have : ci < vwCl.length := h
  refine ⟨vwCl[ci], List.getElem?_eq_getElem this, ?_⟩
  unfold xNm
  rw [List.getElem?_eq_getElem this]
  rfl
/-- the receiver's cell -/
theorem xrecv (C : xC X D D2 A ae p R s m args meth c M d) {H : Heap} {locs : List Loc} (hI : xI D D2 A ad ae w H) (hS : va_S A s.heap H locs) {v : Value} {ci : Nat} (hv : xvk w.1 v) (h : xrc w v = some ci) (hci : ci < 11) :
    ∃ b, xv ad ae v = .ref b ∧ ∃ cell : Cell, H[b]? = some cell ∧ cell.vm.isStatics = false ∧ s.vm.findClass (xNm ci) = some cell.cls := by
  unfold xrc at h
  split at h
  · next a =>
    split at h
    · next cj fs hw =>
      cases h
      obtain ⟨q, hq, hn⟩ := xvw hci
      rw [hn]
      exact ⟨ad a, rfl, va_recv C.2.2.2.1.1.1 hI.1 hq (xw_obj hv hw)⟩
    · cases h
  · next k =>
    obtain ⟨h1, h2⟩ := xk_some.mp h
    cases h2
    unfold xos at h1
    simp only [Bool.and_eq_true, beq_iff_eq, decide_eq_true_eq] at h1
    obtain ⟨⟨g1, g2⟩, g3⟩ := h1
    have h5 : 10 + 2 * ((k - 10) / 2) = k := by omega
    have := vk_recv (C.2.2.2.1.2.2.1.1 _ g3) (Nat.lt_succ_self 0) hS
    rw [h5] at this
    exact ⟨ae k, rfl, this⟩
  · cases h
theorem xrunR {i : Instr} {rest As : List Value} {kind M' d' mc ms cells slots : Nat} {H : Heap} {locs : List Loc} {ls : Array Slot} {Qc : Array Value → State → Outcome → State → Prop} (C : xC X D D2 A ae p R s m args meth c M (d' + 1)) (hI : xI D D2 A ad ae w H) (hS : va_S A s.heap H locs) (ho : xok w L st)
    (h3 : xcl3 (xMo M) w st i rest As kind M') (hdg : decode (xMc M) pc = .ok (i, 3)) (hsz : ls.size = c.maxLocals) (hsum : xsum rest ≤ 8) (hMet : Met l (xMn M') (xws M') (xrm d' mc ms) (xPc X D D2 A ae ad As w) Qc mc ms A) (hf : cells + mc ≤ R.cells ∧ slots + ms ≤ R.slots) :
    va_Run p l e R s m args below meth c H locs cells slots mc ms (F0 m pc ls (st.map (xv ad ae))) (rest.map (xv ad ae)) (Qc (As.map (xv ad ae)).toArray) A := by
  have S : CallFix p m c (xMc M) c.maxLocals s args xG (xClN (xMo M)) := ⟨C.1.1, C.1.2.1, rfl, C.1.2.2.2, C.2.2.1⟩
  have hPc : ∀ U : State, U.heap = H → s.WarmedH U.vm → xPc X D D2 A ae ad As w (As.map (xv ad ae)).toArray U := fun U hU hW => ⟨rfl, by rw [hU]; exact C.2.2.2.1.moved hW hS.1 hS.2.1, by rw [hU]; exact hI⟩
  have hW8 : ∀ g : List Value, 2 * (F0 m pc ls g).monitorRoom + ((rest.map (xv ad ae)).map fun v => v.category).sum ≤ 8 := fun g => by
    rw [xsum_map]
    show 2 * 0 + xsum rest ≤ 8
    omega
  have hR : ∀ {M'}, M' < 417 → (xrm d' mc ms).frames + 1 ≤ R.frames ∧ 8 + (xMl M' + 11) + (xrm d' mc ms).locals ≤ R.locals := fun {M'} hM => by
    have h1 := C.2.2.2.2.1
    have h2 := C.2.2.2.2.2
    have h4 := xMl_le hM
    show d' + 8 + 1 ≤ R.frames ∧ 8 + (xMl M' + 11) + (64 * d' + 200) ≤ R.locals
    omega
  rcases h3 with ⟨k, n, rfl, hca, hn, rfl, rfl⟩ | ⟨k, n, a, ci, fs, rfl, hca, hst, hobj, rfl, rfl⟩ | ⟨k, n, v, ci, rfl, hst, hci, hca, rfl, rfl⟩
  · -- static
    obtain ⟨hM, hpn, hk, hh, hw⟩ := xCa_inv hca
    have hlen : ((st.take n).reverse.map (xv ad ae)).length = n := by rw [List.length_map, List.length_reverse, List.length_take]; omega
    have hstk : (F0 m pc ls (st.map (xv ad ae))).stack = ((st.take n).reverse.map (xv ad ae)).reverse ++ (st.drop n).map (xv ad ae) := by
      show st.map (xv ad ae) = _
      rw [← List.map_reverse, List.reverse_reverse, ← List.map_append, List.take_append_drop]
    have hcls := (xM_ok hM).2.2.2
    unfold xcki at hk
    split at hk
    · -- 0
      have hT : GoodIn xG (va_wsS (xClN (xMo M)) k (xMn M') (xws M')) := xws_in hM _ (fun u hu => by
        rcases List.mem_cons.mp hu with rfl | hu
        · exact xw_good hw List.mem_cons_self rfl rfl
        rcases List.mem_cons.mp hu with rfl | hu
        · exact xw_good hw (List.mem_cons_of_mem _ List.mem_cons_self) rfl rfl
        rcases List.mem_cons.mp hu with rfl | hu
        · exact xw_good hw (List.mem_cons_of_mem _ (List.mem_cons_of_mem _ List.mem_cons_self)) rfl rfl
        cases hu)
      cases hhq : xMh M' with
      | nil => exact va_runS S hMet (va_cwS n C.2.2.1 hT (xws_code hhq) rfl rfl ⟨hcls.1, hcls.2, hpn⟩ (hR hM)) ⟨xPc_blind, hPc⟩ rfl hlen hsz hstk (hW8 _) hdg hf
      | cons h0 t0 => exact vx_runSW (hh := h0 :: t0) S hMet (vx_cwSW (bytes := xMc M') (maxL := xMl M') (ret := xMret M') (ws' := xG) n C.2.2.1 hT (by unfold xws xcw; rw [hhq]) rfl rfl ⟨hcls.1, hcls.2, hpn⟩ (hR hM)) ⟨xPc_blind, hPc⟩ rfl hlen hsz hstk (hW8 _) hdg hf
    · simp only [Bool.and_eq_true, decide_eq_true_eq] at hk; omega
    · simp only [Bool.and_eq_true, beq_iff_eq] at hk; omega
    · have := of_decide_eq_true hk; omega
    · simp only [Bool.and_eq_true, beq_iff_eq] at hk; omega
    · have := of_decide_eq_true hk; omega
    · -- 10
      have hh := hh.resolve_right (by decide)
      have hG : GoodIn xG (xws M') := xws_in hM [] (fun u hu => by cases hu)
      have hl := xw_bad C hw List.mem_cons_self rfl rfl
      have h1 := C.2.2.1 _ (xw_good hw (List.mem_cons_of_mem _ List.mem_cons_self) rfl rfl)
      have h2 := C.2.2.1 _ (xw_good hw (List.mem_cons_of_mem _ (List.mem_cons_of_mem _ List.mem_cons_self)) rfl rfl)
      exact va_runSN S hMet ⟨va_cnB n C.2.2.1 hG (xws_code hh) rfl rfl hl h2 ⟨hcls.1, hcls.2, hpn⟩ (hR hM), h1, trivial⟩ ⟨xPc_blind, hPc⟩ rfl hlen hsz hstk (hW8 _) hdg hf
    · simp only [Bool.and_eq_true, beq_iff_eq] at hk; omega
    · cases hk
  · -- special
    obtain ⟨hM, hpn, hk, hh, hw⟩ := xCa_inv hca
    obtain ⟨e1, -, e3⟩ := xtk hst
    rw [e1] at hMet hPc ⊢
    have hlen : ((st.take n).reverse.map (xv ad ae)).length = n := by rw [List.length_map, List.length_reverse, e3]
    have hstk : (F0 m pc ls (st.map (xv ad ae))).stack = ((st.take n).reverse.map (xv ad ae)).reverse ++ .ref (ad a) :: (st.drop (n + 1)).map (xv ad ae) := xst_split hst (xv ad ae)
    have hcls := (xM_ok hM).2.2.2
    unfold xcki at hk
    split at hk
    · have := beq_iff_eq.mp hk; omega
    · simp only [Bool.and_eq_true, decide_eq_true_eq] at hk; omega
    · -- 2
      simp only [Bool.and_eq_true, decide_eq_true_eq, beq_iff_eq] at hk
      have hh := hh.resolve_right (by decide)
      have hG : GoodIn xG (xws M') := xws_in hM [] (fun u hu => by cases hu)
      have h0 := C.2.2.1 _ (xw_good hw List.mem_cons_self rfl rfl)
      have h1 := C.2.2.1 _ (xw_good hw (List.mem_cons_of_mem _ List.mem_cons_self) rfl rfl)
      have h2 := C.2.2.1 _ (xw_good hw (List.mem_cons_of_mem _ (List.mem_cons_of_mem _ List.mem_cons_self)) rfl rfl)
      exact va_runI S hMet (cwI (bytes := xMc M') (maxL := xMl M') (ws' := xG) n C.2.2.1 hG (by rw [xws_code hh, hk.2]) rfl rfl h2 h0 h1 hk.1.2 ⟨hcls.1, hcls.2, hpn⟩ (hR hM)) ⟨xPc_blind, hPc⟩ rfl hlen hsz hstk (hW8 _) hdg hf
    · have := of_decide_eq_true hk; omega
    · -- 6
      simp only [Bool.and_eq_true, decide_eq_true_eq, beq_iff_eq] at hk
      have hh := hh.resolve_right (by decide)
      have hT : GoodIn xG (va_wsSU (xClN (xMo M)) k (xMn M') (xws M')) := xws_in hM _ (fun u hu => by
        rcases List.mem_cons.mp hu with rfl | hu
        · exact xw_good hw List.mem_cons_self rfl rfl
        rcases List.mem_cons.mp hu with rfl | hu
        · exact xw_good hw (List.mem_cons_of_mem _ List.mem_cons_self) rfl rfl
        rcases List.mem_cons.mp hu with rfl | hu
        · exact xw_good hw (List.mem_cons_of_mem _ (List.mem_cons_of_mem _ List.mem_cons_self)) rfl rfl
        rcases List.mem_cons.mp hu with rfl | hu
        · exact xw_good hw (List.mem_cons_of_mem _ (List.mem_cons_of_mem _ (List.mem_cons_of_mem _ List.mem_cons_self))) rfl rfl
        rcases List.mem_cons.mp hu with rfl | hu
        · exact xw_good hw (List.mem_cons_of_mem _ (List.mem_cons_of_mem _ (List.mem_cons_of_mem _ (List.mem_cons_of_mem _ List.mem_cons_self)))) rfl rfl
        cases hu)
      have hav : xvk w.1 (.ref a) := ho.2.2 _ (List.mem_of_getElem? hst)
      obtain ⟨cell, g1, g2⟩ : ∃ q : vw_C, vwCl[ci]? = some q ∧ True := by
        have hP := hI.1 a _ (xw_obj hav hobj)
        obtain ⟨r, hr, -⟩ := hP
        exact ⟨r, hr, trivial⟩
      exact va_runSU ((C.2.2.2.1.1.1.1 ci cell g1).2) S hMet (va_cwSU n C.2.2.1 hT (xws_code hh) rfl rfl ⟨hk.1.2, hpn⟩ (hR hM)) ⟨xPc_blind, va_recv C.2.2.2.1.1.1 hI.1 g1 (xw_obj hav hobj), hPc⟩ rfl hlen hsz hstk (hW8 _) hdg hf
    · have := of_decide_eq_true hk; omega
    · have := beq_iff_eq.mp hk; omega
    · -- 12
      simp only [Bool.and_eq_true, decide_eq_true_eq, beq_iff_eq] at hk
      have hh := hh.resolve_right (by decide)
      have hG : GoodIn xG (xws M') := xws_in hM [] (fun u hu => by cases hu)
      have hl := xw_bad C hw List.mem_cons_self rfl rfl
      have h1 := C.2.2.1 _ (xw_good hw (List.mem_cons_of_mem _ List.mem_cons_self) rfl rfl)
      have h2 := C.2.2.1 _ (xw_good hw (List.mem_cons_of_mem _ (List.mem_cons_of_mem _ List.mem_cons_self)) rfl rfl)
      exact va_runIN S hMet ⟨va_cnB (bytes := xMc M') (maxL := xMl M') (ws' := xG) n C.2.2.1 hG (by rw [xws_code hh, hk.2]) rfl rfl hl h2 ⟨hcls.1, hcls.2, hpn⟩ (hR hM), hk.1.2, h1⟩ ⟨xPc_blind, hPc⟩ rfl hlen hsz hstk (hW8 _) hdg hf
    · cases hk
  · -- virtual
    obtain ⟨hM, hpn, hk, hh, hw⟩ := xCa_inv hca
    obtain ⟨e1, -, e3⟩ := xtk hst
    rw [e1] at hMet hPc ⊢
    have hlen : ((st.take n).reverse.map (xv ad ae)).length = n := by rw [List.length_map, List.length_reverse, e3]
    have hcls := (xM_ok hM).2.2.2
    unfold xcki at hk
    split at hk
    · have := beq_iff_eq.mp hk
      rw [this] at hci
      unfold xrc at hci
      split at hci
      · split at hci
        · next cj fs hw0 =>
          cases hci
          have hP := hI.1 _ _ (xw_obj (ho.2.2 _ (List.mem_of_getElem? hst)) hw0)
          obtain ⟨r, hr, -⟩ := hP
          have : (99 : Nat) < 11 := (List.getElem?_eq_some_iff.mp hr).1
          omega
        · cases hci
      · obtain ⟨-, h2⟩ := xk_some.mp hci; cases h2
      · cases hci
    · -- 1
      simp only [Bool.and_eq_true, decide_eq_true_eq] at hk
      have hh := hh.resolve_right (by decide)
      obtain ⟨b, hb, hrecv⟩ := xrecv C hI hS (ho.2.2 _ (List.mem_of_getElem? hst)) hci hk.2
      have hstk : (F0 m pc ls (st.map (xv ad ae))).stack = ((st.take n).reverse.map (xv ad ae)).reverse ++ .ref b :: (st.drop (n + 1)).map (xv ad ae) := hb ▸ xst_split hst (xv ad ae)
      rw [List.map_cons, hb] at hPc ⊢
      have hT : GoodIn xG (wsV (xClN (xMo M)) k (xNm ci) (xMn M') (xws M')) := xws_in hM _ (fun u hu => by
        rcases List.mem_cons.mp hu with rfl | hu
        · exact xw_good hw List.mem_cons_self rfl rfl
        rcases List.mem_cons.mp hu with rfl | hu
        · exact xw_good hw (List.mem_cons_of_mem _ List.mem_cons_self) rfl rfl
        rcases List.mem_cons.mp hu with rfl | hu
        · exact xw_good hw (List.mem_cons_of_mem _ (List.mem_cons_of_mem _ List.mem_cons_self)) rfl rfl
        rcases List.mem_cons.mp hu with rfl | hu
        · rw [← hk.1]; exact xw_good hw (List.mem_cons_of_mem _ (List.mem_cons_of_mem _ (List.mem_cons_of_mem _ List.mem_cons_self))) rfl rfl
        cases hu)
      exact va_runV S hMet (cwV n C.2.2.1 hT (xws_code hh) rfl rfl ⟨hk.1, hcls.1, hcls.2, hpn⟩ (hR hM)) ⟨xPc_blind, hrecv, hPc⟩ rfl hlen hsz hstk (hW8 _) hdg hf
    · simp only [Bool.and_eq_true, beq_iff_eq] at hk
      have h98 := hk.1.1
      rw [h98] at hci
      unfold xrc at hci
      split at hci
      · split at hci
        · next cj fs hw0 =>
          cases hci
          have hP := hI.1 _ _ (xw_obj (ho.2.2 _ (List.mem_of_getElem? hst)) hw0)
          obtain ⟨r, hr, -⟩ := hP
          have : (98 : Nat) < 11 := (List.getElem?_eq_some_iff.mp hr).1
          omega
        · cases hci
      · obtain ⟨-, h2⟩ := xk_some.mp hci; cases h2
      · cases hci
    · -- 5
      have hk := of_decide_eq_true hk
      have hh := hh.resolve_right (by decide)
      obtain ⟨b, hb, hrecv⟩ := xrecv C hI hS (ho.2.2 _ (List.mem_of_getElem? hst)) hci hk
      have hstk : (F0 m pc ls (st.map (xv ad ae))).stack = ((st.take n).reverse.map (xv ad ae)).reverse ++ .ref b :: (st.drop (n + 1)).map (xv ad ae) := hb ▸ xst_split hst (xv ad ae)
      rw [List.map_cons, hb] at hPc ⊢
      have hT : GoodIn xG (va_wsU (xClN (xMo M)) k (xNm ci) (xMn M').cls (xMn M') (xMn M') (xws M')) := xws_in hM _ (fun u hu => by
        rcases List.mem_cons.mp hu with rfl | hu
        · exact xw_good hw List.mem_cons_self rfl rfl
        rcases List.mem_cons.mp hu with rfl | hu
        · exact xw_good hw (List.mem_cons_of_mem _ List.mem_cons_self) rfl rfl
        rcases List.mem_cons.mp hu with rfl | hu
        · exact xw_good hw (List.mem_cons_of_mem _ (List.mem_cons_of_mem _ List.mem_cons_self)) rfl rfl
        rcases List.mem_cons.mp hu with rfl | hu
        · exact xw_good hw (List.mem_cons_of_mem _ (List.mem_cons_of_mem _ (List.mem_cons_of_mem _ List.mem_cons_self))) rfl rfl
        rcases List.mem_cons.mp hu with rfl | hu
        · exact xw_good hw (List.mem_cons_of_mem _ (List.mem_cons_of_mem _ (List.mem_cons_of_mem _ (List.mem_cons_of_mem _ List.mem_cons_self)))) rfl rfl
        cases hu)
      exact va_runU S hMet (va_cwU n C.2.2.1 hT (xws_code hh) rfl rfl rfl ⟨hcls.1, hcls.2, hpn⟩ (hR hM)) ⟨xPc_blind, hrecv, hPc⟩ rfl hlen hsz hstk (hW8 _) hdg hf
    · simp only [Bool.and_eq_true, beq_iff_eq] at hk
      have h98 := hk.1.1
      rw [h98] at hci
      unfold xrc at hci
      split at hci
      · split at hci
        · next cj fs hw0 =>
          cases hci
          have hP := hI.1 _ _ (xw_obj (ho.2.2 _ (List.mem_of_getElem? hst)) hw0)
          obtain ⟨r, hr, -⟩ := hP
          have : (98 : Nat) < 11 := (List.getElem?_eq_some_iff.mp hr).1
          omega
        · cases hci
      · obtain ⟨-, h2⟩ := xk_some.mp hci; cases h2
      · cases hci
    · -- 7
      have hk := of_decide_eq_true hk
      have hh := hh.resolve_right (by decide)
      obtain ⟨b, hb, hrecv⟩ := xrecv C hI hS (ho.2.2 _ (List.mem_of_getElem? hst)) hci hk
      have hstk : (F0 m pc ls (st.map (xv ad ae))).stack = ((st.take n).reverse.map (xv ad ae)).reverse ++ .ref b :: (st.drop (n + 1)).map (xv ad ae) := hb ▸ xst_split hst (xv ad ae)
      rw [List.map_cons, hb] at hPc ⊢
      have hT : GoodIn xG (va_wsU (xClN (xMo M)) k (xNm ci) "CalculatedSheet$Rewriting" ⟨"CalculatedSheet$Rewriting", (xMn M').name, (xMn M').desc⟩ (xMn M') (xws M')) := xws_in hM _ (fun u hu => by
        rcases List.mem_cons.mp hu with rfl | hu
        · exact xw_good hw List.mem_cons_self rfl rfl
        rcases List.mem_cons.mp hu with rfl | hu
        · exact xw_good hw (List.mem_cons_of_mem _ List.mem_cons_self) rfl rfl
        rcases List.mem_cons.mp hu with rfl | hu
        · exact xw_good hw (List.mem_cons_of_mem _ (List.mem_cons_of_mem _ List.mem_cons_self)) rfl rfl
        rcases List.mem_cons.mp hu with rfl | hu
        · exact xw_good hw (List.mem_cons_of_mem _ (List.mem_cons_of_mem _ (List.mem_cons_of_mem _ List.mem_cons_self))) rfl rfl
        rcases List.mem_cons.mp hu with rfl | hu
        · exact xw_good hw (List.mem_cons_of_mem _ (List.mem_cons_of_mem _ (List.mem_cons_of_mem _ (List.mem_cons_of_mem _ List.mem_cons_self)))) rfl rfl
        cases hu)
      have hz : va_Nw (.declares ⟨"CalculatedSheet$Rewriting", (xMn M').name, (xMn M').desc⟩) s := xw_bad C hw (List.mem_cons_of_mem _ (List.mem_cons_of_mem _ (List.mem_cons_of_mem _ (List.mem_cons_of_mem _ (List.mem_cons_of_mem _ List.mem_cons_self))))) rfl rfl
      exact va_runU S hMet (va_cwA n C.2.2.1 hT (xws_code hh) rfl rfl hz ⟨by decide, by decide, hpn⟩ (hR hM)) ⟨xPc_blind, hrecv, hPc⟩ rfl hlen hsz hstk (hW8 _) hdg hf
    · have := beq_iff_eq.mp hk
      rw [this] at hci
      unfold xrc at hci
      split at hci
      · split at hci
        · next cj fs hw0 =>
          cases hci
          have hP := hI.1 _ _ (xw_obj (ho.2.2 _ (List.mem_of_getElem? hst)) hw0)
          obtain ⟨r, hr, -⟩ := hP
          have : (99 : Nat) < 11 := (List.getElem?_eq_some_iff.mp hr).1
          omega
        · cases hci
      · obtain ⟨-, h2⟩ := xk_some.mp hci; cases h2
      · cases hci
    · simp only [Bool.and_eq_true, beq_iff_eq] at hk
      have h98 := hk.1.1
      rw [h98] at hci
      unfold xrc at hci
      split at hci
      · split at hci
        · next cj fs hw0 =>
          cases hci
          have hP := hI.1 _ _ (xw_obj (ho.2.2 _ (List.mem_of_getElem? hst)) hw0)
          obtain ⟨r, hr, -⟩ := hP
          have : (98 : Nat) < 11 := (List.getElem?_eq_some_iff.mp hr).1
          omega
        · cases hci
      · obtain ⟨-, h2⟩ := xk_some.mp hci; cases h2
      · cases hci
    · cases hk
end
