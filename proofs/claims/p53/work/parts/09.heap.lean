/-! INSTRUCTIONS THAT READ AND WRITE THE HEAP (written by wip/whole/genheap.py) -/
section
variable {X : xX} {D : va_G} {D2 : Nat → ClassId} {A : Nat → Prop} {ae : Nat → Nat} {p : Program} {l : Launch} {e : Env} {R : Room} {s : State} {m : MethodId} {args : Array Value} {below : List Frame} {meth : Method} {c : Code} {Q : State → Prop} {M d n k0 n0 : Nat} {ad0 : Nat → Nat} {pc len : Nat} {L : xL} {st : List Value} {w : xH} {r : xR}
theorem xfind {α : Type} {l : List α} {p ck : α → Bool} (hall : l.all ck = true) {r : α} (h : l.find? p = some r) : ck r = true ∧ p r = true :=
  ⟨List.all_eq_true.mp hall r (List.mem_of_find?_eq_some h), List.find?_some h⟩
theorem xFd_inv {o i ci k : Nat} (h : xFd o i = some (ci, k)) : ∃ q, vwCl[ci]? = some q ∧ k < q.2.2 ∧ Cond.fieldLink (xClN o) i (q.2.1 k).1 (q.2.1 k).2.1 (q.2.1 k).2.2.1 ∈ xG := by
  unfold xFd at h
  obtain ⟨r, h1, h2⟩ := Option.map_eq_some_iff.mp h
  obtain ⟨h3, h4⟩ := xfind xFt_ok h1
  obtain ⟨rfl, rfl⟩ := Prod.mk.inj h2
  simp only [Bool.and_eq_true, beq_iff_eq] at h4
  unfold xck1 at h3
  rw [h4.1, h4.2] at h3
  split at h3
  · next q hq =>
    simp only [Bool.and_eq_true, decide_eq_true_eq] at h3
    exact ⟨q, hq, h3.1, xG_pos h3.2 rfl⟩
  · cases h3
theorem xKi_inv {o i : Nat} {v : Int32} (h : xKi o i = some v) : Cond.constant (xClN o) i v ∈ xG := by
  unfold xKi at h
  obtain ⟨r, h1, rfl⟩ := Option.map_eq_some_iff.mp h
  obtain ⟨h3, h4⟩ := xfind xKt_ok h1
  simp only [Bool.and_eq_true, beq_iff_eq] at h4
  unfold xck2 at h3
  rw [h4.1, h4.2] at h3
  exact xG_pos (of_decide_eq_true h3) rfl
theorem xKl_inv {o i : Nat} {v : Int64} (h : xKl o i = some v) : Cond.constantLong (xClN o) i v ∈ xG := by
  unfold xKl at h
  obtain ⟨r, h1, rfl⟩ := Option.map_eq_some_iff.mp h
  obtain ⟨h3, h4⟩ := xfind xJt_ok h1
  simp only [Bool.and_eq_true, beq_iff_eq] at h4
  unfold xck3 at h3
  rw [h4.1, h4.2] at h3
  exact xG_pos (of_decide_eq_true h3) rfl
theorem xSg_inv {o i j : Nat} (h : xSg o i = some j) : j < 4 ∧ Cond.fieldLink (xClN o) i (xsn j).1 (xsn j).2.1 (xsn j).2.2 ∈ xG := by
  unfold xSg at h
  obtain ⟨r, h1, rfl⟩ := Option.map_eq_some_iff.mp h
  obtain ⟨h3, h4⟩ := xfind xSt_ok h1
  simp only [Bool.and_eq_true, beq_iff_eq] at h4
  unfold xck4 at h3
  rw [h4.1, h4.2] at h3
  simp only [Bool.and_eq_true, decide_eq_true_eq] at h3
  exact ⟨h3.1, xG_pos h3.2 rfl⟩
theorem xNw_inv {o i ci : Nat} (h : xNw o i = some ci) : ∃ q, vwCl[ci]? = some q ∧ Cond.classLink (xClN o) i q.1 ∈ xG ∧ Cond.instantiable q.1 q.2.2 ∈ xG ∧ Cond.initialized q.1 ∈ xG ∧ (xDf.getD ci []).length = q.2.2 := by
  unfold xNw at h
  obtain ⟨r, h1, rfl⟩ := Option.map_eq_some_iff.mp h
  obtain ⟨h3, h4⟩ := xfind xNt_ok h1
  simp only [Bool.and_eq_true, beq_iff_eq] at h4
  unfold xck5 at h3
  rw [h4.1, h4.2] at h3
  split at h3
  · next q hq =>
    simp only [Bool.and_eq_true, decide_eq_true_eq] at h3
    exact ⟨q, hq, xG_pos h3.1.1.1 rfl, xG_pos h3.1.1.2 rfl, xG_pos h3.1.2 rfl, h3.2⟩
  · cases h3
theorem xQo_inv {o i : Nat} (h : xQo o i = true) : Cond.classLink (xClN o) i "CalculatedSheet$State" ∈ xG := by
  unfold xQo at h
  obtain ⟨r, hm, h4⟩ := List.any_eq_true.mp h
  have h3 := List.all_eq_true.mp xQt_ok r hm
  simp only [Bool.and_eq_true, beq_iff_eq] at h4
  unfold xck7 at h3
  rw [h4.1, h4.2] at h3
  exact xG_pos (of_decide_eq_true h3) rfl
theorem xAc_inv {o i : Nat} (h : xAc o i = true) : Cond.methodLink (xClN o) i arraycopyName ∈ xG ∧ Cond.native arraycopyName ∈ xG ∧ Cond.static arraycopyName ∈ xG ∧ Cond.initialized "java/lang/System" ∈ xG := by
  unfold xAc at h
  obtain ⟨r, hm, h4⟩ := List.any_eq_true.mp h
  have h3 := List.all_eq_true.mp xAt_ok r hm
  simp only [Bool.and_eq_true, beq_iff_eq] at h4
  unfold xck8 at h3
  rw [h4.1, h4.2] at h3
  simp only [Bool.and_eq_true, decide_eq_true_eq] at h3
  exact ⟨xG_pos h3.1.1.1 rfl, xG_pos h3.1.1.2 rfl, xG_pos h3.1.2 rfl, xG_pos h3.2 rfl⟩
theorem xOi_inv {o i : Nat} (h : xOi o i = true) : Cond.methodLink (xClN o) i Lib.objectInit ∈ xG ∧ Cond.instanceMethod Lib.objectInit ∈ xG ∧ Cond.code Lib.objectInit ⟨#[0xb1]⟩ 1 none ∈ xG := by
  unfold xOi at h
  obtain ⟨r, hm, h4⟩ := List.any_eq_true.mp h
  have h3 := List.all_eq_true.mp xOt_ok r hm
  simp only [Bool.and_eq_true, beq_iff_eq] at h4
  unfold xck9 at h3
  rw [h4.1, h4.2] at h3
  simp only [Bool.and_eq_true, decide_eq_true_eq] at h3
  exact ⟨xG_pos h3.1.1 rfl, xG_pos h3.1.2 rfl, xG_pos h3.2 rfl⟩
theorem xAw_inv {k : Nat} (h : k < 5) : Cond.arrayClass (xty k) ∈ xG := by
  have h3 := List.all_eq_true.mp xAw_ok k (List.mem_range.mpr h)
  unfold xck6 at h3
  split at h3
  · exact xG_pos (of_decide_eq_true h3) rfl
  · cases h3
theorem u_lay_good (C : String) (T : u_T) (k : Nat) : goodWord (u_lay C T k) = true := by
  unfold u_lay; split <;> rfl
theorem xCl_ok {ci : Nat} {q : vw_C} (hq : vwCl[ci]? = some q) : (∀ w ∈ u_ws q.1 q.2.1 q.2.2, w ∈ xG) ∧ (xFz.getD ci []).length = q.2.2 ∧
    (∀ k, k < q.2.2 → ∃ z v, (xFz.getD ci [])[k]? = some z ∧ (xDf.getD ci [])[k]? = some v ∧ parseFieldDescriptor (q.2.1 k).2.2.1 = some z.1 ∧ (q.2.1 k).2.2.2 = z.2.1 ∧ (z.2.1 = true → (q.2.1 k).1 = xClN z.2.2) ∧ defaultValue z.1 = v) ∧
    ∀ a, a < q.2.2 → ∀ b, b < q.2.2 → a ≠ b → (q.2.1 a).2.1 ≠ (q.2.1 b).2.1 := by
  have hci : ci < 11 := (List.getElem?_eq_some_iff.mp hq).1
  have h := List.all_eq_true.mp xFz_ok ci (List.mem_range.mpr hci)
  unfold xck10 at h
  rw [hq] at h
  simp only [Bool.and_eq_true, decide_eq_true_eq] at h
  obtain ⟨⟨⟨h1, h2⟩, h3⟩, h4⟩ := h
  refine ⟨fun u hu => ?_, h2, fun k hk => ?_, fun a ha b hb hab => ?_⟩
  · have hm : some u ∈ (u_ws q.1 q.2.1 q.2.2).map some := List.mem_map_of_mem hu
    rw [h1] at hm
    obtain ⟨pz, -, hp⟩ := List.mem_map.mp hm
    refine xG_pos hp ?_
    obtain ⟨j, -, rfl⟩ := List.mem_map.mp hu
    exact u_lay_good _ _ _
  · have h5 := List.all_eq_true.mp h3 k (List.mem_range.mpr hk)
    split at h5
    · next z v hz hv =>
      simp only [Bool.and_eq_true, decide_eq_true_eq, Bool.or_eq_true, Bool.not_eq_true'] at h5
      obtain ⟨⟨⟨h6, h7⟩, h8⟩, h9⟩ := h5
      exact ⟨z, v, hz, hv, h6, h7, fun hz1 => h8.resolve_left (by rw [hz1]; simp), h9⟩
    · cases h5
  · have h5 := List.all_eq_true.mp (List.all_eq_true.mp h4 a (List.mem_range.mpr ha)) b (List.mem_range.mpr hb)
    rw [Bool.or_eq_true] at h5
    rcases h5 with h5 | h5
    · exact absurd (of_decide_eq_true h5) hab
    · exact of_decide_eq_true h5
theorem xw_obj {ad : Nat → Nat} {a ci : Nat} {fs : List Value} (ha : a < w.1) (h : xat w a = .inr (ci, fs)) : (xw D2 ad ae w)[a]? = some (ad a, .inr (ci, fs.map (xv ad ae))) := by
  rw [xw_get ha, show w.2.1 a = _ from h]; rfl
theorem xw_arr {ad : Nat → Nat} {a k n : Nat} {f : (Nat → Int32) ⊕ (Nat → Int64) ⊕ (Nat → UInt32) ⊕ (Nat → UInt64) ⊕ (Nat → Option Nat)} (ha : a < w.1) (h : xat w a = .inl (k, n, f)) : (xw D2 ad ae w)[a]? = some (ad a, .inl (D2 k, n, xec ad f)) := by
  rw [xw_get ha, show w.2.1 a = _ from h]; rfl
theorem xtys_get {k : Nat} (h : k < 5) : (xtys D2)[k]? = some (D2 k, xty k) := by
  match k, h with
  | 0, _ => rfl
  | 1, _ => rfl
  | 2, _ => rfl
  | 3, _ => rfl
  | 4, _ => rfl
theorem xtys_some {k : Nat} (h : k < 6) : ∃ ty, (xtys D2)[k]? = some (D2 k, ty) := by
  match k, h with
  | 0, _ => exact ⟨_, rfl⟩
  | 1, _ => exact ⟨_, rfl⟩
  | 2, _ => exact ⟨_, rfl⟩
  | 3, _ => exact ⟨_, rfl⟩
  | 4, _ => exact ⟨_, rfl⟩
  | 5, _ => exact ⟨_, rfl⟩
/-- after a step -/
def xGo (L : xL) (st : List Value) (w : xH) (r : xR) : Prop := r.2.1.length = L.length ∧ (xok w L st → xok r.2.2.2 r.2.1 r.2.2.1) ∧ w.1 ≤ r.2.2.2.1 ∧ w.2.2.1 ≤ r.2.2.2.2.2.1 ∧ w.2.2.2 ≤ r.2.2.2.2.2.2
theorem xSame.go (h : xSame L st w r) : xGo L st w r := by
  obtain ⟨h1, h2, h3⟩ := h
  refine ⟨h1, by rw [h2]; exact h3, by rw [h2]; exact Nat.le_refl _, by rw [h2]; exact Nat.le_refl _, by rw [h2]; exact Nat.le_refl _⟩
theorem xmkW {pc' : Nat} {st' : List Value} {w' : xH} (h1 : w'.1 = w.1) (h2 : w'.2.2 = w.2.2) (hok : xok w L st → xok w' L st')
    (hW : ∀ (ad : Nat → Nat) (H : Heap) (locs : List Loc) (ls : Array Slot), xI D D2 A ad ae w H → va_S A s.heap H locs → xlr ls (xv ad ae) L → xok w L st →
      (∀ (H1 : Heap) (locs1 : List Loc), xI D D2 A ad ae w' H1 → va_S A s.heap H1 locs1 → W p l e R s m args below meth c H1 locs1 (w.2.2.1 - k0) (w.2.2.2 - n0) Q (F0 m pc' ls (st'.map (xv ad ae)))) →
      W p l e R s m args below meth c H locs (w.2.2.1 - k0) (w.2.2.2 - n0) Q (F0 m pc ls (st.map (xv ad ae))))
    (kk : xWW D D2 A ae p l e R s m args below meth c Q n ad0 k0 n0 pc' L st' w') :
    xGo L st w (pc', L, st', w') ∧ xWW D D2 A ae p l e R s m args below meth c Q n ad0 k0 n0 pc L st w := by
  refine ⟨⟨rfl, hok, Nat.le_of_eq h1.symm, Nat.le_of_eq (by rw [h2]), Nat.le_of_eq (by rw [h2])⟩, fun ad H locs ls ha hI hS hl hL ho hn hc1 hc2 => hW ad H locs ls hI hS hl ho (fun H1 locs1 hI1 hS1 => ?_)⟩
  have := kk ad H1 locs1 ls ha hI1 hS1 hl hL (hok ho) (by rw [h1]; exact hn) (by rw [h2]; exact hc1) (by rw [h2]; exact hc2)
  rwa [h2] at this

theorem xob_T (C : xC X D D2 A ae p R s m args meth c M d) {k : Nat} (h : xob k = true) : va_T .byte (ae k) (xbl k) (fun j => .int (xby k j)) A s s.heap := by
  unfold xob at h
  simp only [Bool.or_eq_true, Bool.and_eq_true, beq_iff_eq, decide_eq_true_eq] at h
  rcases h with (h | h) | ⟨⟨h1, h2⟩, h3⟩
  · subst h; exact C.2.2.2.1.2.2.2.1.1 1 (Or.inl rfl)
  · subst h; exact C.2.2.2.1.2.2.2.1.1 2 (Or.inr rfl)
  · have h4 := ((C.2.2.2.1.2.2.1.1 ((k - 11) / 2) h3).1 0 (Nat.lt_succ_self 0)).2.2.2
    have h5 : 11 + 2 * ((k - 11) / 2) = k := by omega
    have h6 : ¬ (k = 1 ∨ k = 2) := by omega
    dsimp only at h4
    rw [h5] at h4
    have h7 : xbl k = xTl.getD ((k - 11) / 2) 0 := by unfold xbl; rw [if_neg h6]
    have h8 : (fun j => Value.int (xby k j)) = fun j => .int ((xTb.getD ((k - 11) / 2) []).getD j 0) := by
      funext j; unfold xby; rw [if_neg (fun h => h6 (Or.inl h)), if_neg (fun h => h6 (Or.inr h))]
    rw [h7, h8]
    exact h4

theorem xos_S (C : xC X D D2 A ae p R s m args meth c M d) {k : Nat} (h : xos k = true) : va_OF "java/lang/String" "coder" "B" (.int 0) (ae k) A s s.heap ∧ va_OF "java/lang/String" "value" "[B" (.ref (ae (k + 1))) (ae k) A s s.heap := by
  unfold xos at h
  simp only [Bool.and_eq_true, beq_iff_eq, decide_eq_true_eq] at h
  obtain ⟨⟨h1, h2⟩, h3⟩ := h
  have h4 := (C.2.2.2.1.2.2.1.1 ((k - 10) / 2) h3).1 0 (Nat.lt_succ_self 0)
  have h5 : 10 + 2 * ((k - 10) / 2) = k := by omega
  have h6 : 11 + 2 * ((k - 10) / 2) = k + 1 := by omega
  dsimp only at h4
  rw [h5, h6] at h4
  exact ⟨h4.2.1, h4.2.2.1⟩
theorem xv_nar {ty : FieldType} {ad : Nat → Nat} {v : Value} (h : narrow ty v = v) : narrow ty (xv ad ae v) = xv ad ae v := by
  cases v <;> first | exact h | (cases ty <;> rfl)
theorem xv_fits {ty : FieldType} {ad : Nat → Nat} {v : Value} (h : fits ty v = true) : fits ty (xv ad ae v) = true := by
  cases v <;> first | exact h | (cases ty <;> first | rfl | exact h | cases h)

theorem xs_ldc {k : Nat} (C : xC X D D2 A ae p R s m args meth c M d) (hdg : decode (xMc M) pc = .ok ((.ldc k), len)) (h : xone X M (xMo M) pc L st w (.ldc k) len = some r) (kk : xWW D D2 A ae p l e R s m args below meth c Q n ad0 k0 n0 r.1 r.2.1 r.2.2.1 r.2.2.2) :
    xGo L st w r ∧ xWW D D2 A ae p l e R s m args below meth c Q n ad0 k0 n0 pc L st w := by
  obtain ⟨rfl, st', h1, rfl⟩ := xnx h
  split at h1
  · next v hv =>
    cases h1
    refine And.imp_left xSame.go (xmk rfl (fun h => h.push trivial) (fun ad H locs ls ha hI hS hl hL ho ho1 hn hc1 hc2 => ?_))
    exact lv_ldc C.1.1 C.1.2.1 C.1.2.2.2 (C.2.2.1 _ (xKi_inv hv)) hdg (kk ad H locs ls ha hI hS hl hL ho1 hn hc1 hc2)
  · split at h1
    · next j hj =>
      cases h1
      refine And.imp_left xSame.go (xmk rfl (fun h => h.push trivial) (fun ad H locs ls ha hI hS hl hL ho ho1 hn hc1 hc2 => ?_))
      unfold xLs at hj
      split at hj
      · next ho9 =>
        obtain ⟨q, hq, hqk⟩ : ∃ q, xTx[j]? = some q ∧ q.1 = k := by
          obtain ⟨h2, h3, -⟩ := List.findIdx?_eq_some_iff_getElem.mp hj
          exact ⟨xTx[j], List.getElem?_eq_getElem h2, by simpa using h3⟩
        subst hqk
        refine va_ldcS C.1.1 C.1.2.1 (own := "CalculatedSheet$Token") ?_ ((C.2.2.2.1.2.2.1.2) j q hq) hdg (kk ad H locs ls ha hI hS hl hL ho1 hn hc1 hc2)
        have := C.1.2.2.2
        rw [ho9] at this
        exact this
      · cases hj
    · cases h1

theorem xs_ldc_w {k : Nat} (C : xC X D D2 A ae p R s m args meth c M d) (hdg : decode (xMc M) pc = .ok ((.ldc_w k), len)) (h : xone X M (xMo M) pc L st w (.ldc_w k) len = some r) (kk : xWW D D2 A ae p l e R s m args below meth c Q n ad0 k0 n0 r.1 r.2.1 r.2.2.1 r.2.2.2) :
    xGo L st w r ∧ xWW D D2 A ae p l e R s m args below meth c Q n ad0 k0 n0 pc L st w := by
  obtain ⟨rfl, st', h1, rfl⟩ := xnx h
  obtain ⟨v, hv, rfl⟩ := Option.map_eq_some_iff.mp h1
  refine And.imp_left xSame.go (xmk rfl (fun h => h.push trivial) (fun ad H locs ls ha hI hS hl hL ho ho1 hn hc1 hc2 => ?_))
  exact lv_ldcw C.1.1 C.1.2.1 C.1.2.2.2 (C.2.2.1 _ (xKi_inv hv)) hdg (kk ad H locs ls ha hI hS hl hL ho1 hn hc1 hc2)

theorem xs_ldc2_w {k : Nat} (C : xC X D D2 A ae p R s m args meth c M d) (hdg : decode (xMc M) pc = .ok ((.ldc2_w k), len)) (h : xone X M (xMo M) pc L st w (.ldc2_w k) len = some r) (kk : xWW D D2 A ae p l e R s m args below meth c Q n ad0 k0 n0 r.1 r.2.1 r.2.2.1 r.2.2.2) :
    xGo L st w r ∧ xWW D D2 A ae p l e R s m args below meth c Q n ad0 k0 n0 pc L st w := by
  obtain ⟨rfl, st', h1, rfl⟩ := xnx h
  obtain ⟨v, hv, rfl⟩ := Option.map_eq_some_iff.mp h1
  refine And.imp_left xSame.go (xmk rfl (fun h => h.push trivial) (fun ad H locs ls ha hI hS hl hL ho ho1 hn hc1 hc2 => ?_))
  exact lv_ldc2 C.1.1 C.1.2.1 C.1.2.2.2 (C.2.2.1 _ (xKl_inv hv)) hdg (kk ad H locs ls ha hI hS hl hL ho1 hn hc1 hc2)

theorem xs_arraylength (C : xC X D D2 A ae p R s m args meth c M d) (hdg : decode (xMc M) pc = .ok (.arraylength, len)) (h : xone X M (xMo M) pc L st w .arraylength len = some r) (kk : xWW D D2 A ae p l e R s m args below meth c Q n ad0 k0 n0 r.1 r.2.1 r.2.2.1 r.2.2.2) :
    xGo L st w r ∧ xWW D D2 A ae p l e R s m args below meth c Q n ad0 k0 n0 pc L st w := by
  obtain ⟨rfl, st', h1, rfl⟩ := xnx h
  unfold xln at h1
  split at h1
  · next a r =>
    split at h1
    · next k nn cnt hw =>
      obtain ⟨h2, h1⟩ := xk_some.mp h1
      cases h1
      obtain ⟨ty, hty⟩ := xtys_some (D2 := D2) (of_decide_eq_true h2)
      refine And.imp_left xSame.go (xmk rfl (fun h => h.tl.push trivial) (fun ad H locs ls ha hI hS hl hL ho ho1 hn hc1 hc2 => ?_))
      exact va_alen C.1.1 C.1.2.1 C.2.2.2.1.1.1 hI.1 a k (xw_arr ho.hd hw) hty rfl hdg (kk ad H locs ls ha hI hS hl hL ho1 hn hc1 hc2)
    · cases h1
  · next r =>
    cases h1
    refine And.imp_left xSame.go (xmk rfl (fun h => h.tl.push trivial) (fun ad H locs ls ha hI hS hl hL ho ho1 hn hc1 hc2 => ?_))
    exact va_slen C.1.1 C.1.2.1 C.2.2.2.1.2.1.1 C.2.2.2.1.2.1.2.1 C.2.2.2.1.2.1.2.2 hS hdg (kk ad H locs ls ha hI hS hl hL ho1 hn hc1 hc2)
  · next k r hk0 =>
    obtain ⟨h2, h1⟩ := xk_some.mp h1
    cases h1
    refine And.imp_left xSame.go (xmk rfl (fun h => h.tl.push trivial) (fun ad H locs ls ha hI hS hl hL ho ho1 hn hc1 hc2 => ?_))
    exact va_tlen C.1.1 C.1.2.1 (xob_T C h2) hS rfl hdg (kk ad H locs ls ha hI hS hl hL ho1 hn hc1 hc2)
  · cases h1

theorem xai_inv {ok : Nat → Bool} {st' : List Value} (h : xai w ok st = some st') : ∃ i a r k nn f, st = .int i :: .ref a :: r ∧ xat w a = .inl (k, nn, .inl f) ∧ ok k = true ∧ xin i nn = true ∧ st' = .int (f i.toNatClampNeg) :: r := by
  unfold xai at h
  split at h
  · next i a r =>
    split at h
    · next k nn f hw =>
      obtain ⟨h1, h2⟩ := xk_some.mp h
      cases h2
      rw [Bool.and_eq_true] at h1
      exact ⟨i, a, r, k, nn, f, rfl, hw, h1.1, h1.2, rfl⟩
    · cases h
  · cases h
theorem xsi_inv {ok : Nat → Bool} {q : List Value × xH} (h : xsi w ok st = some q) : ∃ x i a r k nn f, st = .int x :: .int i :: .ref a :: r ∧ xat w a = .inl (k, nn, .inl f) ∧ ok k = true ∧ xin i nn = true ∧ q = (r, xpt w a (.inl (k, nn, .inl (upd f i.toNatClampNeg (xnr k x))))) := by
  unfold xsi at h
  split at h
  · next x i a r =>
    split at h
    · next k nn f hw =>
      obtain ⟨h1, h2⟩ := xk_some.mp h
      cases h2
      rw [Bool.and_eq_true] at h1
      exact ⟨x, i, a, r, k, nn, f, rfl, hw, h1.1, h1.2, rfl⟩
    · cases h
  · cases h
theorem xI_pt {ad : Nat → Nat} {a : Nat} {H1 : Heap} {e : xE} {e' : va_E} (ha : a < w.1) (he : xev D2 ad ae e = e') (h1 : va_P D vwCl ((xw D2 ad ae w).set a (ad a, e')) H1) (h2 : va_D A ((xw D2 ad ae w).set a (ad a, e'))) : xI D D2 A ad ae (xpt w a e) H1 := by
  subst he
  rw [xw_set e ha] at h1 h2
  exact ⟨h1, h2⟩

theorem xs_iaload (C : xC X D D2 A ae p R s m args meth c M d) (hdg : decode (xMc M) pc = .ok (.iaload, len)) (h : xone X M (xMo M) pc L st w .iaload len = some r) (kk : xWW D D2 A ae p l e R s m args below meth c Q n ad0 k0 n0 r.1 r.2.1 r.2.2.1 r.2.2.2) :
    xGo L st w r ∧ xWW D D2 A ae p l e R s m args below meth c Q n ad0 k0 n0 pc L st w := by
  obtain ⟨rfl, st', h1, rfl⟩ := xnx h
  split at h1
  · obtain ⟨i, a, r, k, nn, f, h2, hw, hk, hin, rfl⟩ := xai_inv h1
    rw [h2] at h ⊢
    obtain rfl : k = 0 := by simpa using hk
    refine And.imp_left xSame.go (xmk rfl (fun h => h.tl.tl.push trivial) (fun ad H locs ls ha hI hS hl hL ho ho1 hn hc1 hc2 => ?_))
    exact va_iald C.1.1 C.1.2.1 C.2.2.2.1.1.1 hI.1 a 0 (xw_arr ho.tl.hd hw) rfl (xin_in hin) hdg (kk ad H locs ls ha hI hS hl hL ho1 hn hc1 hc2)
  · unfold xsld at h1
    split at h1
    · next i r _ =>
      obtain ⟨h2, h1⟩ := xk_some.mp h1
      cases h1
      refine And.imp_left xSame.go (xmk rfl (fun h => h.tl.tl.push trivial) (fun ad H locs ls ha hI hS hl hL ho ho1 hn hc1 hc2 => ?_))
      exact va_sld C.1.1 C.1.2.1 C.2.2.2.1.2.1.1 C.2.2.2.1.2.1.2.1 C.2.2.2.1.2.1.2.2 hS (xin_in h2) hdg (kk ad H locs ls ha hI hS hl hL ho1 hn hc1 hc2)
    · cases h1

theorem xs_caload (C : xC X D D2 A ae p R s m args meth c M d) (hdg : decode (xMc M) pc = .ok (.caload, len)) (h : xone X M (xMo M) pc L st w .caload len = some r) (kk : xWW D D2 A ae p l e R s m args below meth c Q n ad0 k0 n0 r.1 r.2.1 r.2.2.1 r.2.2.2) :
    xGo L st w r ∧ xWW D D2 A ae p l e R s m args below meth c Q n ad0 k0 n0 pc L st w := by
  obtain ⟨rfl, st', h1, rfl⟩ := xnx h
  obtain ⟨i, a, r, k, nn, f, rfl, hw, hk, hin, rfl⟩ := xai_inv h1
  obtain rfl : k = 2 := by simpa using hk
  refine And.imp_left xSame.go (xmk rfl (fun h => h.tl.tl.push trivial) (fun ad H locs ls ha hI hS hl hL ho ho1 hn hc1 hc2 => ?_))
  exact va_cald C.1.1 C.1.2.1 C.2.2.2.1.1.1 hI.1 a 2 (xw_arr ho.tl.hd hw) rfl (xin_in hin) hdg (kk ad H locs ls ha hI hS hl hL ho1 hn hc1 hc2)

theorem xs_baload (C : xC X D D2 A ae p R s m args meth c M d) (hdg : decode (xMc M) pc = .ok (.baload, len)) (h : xone X M (xMo M) pc L st w .baload len = some r) (kk : xWW D D2 A ae p l e R s m args below meth c Q n ad0 k0 n0 r.1 r.2.1 r.2.2.1 r.2.2.2) :
    xGo L st w r ∧ xWW D D2 A ae p l e R s m args below meth c Q n ad0 k0 n0 pc L st w := by
  obtain ⟨rfl, st', h1, rfl⟩ := xnx h
  split at h1
  · obtain ⟨i, a, r, k, nn, f, h2, hw, hk, hin, rfl⟩ := xai_inv h1
    rw [h2] at h ⊢
    rw [Bool.or_eq_true, beq_iff_eq, beq_iff_eq] at hk
    refine And.imp_left xSame.go (xmk rfl (fun h => h.tl.tl.push trivial) (fun ad H locs ls ha hI hS hl hL ho ho1 hn hc1 hc2 => ?_))
    rcases hk with rfl | rfl
    · exact va_bald C.1.1 C.1.2.1 C.2.2.2.1.1.1 hI.1 a 3 (xw_arr ho.tl.hd hw) rfl (xin_in hin) hdg (kk ad H locs ls ha hI hS hl hL ho1 hn hc1 hc2)
    · exact va_zald C.1.1 C.1.2.1 C.2.2.2.1.1.1 hI.1 a 4 (xw_arr ho.tl.hd hw) rfl (xin_in hin) hdg (kk ad H locs ls ha hI hS hl hL ho1 hn hc1 hc2)
  · unfold xbld at h1
    split at h1
    · next i k r _ =>
      obtain ⟨h2, h1⟩ := xk_some.mp h1
      cases h1
      rw [Bool.and_eq_true] at h2
      refine And.imp_left xSame.go (xmk rfl (fun h => h.tl.tl.push trivial) (fun ad H locs ls ha hI hS hl hL ho ho1 hn hc1 hc2 => ?_))
      exact va_tb C.1.1 C.1.2.1 (xob_T C h2.1) hS (xin_in h2.2) rfl hdg (kk ad H locs ls ha hI hS hl hL ho1 hn hc1 hc2)
    · cases h1

theorem xs_laload (C : xC X D D2 A ae p R s m args meth c M d) (hdg : decode (xMc M) pc = .ok (.laload, len)) (h : xone X M (xMo M) pc L st w .laload len = some r) (kk : xWW D D2 A ae p l e R s m args below meth c Q n ad0 k0 n0 r.1 r.2.1 r.2.2.1 r.2.2.2) :
    xGo L st w r ∧ xWW D D2 A ae p l e R s m args below meth c Q n ad0 k0 n0 pc L st w := by
  obtain ⟨rfl, st', h1, rfl⟩ := xnx h
  unfold xal1 at h1
  split at h1
  · next i a r =>
    split at h1
    · next k nn f hw =>
      obtain ⟨h2, h1⟩ := xk_some.mp h1
      cases h1
      rw [Bool.and_eq_true, beq_iff_eq] at h2
      obtain ⟨rfl, hin⟩ := h2
      refine And.imp_left xSame.go (xmk rfl (fun h => h.tl.tl.push trivial) (fun ad H locs ls ha hI hS hl hL ho ho1 hn hc1 hc2 => ?_))
      exact va_lald C.1.1 C.1.2.1 C.2.2.2.1.1.1 hI.1 a 1 (xw_arr ho.tl.hd hw) rfl (xin_in hin) hdg (kk ad H locs ls ha hI hS hl hL ho1 hn hc1 hc2)
    · cases h1
  · cases h1

theorem xs_aaload (C : xC X D D2 A ae p R s m args meth c M d) (hdg : decode (xMc M) pc = .ok (.aaload, len)) (h : xone X M (xMo M) pc L st w .aaload len = some r) (kk : xWW D D2 A ae p l e R s m args below meth c Q n ad0 k0 n0 r.1 r.2.1 r.2.2.1 r.2.2.2) :
    xGo L st w r ∧ xWW D D2 A ae p l e R s m args below meth c Q n ad0 k0 n0 pc L st w := by
  obtain ⟨rfl, st', h1, rfl⟩ := xnx h
  unfold xaa at h1
  split at h1
  · next i a r =>
    split at h1
    · next k nn f hw =>
      obtain ⟨h2, h1⟩ := xk_some.mp h1
      cases h1
      rw [Bool.and_eq_true, beq_iff_eq] at h2
      obtain ⟨rfl, hin⟩ := h2
      refine And.imp_left xSame.go (xmk rfl (fun h => h.tl.tl.push ?_) (fun ad H locs ls ha hI hS hl hL ho ho1 hn hc1 hc2 => ?_))
      · have := h.1 a h.tl.hd
        rw [show w.2.1 a = _ from hw] at this
        cases hf : f i.toNatClampNeg with
        | none => trivial
        | some b => exact this _ b hf
      · refine va_aldq C.1.1 C.1.2.1 C.2.2.2.1.1.1 hI.1 a 5 (xw_arr ho.tl.hd hw) rfl (xin_in hin) hdg ?_
        have := (kk ad H locs ls ha hI hS hl hL ho1 hn hc1 hc2)
        rw [List.map_cons] at this
        cases hf : f i.toNatClampNeg <;> rw [hf] at this <;> exact this
    · cases h1
  · cases h1

theorem xs_iastore (C : xC X D D2 A ae p R s m args meth c M d) (hdg : decode (xMc M) pc = .ok (.iastore, len)) (h : xone X M (xMo M) pc L st w .iastore len = some r) (kk : xWW D D2 A ae p l e R s m args below meth c Q n ad0 k0 n0 r.1 r.2.1 r.2.2.1 r.2.2.2) :
    xGo L st w r ∧ xWW D D2 A ae p l e R s m args below meth c Q n ad0 k0 n0 pc L st w := by
  obtain ⟨rfl, q, h1, rfl⟩ := xnx h
  obtain ⟨x, i, a, r, k, nn, f, rfl, hw, hk, hin, rfl⟩ := xsi_inv h1
  obtain rfl : k = 0 := by simpa using hk
  refine xmkW rfl rfl (fun h => ⟨xwk_pt h.1 trivial, h.2.1, h.tl.tl.tl.2.2⟩) (fun ad H locs ls hI hS hl ho k1 => ?_) kk
  exact va_iast C.1.1 C.1.2.1 C.2.2.2.1.1.1 hI.1 hI.2 hS a 0 (xw_arr ho.tl.tl.hd hw) rfl (xin_in hin) hdg (fun H1 locs1 a1 a2 a3 => k1 H1 locs1 (xI_pt ho.tl.tl.hd rfl a1 a2) a3)

theorem xs_castore (C : xC X D D2 A ae p R s m args meth c M d) (hdg : decode (xMc M) pc = .ok (.castore, len)) (h : xone X M (xMo M) pc L st w .castore len = some r) (kk : xWW D D2 A ae p l e R s m args below meth c Q n ad0 k0 n0 r.1 r.2.1 r.2.2.1 r.2.2.2) :
    xGo L st w r ∧ xWW D D2 A ae p l e R s m args below meth c Q n ad0 k0 n0 pc L st w := by
  obtain ⟨rfl, q, h1, rfl⟩ := xnx h
  obtain ⟨x, i, a, r, k, nn, f, rfl, hw, hk, hin, rfl⟩ := xsi_inv h1
  obtain rfl : k = 2 := by simpa using hk
  refine xmkW rfl rfl (fun h => ⟨xwk_pt h.1 trivial, h.2.1, h.tl.tl.tl.2.2⟩) (fun ad H locs ls hI hS hl ho k1 => ?_) kk
  exact va_cast C.1.1 C.1.2.1 C.2.2.2.1.1.1 hI.1 hI.2 hS a 2 (xw_arr ho.tl.tl.hd hw) rfl (xin_in hin) hdg (fun H1 locs1 a1 a2 a3 => k1 H1 locs1 (xI_pt ho.tl.tl.hd rfl a1 a2) a3)

theorem xs_bastore (C : xC X D D2 A ae p R s m args meth c M d) (hdg : decode (xMc M) pc = .ok (.bastore, len)) (h : xone X M (xMo M) pc L st w .bastore len = some r) (kk : xWW D D2 A ae p l e R s m args below meth c Q n ad0 k0 n0 r.1 r.2.1 r.2.2.1 r.2.2.2) :
    xGo L st w r ∧ xWW D D2 A ae p l e R s m args below meth c Q n ad0 k0 n0 pc L st w := by
  obtain ⟨rfl, q, h1, rfl⟩ := xnx h
  obtain ⟨x, i, a, r, k, nn, f, rfl, hw, hk, hin, rfl⟩ := xsi_inv h1
  rw [Bool.or_eq_true, beq_iff_eq, beq_iff_eq] at hk
  refine xmkW rfl rfl (fun h => ⟨xwk_pt h.1 trivial, h.2.1, h.tl.tl.tl.2.2⟩) (fun ad H locs ls hI hS hl ho k1 => ?_) kk
  rcases hk with rfl | rfl
  · exact va_bast C.1.1 C.1.2.1 C.2.2.2.1.1.1 hI.1 hI.2 hS a 3 (xw_arr ho.tl.tl.hd hw) rfl (xin_in hin) hdg (fun H1 locs1 a1 a2 a3 => k1 H1 locs1 (xI_pt ho.tl.tl.hd rfl a1 a2) a3)
  · exact va_zast C.1.1 C.1.2.1 C.2.2.2.1.1.1 hI.1 hI.2 hS a 4 (xw_arr ho.tl.tl.hd hw) rfl (xin_in hin) hdg (fun H1 locs1 a1 a2 a3 => k1 H1 locs1 (xI_pt ho.tl.tl.hd rfl a1 a2) a3)

theorem xs_lastore (C : xC X D D2 A ae p R s m args meth c M d) (hdg : decode (xMc M) pc = .ok (.lastore, len)) (h : xone X M (xMo M) pc L st w .lastore len = some r) (kk : xWW D D2 A ae p l e R s m args below meth c Q n ad0 k0 n0 r.1 r.2.1 r.2.2.1 r.2.2.2) :
    xGo L st w r ∧ xWW D D2 A ae p l e R s m args below meth c Q n ad0 k0 n0 pc L st w := by
  obtain ⟨rfl, q, h1, rfl⟩ := xnx h
  unfold xsl at h1
  split at h1
  · next x i a r =>
    split at h1
    · next k nn f hw =>
      obtain ⟨h2, h1⟩ := xk_some.mp h1
      cases h1
      rw [Bool.and_eq_true, beq_iff_eq] at h2
      obtain ⟨rfl, hin⟩ := h2
      refine xmkW rfl rfl (fun h => ⟨xwk_pt h.1 trivial, h.2.1, h.tl.tl.tl.2.2⟩) (fun ad H locs ls hI hS hl ho k1 => ?_) kk
      exact va_last C.1.1 C.1.2.1 C.2.2.2.1.1.1 hI.1 hI.2 hS a 1 (xw_arr ho.tl.tl.hd hw) rfl (xin_in hin) hdg (fun H1 locs1 a1 a2 a3 => k1 H1 locs1 (xI_pt ho.tl.tl.hd rfl a1 a2) a3)
    · cases h1
  · cases h1

theorem xs_aastore (C : xC X D D2 A ae p R s m args meth c M d) (hdg : decode (xMc M) pc = .ok (.aastore, len)) (h : xone X M (xMo M) pc L st w .aastore len = some r) (kk : xWW D D2 A ae p l e R s m args below meth c Q n ad0 k0 n0 r.1 r.2.1 r.2.2.1 r.2.2.2) :
    xGo L st w r ∧ xWW D D2 A ae p l e R s m args below meth c Q n ad0 k0 n0 pc L st w := by
  obtain ⟨rfl, q, h1, rfl⟩ := xnx h
  unfold xsa at h1
  split at h1
  · next v i a r =>
    split at h1
    · next k nn f ci fs hw hv =>
      obtain ⟨h2, h1⟩ := xk_some.mp h1
      cases h1
      rw [Bool.and_eq_true, Bool.and_eq_true, beq_iff_eq, beq_iff_eq] at h2
      obtain ⟨⟨rfl, rfl⟩, hin⟩ := h2
      refine xmkW rfl rfl (fun h => ⟨xwk_pt h.1 ?_, h.2.1, h.tl.tl.tl.2.2⟩) (fun ad H locs ls hI hS hl ho k1 => ?_) kk
      · have h3 := h.1 a h.tl.tl.hd
        rw [show w.2.1 a = _ from hw] at h3
        intro j b hj
        unfold va_up at hj
        split at hj
        · cases hj; exact h.hd
        · exact h3 j b hj
      · refine va_astq C.1.1 C.1.2.1 C.2.2.2.1.1.1 hI.1 hI.2 hS a 5 v 9 (r := (RX8, TX8, 7)) (xw_arr ho.tl.tl.hd hw) rfl (xw_obj ho.hd hv) rfl (xin_in hin) hdg (fun H1 locs1 a1 a2 a3 => k1 H1 locs1 (xI_pt ho.tl.tl.hd ?_ a1 a2) a3)
        have : (fun j => (va_up f i.toNatClampNeg (some v) j).map ad) = va_up (fun j => (f j).map ad) i.toNatClampNeg (some (ad v)) := by
          funext j; unfold va_up; split <;> rfl
        simp only [xev, xec, this]
    · cases h1
  · cases h1

theorem xs_getfield {k : Nat} (C : xC X D D2 A ae p R s m args meth c M d) (hdg : decode (xMc M) pc = .ok ((.getfield k), len)) (h : xone X M (xMo M) pc L st w (.getfield k) len = some r) (kk : xWW D D2 A ae p l e R s m args below meth c Q n ad0 k0 n0 r.1 r.2.1 r.2.2.1 r.2.2.2) :
    xGo L st w r ∧ xWW D D2 A ae p l e R s m args below meth c Q n ad0 k0 n0 pc L st w := by
  obtain ⟨rfl, st', h1, rfl⟩ := xnx h
  unfold xgf at h1
  split at h1
  · next a r =>
    split at h1
    · next ci fs cj j hw hf =>
      obtain ⟨h2, h1⟩ := xk_some.mp h1
      obtain ⟨v, hv, rfl⟩ := Option.map_eq_some_iff.mp h1
      obtain rfl : ci = cj := by simpa using h2
      obtain ⟨q, hq, hj, hlink⟩ := xFd_inv hf
      refine And.imp_left xSame.go (xmk rfl (fun h => h.tl.push ?_) (fun ad H locs ls ha hI hS hl hL ho ho1 hn hc1 hc2 => ?_))
      · have := h.1 a h.hd
        rw [show w.2.1 a = _ from hw] at this
        exact this v (List.mem_of_getElem? hv)
      · exact va_get C.1.1 C.1.2.1 C.2.2.1 (xCl_ok hq).1 C.1.2.2.2 C.2.2.2.1.1.1 hI.1 a (xw_obj ho.hd hw) hq j hj (C.2.2.1 _ hlink) (fun _ hx => hx) (v := xv ad ae v) (by rw [List.getElem?_map, hv]; rfl) hdg (kk ad H locs ls ha hI hS hl hL ho1 hn hc1 hc2)
    · cases h1
  · next j r =>
    split at h1
    · next hf =>
      obtain ⟨h2, h1⟩ := xk_some.mp h1
      cases h1
      obtain ⟨q, hq, hj, hlink⟩ := xFd_inv hf
      cases hq
      refine And.imp_left xSame.go (xmk rfl (fun h => h.tl.push trivial) (fun ad H locs ls ha hI hS hl hL ho ho1 hn hc1 hc2 => ?_))
      have h3 := xos_S C h2
      exact vk_getf C.1.1 C.1.2.1 h3.2 hS C.1.2.2.2 (C.2.2.1 _ hlink) (fun _ hx => hx) hdg (kk ad H locs ls ha hI hS hl hL ho1 hn hc1 hc2)
    · next hf =>
      obtain ⟨h2, h1⟩ := xk_some.mp h1
      cases h1
      obtain ⟨q, hq, hj, hlink⟩ := xFd_inv hf
      cases hq
      refine And.imp_left xSame.go (xmk rfl (fun h => h.tl.push trivial) (fun ad H locs ls ha hI hS hl hL ho ho1 hn hc1 hc2 => ?_))
      have h3 := xos_S C h2
      exact vk_getf C.1.1 C.1.2.1 h3.1 hS C.1.2.2.2 (C.2.2.1 _ hlink) (fun _ hx => hx) hdg (kk ad H locs ls ha hI hS hl hL ho1 hn hc1 hc2)
    · cases h1
  · cases h1

theorem xs_putfield {k : Nat} (C : xC X D D2 A ae p R s m args meth c M d) (hdg : decode (xMc M) pc = .ok ((.putfield k), len)) (h : xone X M (xMo M) pc L st w (.putfield k) len = some r) (kk : xWW D D2 A ae p l e R s m args below meth c Q n ad0 k0 n0 r.1 r.2.1 r.2.2.1 r.2.2.2) :
    xGo L st w r ∧ xWW D D2 A ae p l e R s m args below meth c Q n ad0 k0 n0 pc L st w := by
  obtain ⟨rfl, q, h1, rfl⟩ := xnx h
  unfold xpf at h1
  split at h1
  · next v a r =>
    split at h1
    · next ci fs cj j hw hf =>
      split at h1
      · next ty fin dc hz =>
        obtain ⟨h2, h1⟩ := xk_some.mp h1
        cases h1
        simp only [Bool.and_eq_true, beq_iff_eq, decide_eq_true_eq, Bool.or_eq_true, Bool.not_eq_true'] at h2
        obtain ⟨⟨⟨⟨rfl, hnar⟩, hfits⟩, hlt⟩, hfin⟩ := h2
        obtain ⟨q, hq, hj, hlink⟩ := xFd_inv hf
        obtain ⟨hin, -, hfl, hnm⟩ := xCl_ok hq
        obtain ⟨z, dv, hz', -, hpd, hf2, hdc, -⟩ := hfl j hj
        rw [hz] at hz'
        cases hz'
        have hty : ∀ k, k < q.2.2 → parseFieldDescriptor (q.2.1 k).2.2.1 = some ((((xFz.getD ci [])[k]?).map (fun z => z.1)).getD .int) := fun k hk => by
          obtain ⟨z, dv, hz', -, hpd, -⟩ := hfl k hk
          rw [hpd, hz']; rfl
        refine xmkW rfl rfl (fun h => ⟨xwk_pt h.1 ?_, h.2.1, h.tl.tl.2.2⟩) (fun ad H locs ls hI hS hl ho k1 => ?_) kk
        · have h3 := h.1 a h.tl.hd
          rw [show w.2.1 a = _ from hw] at h3
          intro u hu
          rcases List.mem_or_eq_of_mem_set hu with hu | rfl
          · exact h3 u hu
          · exact h.hd
        · have hset : xev D2 ad ae (.inr (ci, fs.set j v)) = .inr (ci, (fs.map (xv ad ae)).set j (xv ad ae v)) := by
            show Sum.inr (ci, (fs.set j v).map (xv ad ae)) = _
            rw [List.map_set]
          cases hfv : fin with
          | false =>
            exact va_put C.1.1 C.1.2.1 C.2.2.1 hin _ hty hnm C.1.2.2.2 C.2.2.2.1.1.1 hI.1 hI.2 hS a (xw_obj ho.tl.hd hw) hq j hj (C.2.2.1 _ hlink) (fun _ hx => hx) (hf2.trans hfv) hpd (xv_nar hnar) (xv_fits hfits) (by rw [List.length_map]; exact hlt) hdg (fun H1 locs1 a1 a2 a3 => k1 H1 locs1 (xI_pt ho.tl.hd hset a1 a2) a3)
          | true =>
            obtain ⟨hini, hown⟩ := hfin.resolve_left (by rw [hfv]; simp)
            exact va_putF C.1.1 C.1.2.1 C.2.2.1 hin _ hty hnm C.1.2.2.2 C.2.2.2.1.1.1 hI.1 hI.2 hS a (xw_obj ho.tl.hd hw) hq j hj (C.2.2.1 _ hlink) (fun _ hx => hx) (hf2.trans hfv) (C.2.1.2.1 hini) ((hdc hfv).trans (by rw [hown])) hpd (xv_nar hnar) (xv_fits hfits) (by rw [List.length_map]; exact hlt) hdg (fun H1 locs1 a1 a2 a3 => k1 H1 locs1 (xI_pt ho.tl.hd hset a1 a2) a3)
      · cases h1
    · cases h1
  · cases h1

theorem xs_getstatic {k : Nat} (C : xC X D D2 A ae p R s m args meth c M d) (hdg : decode (xMc M) pc = .ok ((.getstatic k), len)) (h : xone X M (xMo M) pc L st w (.getstatic k) len = some r) (kk : xWW D D2 A ae p l e R s m args below meth c Q n ad0 k0 n0 r.1 r.2.1 r.2.2.1 r.2.2.2) :
    xGo L st w r ∧ xWW D D2 A ae p l e R s m args below meth c Q n ad0 k0 n0 pc L st w := by
  obtain ⟨rfl, st', h1, rfl⟩ := xnx h
  have main : ∀ (j : Nat) (v : Value), xSg (xMo M) k = some j → v = xsv X j → st' = v :: st → xGo L st w (pc + 3, L, st', w) ∧ xWW D D2 A ae p l e R s m args below meth c Q n ad0 k0 n0 pc L st w := by
    intro j v hj hv hst
    subst hst
    obtain ⟨hj4, hlink⟩ := xSg_inv hj
    have hvk : ∀ ad : Nat → Nat, xv id ae v = xv ad ae v ∧ xvk w.1 v := by
      intro ad
      subst hv
      unfold xsv
      split <;> first | exact ⟨rfl, trivial⟩ | (split <;> exact ⟨rfl, trivial⟩)
    refine And.imp_left xSame.go (xmk rfl (fun h => h.push (hvk id).2) (fun ad H locs ls ha hI hS hl hL ho ho1 hn hc1 hc2 => ?_))
    have hZ := C.2.2.2.1.2.2.2.1.2 j hj4
    rw [← hv, (hvk ad).1] at hZ
    exact va_gets C.1.1 C.1.2.1 hZ hS C.1.2.2.2 (C.2.2.1 _ hlink) (fun _ hx => hx) hdg (kk ad H locs ls ha hI hS hl hL ho1 hn hc1 hc2)
  split at h1
  · next hj => cases h1; exact main 0 _ hj rfl rfl
  · next hj => cases h1; exact main 1 _ hj rfl rfl
  · next hj => cases h1; exact main 2 _ hj rfl rfl
  · next hj => cases h1; exact main 3 _ hj rfl rfl
  · cases h1

theorem xmkA {pc' : Nat} {st' : List Value} {e9 : xE} {b : Nat} (hok : xok w L st → xok (xal w e9 b) L (.ref w.1 :: st'))
    (hW : ∀ (ad : Nat → Nat) (H : Heap) (locs : List Loc) (ls : Array Slot), xI D D2 A ad ae w H → va_S A s.heap H locs → xlr ls (xv ad ae) L → xok w L st → k0 ≤ w.2.2.1 → n0 ≤ w.2.2.2 →
      (∀ (q : Nat) (H1 : Heap), va_P D vwCl (xw D2 ad ae w ++ [(q, xev D2 ad ae e9)]) H1 → va_D A (xw D2 ad ae w ++ [(q, xev D2 ad ae e9)]) → va_S A s.heap H1 locs → W p l e R s m args below meth c H1 locs (w.2.2.1 - k0 + 1) (w.2.2.2 - n0 + b) Q (F0 m pc' ls (.ref q :: st'.map (xv ad ae)))) →
      W p l e R s m args below meth c H locs (w.2.2.1 - k0) (w.2.2.2 - n0) Q (F0 m pc ls (st.map (xv ad ae))))
    (he : xek w.1 e9) (hst : xok w L st → ∀ v ∈ st', xvk w.1 v)
    (kk : xWW D D2 A ae p l e R s m args below meth c Q n ad0 k0 n0 pc' L (.ref w.1 :: st') (xal w e9 b)) :
    xGo L st w (pc', L, .ref w.1 :: st', xal w e9 b) ∧ xWW D D2 A ae p l e R s m args below meth c Q n ad0 k0 n0 pc L st w := by
  refine ⟨⟨rfl, hok, Nat.le_succ _, Nat.le_succ _, Nat.le_add_right _ _⟩, fun ad H locs ls ha hI hS hl hL ho hn hc1 hc2 => hW ad H locs ls hI hS hl ho hc1 hc2 (fun q H1 h1 h2 h3 => ?_)⟩
  have had : ∀ k, k < w.1 → (fun k => if k = w.1 then q else ad k) k = ad k := fun k hk => if_neg (Nat.ne_of_lt hk)
  have hadn : (fun k => if k = w.1 then q else ad k) w.1 = q := if_pos rfl
  have hx := xw_push (D2 := D2) (ae := ae) had ho.1 e9 b
  rw [if_pos rfl, xev_eq had he] at hx
  have hl1 : xlr ls (xv (fun k => if k = w.1 then q else ad k) ae) L := by
    refine ⟨hl.1, hl.2.1, fun z hz => ?_⟩
    obtain ⟨j, u, g1, g2, g3⟩ := xlv_mem.mp (show (z.1, z.2) ∈ _ from hz)
    refine hl.2.2 z (xlv_mem.mpr ⟨j, u, g1, g2, ?_⟩)
    rw [g3]
    exact xv_eq had (ho.2.1 u (List.mem_of_getElem? g1))
  have hst1 : st'.map (xv (fun k => if k = w.1 then q else ad k) ae) = st'.map (xv ad ae) := List.map_congr_left fun v hv => xv_eq had (hst ho v hv)
  have := kk (fun k => if k = w.1 then q else ad k) H1 locs ls (fun k hk => (had k (by omega)).trans (ha k hk)) ⟨by rw [hx]; exact h1, by rw [hx]; exact h2⟩ h3 hl1 hL (hok ho) (Nat.le_trans hn (Nat.le_succ _)) (Nat.le_trans hc1 (Nat.le_succ _)) (Nat.le_trans hc2 (Nat.le_add_right _ _))
  rw [List.map_cons, hst1, show xv (fun k => if k = w.1 then q else ad k) ae (.ref w.1) = .ref q from congrArg Value.ref hadn] at this
  rw [show w.2.2.1 - k0 + 1 = (xal w e9 b).2.2.1 - k0 from (Nat.succ_sub hc1).symm, show w.2.2.2 - n0 + b = (xal w e9 b).2.2.2 - n0 from by show _ = w.2.2.2 + b - n0; omega]
  exact this
theorem xvk_df (ci n : Nat) : ∀ v ∈ xDf.getD ci [], xvk n v := by
  have h : xDf.all (fun l => l.all (fun v => match v with | .ref _ => false | _ => true)) = true := by decide +kernel
  intro v hv
  rw [List.getD_eq_getElem?_getD] at hv
  cases hd : xDf[ci]? with
  | none => rw [hd] at hv; cases hv
  | some l9 =>
    rw [hd] at hv
    have h1 := List.all_eq_true.mp (List.all_eq_true.mp h l9 (List.mem_of_getElem? hd)) v hv
    cases v <;> first | trivial | cases h1
theorem xv_df {ad : Nat → Nat} (ci : Nat) : (xDf.getD ci []).map (xv ad ae) = xDf.getD ci [] := by
  have h : xDf.all (fun l => l.all (fun v => match v with | .ref _ => false | .retAddr _ => false | _ => true)) = true := by decide +kernel
  rw [List.getD_eq_getElem?_getD]
  cases hd : xDf[ci]? with
  | none => rfl
  | some l9 =>
    show l9.map _ = l9
    refine (List.map_congr_left fun v hv => ?_).trans (List.map_id l9)
    have h1 := List.all_eq_true.mp (List.all_eq_true.mp h l9 (List.mem_of_getElem? hd)) v hv
    cases v <;> first | rfl | cases h1

theorem xs_new {k : Nat} (C : xC X D D2 A ae p R s m args meth c M d) (hdg : decode (xMc M) pc = .ok ((.new k), len)) (h : xone X M (xMo M) pc L st w (.new k) len = some r) (hfc : r.2.2.2.2.2.1 - k0 ≤ R.cells) (hfs : r.2.2.2.2.2.2 - n0 ≤ R.slots) (kk : xWW D D2 A ae p l e R s m args below meth c Q n ad0 k0 n0 r.1 r.2.1 r.2.2.1 r.2.2.2) :
    xGo L st w r ∧ xWW D D2 A ae p l e R s m args below meth c Q n ad0 k0 n0 pc L st w := by
  obtain ⟨rfl, q, h1, rfl⟩ := xnx h
  split at h1
  · next ci ht hc =>
    cases h1
    obtain ⟨q, hq, g1, g2, g3, g4⟩ := xNw_inv hc
    obtain ⟨hin, -, hfl, -⟩ := xCl_ok hq
    have hty : ∀ k, k < q.2.2 → parseFieldDescriptor (q.2.1 k).2.2.1 = some ((((xFz.getD ci [])[k]?).map (fun z => z.1)).getD .int) := fun k hk => by
      obtain ⟨z, dv, hz', -, hpd, -⟩ := hfl k hk
      rw [hpd, hz']; rfl
    have hdf : ∀ j, j < q.2.2 → defaultValue ((((xFz.getD ci [])[j]?).map (fun z => z.1)).getD .int) = vp_V (xDf.getD ci []) j := fun j hj => by
      obtain ⟨z, dv, hz', hd, -, -, -, hv⟩ := hfl j hj
      rw [hz']
      refine hv.trans ?_
      unfold vp_V
      generalize xDf.getD ci [] = fs9 at hd ⊢
      simp [hd]
    rw [g4] at kk hfs hfc ⊢
    refine xmkA (fun h => ⟨xwk_al h.1 (xvk_df ci _), fun v hv => xvk_mono (Nat.le_succ _) (h.2.1 v hv), xvk_cons (Nat.lt_succ_self _) (fun v hv => xvk_mono (Nat.le_succ _) (h.2.2 v hv))⟩) (fun ad H locs ls hI hS hl ho hc1 hc2 k1 => ?_) (xvk_df ci _) (fun h => h.2.2) kk
    have hb : w.2.2.1 - k0 + 1 ≤ R.cells := by have : w.2.2.1 + 1 - k0 ≤ R.cells := hfc; omega
    have hb2 : w.2.2.2 - n0 + q.2.2 ≤ R.slots := by have : w.2.2.2 + q.2.2 - n0 ≤ R.slots := hfs; omega
    rw [show xev D2 ad ae (.inr (ci, xDf.getD ci [])) = .inr (ci, xDf.getD ci []) from by show Sum.inr (ci, (xDf.getD ci []).map (xv ad ae)) = _; rw [xv_df]] at k1
    exact va_new C.1.1 C.1.2.1 C.2.2.1 hin _ hty C.1.2.2.2 (C.2.2.1 _ g1) (C.2.2.1 _ g2) (C.2.2.1 _ g3) C.2.2.2.1.1.1 hI.1 hI.2 hS C.2.2.2.1.1.2.1 hq hdf hb hb2 hdg k1
  · cases h1

theorem xRA {U : State} {cA cB : ClassId} {ty : FieldType} (h1 : va_RA U cA ty) (h2 : va_RA U cB ty) : cA = cB := by
  unfold va_RA at h1 h2
  split at h1
  · obtain ⟨_, _, _, _, _, h3⟩ := h1
    obtain ⟨_, _, _, _, _, h4⟩ := h2
    exact Option.some.inj (h3.symm.trans h4)
  · next hx =>
    split at h2
    · exact absurd rfl (hx _)
    · exact Option.some.inj (h1.symm.trans h2)

theorem xs_newarray {t : Jvm.ClassFile.ArrayType} (C : xC X D D2 A ae p R s m args meth c M d) (hdg : decode (xMc M) pc = .ok ((.newarray t), len)) (h : xone X M (xMo M) pc L st w (.newarray t) len = some r) (hfc : r.2.2.2.2.2.1 - k0 ≤ R.cells) (hfs : r.2.2.2.2.2.2 - n0 ≤ R.slots) (kk : xWW D D2 A ae p l e R s m args below meth c Q n ad0 k0 n0 r.1 r.2.1 r.2.2.1 r.2.2.2) :
    xGo L st w r ∧ xWW D D2 A ae p l e R s m args below meth c Q n ad0 k0 n0 pc L st w := by
  obtain ⟨rfl, q, h1, rfl⟩ := xnx h
  split at h1
  · next z r k hk =>
    obtain ⟨h2, h1⟩ := xk_some.mp h1
    cases h1
    simp only [Bool.and_eq_true, Bool.not_eq_true', decide_eq_true_eq, decide_eq_false_iff_not] at h2
    have hk5 : k < 5 ∧ newarray.typeOf t = xty k := by
      cases t <;> simp only [xkd] at hk <;> first | (cases hk; exact ⟨by omega, rfl⟩) | cases hk
    refine xmkA (fun h => ⟨xwk_al h.1 ?_, fun v hv => xvk_mono (Nat.le_succ _) (h.2.1 v hv), xvk_cons (Nat.lt_succ_self _) (fun v hv => xvk_mono (Nat.le_succ _) (h.tl.2.2 v hv))⟩) (fun ad H locs ls hI hS hl ho hc1 hc2 k1 => ?_) ?_ (fun h => h.tl.2.2) kk
    · match k, hk5.1 with
      | 0, _ => trivial
      | 1, _ => trivial
      | 2, _ => trivial
      | 3, _ => trivial
      | 4, _ => trivial
    · have hb : w.2.2.1 - k0 + 1 ≤ R.cells := by have : w.2.2.1 + 1 - k0 ≤ R.cells := hfc; omega
      have hb2 : w.2.2.2 - n0 + z.toNatClampNeg ≤ R.slots := by have : w.2.2.2 + z.toNatClampNeg - n0 ≤ R.slots := hfs; omega
      have hby : z.toNatClampNeg * componentBytes (xty k) ≤ 536870912 := by
        have : componentBytes (xty k) ≤ 8 := by
          match k, hk5.1 with
          | 0, _ => decide
          | 1, _ => decide
          | 2, _ => decide
          | 3, _ => decide
          | 4, _ => decide
        exact Nat.le_trans (Nat.mul_le_mul h2.2 this) (Nat.le_of_ble_eq_true rfl)
      have hcell : ∀ cA : ClassId, vp_cell cA (xz k z.toNatClampNeg) = arrV cA z.toNatClampNeg (fun _ => defaultValue (xty k)) := by
        intro cA
        match k, hk5.1 with
        | 0, _ => rfl
        | 1, _ => rfl
        | 2, _ => rfl
        | 3, _ => rfl
        | 4, _ => rfl
      have hxe : ∀ cA, cA = D2 k → (.inl (cA, xz k z.toNatClampNeg) : va_E) = xev D2 ad ae (.inl (k, xz k z.toNatClampNeg)) := by
        intro cA hcA
        subst hcA
        match k, hk5.1 with
        | 0, _ => rfl
        | 1, _ => rfl
        | 2, _ => rfl
        | 3, _ => rfl
        | 4, _ => rfl
      refine va_newa C.1.1 C.1.2.1 (C.2.2.1 _ (hk5.2 ▸ xAw_inv hk5.1)) hk5.2 C.2.2.2.1.1.1 hI.1 hI.2 hS C.2.2.2.1.1.2.1 hcell h2.1 rfl hby hb hb2 hdg (fun q cA H1 a1 a2 a3 a4 => ?_)
      have e1 : cA = D2 k := xRA (a1.2 6 (cA, xty k) rfl).2 (C.2.2.2.1.1.1.2 k _ (xtys_get hk5.1)).2
      rw [hxe cA e1] at a2 a3
      exact k1 q H1 a2 a3 a4
    · match k, hk5.1 with
      | 0, _ => trivial
      | 1, _ => trivial
      | 2, _ => trivial
      | 3, _ => trivial
      | 4, _ => trivial
  · cases h1

theorem xs_anewarray {k : Nat} (C : xC X D D2 A ae p R s m args meth c M d) (hdg : decode (xMc M) pc = .ok ((.anewarray k), len)) (h : xone X M (xMo M) pc L st w (.anewarray k) len = some r) (hfc : r.2.2.2.2.2.1 - k0 ≤ R.cells) (hfs : r.2.2.2.2.2.2 - n0 ≤ R.slots) (kk : xWW D D2 A ae p l e R s m args below meth c Q n ad0 k0 n0 r.1 r.2.1 r.2.2.1 r.2.2.2) :
    xGo L st w r ∧ xWW D D2 A ae p l e R s m args below meth c Q n ad0 k0 n0 pc L st w := by
  obtain ⟨rfl, q, h1, rfl⟩ := xnx h
  split at h1
  · next z r =>
    obtain ⟨h2, h1⟩ := xk_some.mp h1
    cases h1
    simp only [Bool.and_eq_true, Bool.not_eq_true', decide_eq_true_eq, decide_eq_false_iff_not] at h2
    refine xmkA (fun h => ⟨xwk_al h.1 (fun _ _ h9 => by cases h9), fun v hv => xvk_mono (Nat.le_succ _) (h.2.1 v hv), xvk_cons (Nat.lt_succ_self _) (fun v hv => xvk_mono (Nat.le_succ _) (h.tl.2.2 v hv))⟩) (fun ad H locs ls hI hS hl ho hc1 hc2 k1 => ?_) (fun _ _ h9 => by cases h9) (fun h => h.tl.2.2) kk
    have hb : w.2.2.1 - k0 + 1 ≤ R.cells := by have : w.2.2.1 + 1 - k0 ≤ R.cells := hfc; omega
    have hb2 : w.2.2.2 - n0 + z.toNatClampNeg ≤ R.slots := by have : w.2.2.2 + z.toNatClampNeg - n0 ≤ R.slots := hfs; omega
    refine va_newq C.1.1 C.1.2.1 C.1.2.2.2 (C.2.2.1 _ (xQo_inv h2.1.1)) C.2.2.2.1.1.2.2.1 C.2.2.2.1.1.1 hI.1 hI.2 hS C.2.2.2.1.1.2.1 h2.1.2 rfl (by have : z.toNatClampNeg ≤ 20000 := h2.2; omega) hb hb2 hdg (fun q cA H1 a1 a2 a3 a4 => ?_)
    have e1 : cA = D2 5 := xRA (a1.2 6 (cA, .object "CalculatedSheet$State") rfl).2 (C.2.2.2.1.1.1.2 5 (D2 5, .object "CalculatedSheet$State") rfl).2
    subst e1
    exact k1 q H1 a2 a3 a4
  · cases h1

end
