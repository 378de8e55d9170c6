/-! what a control instruction of the light machine may do; what a run of it leaves -/
section
variable {X : xX} {rec : xF} {d M o : Nat} {cc : ByteArray} {pc len : Nat} {L : xL} {st : List Value} {w wf : xH} {out : xO} {i : Instr}
/-- the instruction returns v -/
def xrk (M : Nat) (i : Instr) (v : Option Value) : Prop := match i, v with
  | .return_, none => xMret M = none
  | .ireturn, some v => ∃ t, xMret M = some t ∧ xri t v = true
  | .lreturn, some v => ∃ t, xMret M = some t ∧ xrl t v = true
  | .dreturn, some v => ∃ t, xMret M = some t ∧ xrd t v = true
  | .areturn, some v => ∃ t, xMret M = some t ∧ xra t v = true
  | _, _ => False
theorem xret_inv {ok : FieldType → Value → Bool} (h : xret M ok st w = some (out, wf)) : ∃ v t, st = [v] ∧ xMret M = some t ∧ ok t v = true ∧ out = .inl (some v) ∧ wf = w := by
  unfold xret at h
  split at h
  · next v t ht =>
    obtain ⟨h1, h2⟩ := xk_some.mp h
    cases h2
    exact ⟨v, t, rfl, ht, h1, rfl, rfl⟩
  · cases h
/-- which call: static, special, virtual -/
def xcl3 (o : Nat) (w : xH) (st : List Value) (i : Instr) (rest As : List Value) (kind M' : Nat) : Prop :=
  (∃ k n, i = .invokestatic k ∧ xCa o k 99 = some (kind, M', n) ∧ n ≤ st.length ∧ rest = st.drop n ∧ As = (st.take n).reverse) ∨
  (∃ k n a ci fs, i = .invokespecial k ∧ xCa o k 98 = some (kind, M', n) ∧ st[n]? = some (.ref a) ∧ xat w a = .inr (ci, fs) ∧ rest = st.drop (n + 1) ∧ As = (st.take (n + 1)).reverse) ∨
  (∃ k n v ci, i = .invokevirtual k ∧ st[n]? = some v ∧ xrc w v = some ci ∧ xCa o k ci = some (kind, M', n) ∧ rest = st.drop (n + 1) ∧ As = (st.take (n + 1)).reverse)
theorem xctl_inv (h : xctl rec d M o cc pc L st w i len = some (out, wf)) :
    (∃ v, out = .inl v ∧ wf = w ∧ st = v.toList ∧ xrk M i v ∧ len = 1) ∨
    (∃ k ee, i = .new k ∧ len = 3 ∧ xTh M pc = some ee ∧ 0 < d ∧ xsum st ≤ 8 ∧ out = .inr ee ∧ wf = xex w) ∨
    (∃ k r w', i = .invokestatic k ∧ len = 3 ∧ xAc o k = true ∧ xcp w st = some (r, w') ∧ xsum r ≤ 8 ∧ 0 < d ∧ rec d M o cc (pc + 3) L r w' = some (out, wf)) ∨
    (∃ k a r, i = .invokespecial k ∧ len = 3 ∧ xOi o k = true ∧ st = .ref a :: r ∧ xsum r ≤ 8 ∧ 0 < d ∧ rec d M o cc (pc + 3) L r w = some (out, wf)) ∨
    (∃ rest As kind M', len = 3 ∧ xcl3 o w st i rest As kind M' ∧ xcall rec d M o cc pc L rest As w kind M' = some (out, wf)) := by
  unfold xctl at h
  split at h
  · replace h := xk_some.mp h
    obtain ⟨h1, h⟩ := h
    split at h
    · next ht => cases h; exact Or.inl ⟨none, rfl, rfl, rfl, ht, by simpa using h1⟩
    · cases h
  · replace h := xk_some.mp h
    obtain ⟨h1, h⟩ := h
    obtain ⟨v, t, rfl, h3, h4, rfl, rfl⟩ := xret_inv h
    exact Or.inl ⟨some v, rfl, rfl, rfl, ⟨t, h3, h4⟩, by simpa using h1⟩
  · replace h := xk_some.mp h
    obtain ⟨h1, h⟩ := h
    obtain ⟨v, t, rfl, h3, h4, rfl, rfl⟩ := xret_inv h
    exact Or.inl ⟨some v, rfl, rfl, rfl, ⟨t, h3, h4⟩, by simpa using h1⟩
  · replace h := xk_some.mp h
    obtain ⟨h1, h⟩ := h
    obtain ⟨v, t, rfl, h3, h4, rfl, rfl⟩ := xret_inv h
    exact Or.inl ⟨some v, rfl, rfl, rfl, ⟨t, h3, h4⟩, by simpa using h1⟩
  · replace h := xk_some.mp h
    obtain ⟨h1, h⟩ := h
    obtain ⟨v, t, rfl, h3, h4, rfl, rfl⟩ := xret_inv h
    exact Or.inl ⟨some v, rfl, rfl, rfl, ⟨t, h3, h4⟩, by simpa using h1⟩
  · next k =>
    replace h := xk_some.mp h
    obtain ⟨h1, h⟩ := h
    have hl : len = 3 := by simpa using h1
    split at h
    · next hac =>
      split at h
      · next r w' hcp =>
        obtain ⟨h2, h⟩ := xk_some.mp h
        rw [Bool.and_eq_true, decide_eq_true_eq, decide_eq_true_eq] at h2
        exact Or.inr (Or.inr (Or.inl ⟨k, r, w', rfl, hl, hac, hcp, h2.1, h2.2, h⟩))
      · cases h
    · split at h
      · next kind M' n hca =>
        obtain ⟨h2, h⟩ := xk_some.mp h
        exact Or.inr (Or.inr (Or.inr (Or.inr ⟨_, _, kind, M', hl, Or.inl ⟨k, n, rfl, hca, of_decide_eq_true h2, rfl, rfl⟩, h⟩)))
      · cases h
  · next k =>
    replace h := xk_some.mp h
    obtain ⟨h1, h⟩ := h
    have hl : len = 3 := by simpa using h1
    split at h
    · next hoi =>
      split at h
      · next a r =>
        obtain ⟨h2, h⟩ := xk_some.mp h
        rw [Bool.and_eq_true, decide_eq_true_eq, decide_eq_true_eq] at h2
        exact Or.inr (Or.inr (Or.inr (Or.inl ⟨k, a, r, rfl, hl, hoi, rfl, h2.1, h2.2, h⟩)))
      · cases h
    · split at h
      · next kind M' n hca =>
        split at h
        · next a hst =>
          split at h
          · next q hw =>
            exact Or.inr (Or.inr (Or.inr (Or.inr ⟨_, _, kind, M', hl, Or.inr (Or.inl ⟨k, n, a, q.1, q.2, rfl, hca, hst, hw, rfl, rfl⟩), h⟩)))
          · cases h
        · cases h
      · cases h
  · next k =>
    replace h := xk_some.mp h
    obtain ⟨h1, h⟩ := h
    have hl : len = 3 := by simpa using h1
    split at h
    · next n hn =>
      split at h
      · next v hv =>
        split at h
        · next ci hci =>
          split at h
          · next kind M' n' hca =>
            obtain ⟨h2, h⟩ := xk_some.mp h
            obtain rfl : n' = n := by simpa using h2
            exact Or.inr (Or.inr (Or.inr (Or.inr ⟨_, _, kind, M', hl, Or.inr (Or.inr ⟨k, n', v, ci, rfl, hv, hci, hca, rfl, rfl⟩), h⟩)))
          · cases h
        · cases h
      · cases h
    · cases h
  · next k =>
    split at h
    · next ee hth =>
      obtain ⟨h2, h⟩ := xk_some.mp h
      cases h
      simp only [Bool.and_eq_true, decide_eq_true_eq] at h2
      exact Or.inr (Or.inl ⟨k, ee, rfl, h2.2, hth, h2.1.1, h2.1.2, rfl, rfl⟩)
    · cases h
  · cases h
theorem xhk_vk {N h : Nat} {v : Value} (e : xhk o M cc h = some v) : xvk N v := by
  unfold xhk at e
  split at e
  · split at e
    · obtain ⟨h1, h2⟩ := xk_some.mp e; cases h2; trivial
    · cases e
  · split at e
    · obtain ⟨h1, h2⟩ := xk_some.mp e; obtain ⟨u, hu, rfl⟩ := Option.map_eq_some_iff.mp h2; trivial
    · cases e
  · split at e
    · obtain ⟨h1, h2⟩ := xk_some.mp e; obtain ⟨u, hu, rfl⟩ := Option.map_eq_some_iff.mp h2; trivial
    · cases e
  · cases e
theorem xhn_vk {N h : Nat} {v : Value} (e : xhn M cc h = some v) : xvk N v := by
  unfold xhn at e
  split at e
  · obtain ⟨h1, h2⟩ := xk_some.mp e; exact xhk_vk h2
  · obtain ⟨h1, h2⟩ := xk_some.mp e; exact xhk_vk h2
  · cases e
theorem xcall_inv {rest As : List Value} {kind M' : Nat} (h : xcall rec d M o cc pc L rest As w kind M' = some (out, wf)) :
    ∃ d' out1 w1, d = d' + 1 ∧ xsum rest ≤ 8 ∧ (xfl As).length ≤ xMl M' ∧ rec d' M' (xMo M') (xMc M') 0 (xen (xMl M') As) [] w = some (out1, w1) ∧
      ((∃ v, out1 = .inl v ∧ rec d M o cc (pc + 3) L (v.toList ++ rest) w1 = some (out, wf)) ∨
       (∃ ee, out1 = .inr ee ∧ kind < 2 ∧ ((xMh M = [] ∧ out = .inr ee ∧ wf = w1) ∨ (∃ hp z, xMh M ≠ [] ∧ xhd o (xMh M) pc ee = some hp ∧ xhn M cc hp = some z ∧ out = .inl (some z) ∧ wf = w1)))) := by
  unfold xcall at h
  split at h
  · cases h
  · next d' =>
    replace h := xk_some.mp h
    obtain ⟨h1, h⟩ := h
    rw [Bool.and_eq_true, decide_eq_true_eq, decide_eq_true_eq] at h1
    split at h
    · next v w1 hr => exact ⟨d', .inl v, w1, rfl, h1.1, h1.2, hr, Or.inl ⟨v, rfl, h⟩⟩
    · next ee w1 hr =>
      obtain ⟨h2, h⟩ := xk_some.mp h
      refine ⟨d', .inr ee, w1, rfl, h1.1, h1.2, hr, Or.inr ⟨ee, rfl, of_decide_eq_true h2, ?_⟩⟩
      split at h
      · next hh => cases h; exact Or.inl ⟨hh, rfl, rfl⟩
      · next hh hne =>
        split at h
        · next hp hhd =>
          obtain ⟨z, hz, h3⟩ := Option.map_eq_some_iff.mp h
          obtain ⟨rfl, rfl⟩ := Prod.mk.inj h3
          exact Or.inr ⟨hp, z, fun h => hne (by assumption) |>.elim, hhd, hz, rfl, rfl⟩
        · cases h
    · cases h
/-- what a run leaves -/
def xGd (w : xH) (out : xO) (wf : xH) : Prop := xwk wf ∧ (∀ v, out = .inl (some v) → xvk wf.1 v) ∧ w.1 ≤ wf.1 ∧ w.2.2.1 ≤ wf.2.2.1 ∧ w.2.2.2 ≤ wf.2.2.2
theorem xGd.trans {w1 : xH} (h : xGd w1 out wf) (h1 : w.1 ≤ w1.1) (h2 : w.2.2.1 ≤ w1.2.2.1) (h3 : w.2.2.2 ≤ w1.2.2.2) : xGd w out wf :=
  ⟨h.1, h.2.1, Nat.le_trans h1 h.2.2.1, Nat.le_trans h2 h.2.2.2.1, Nat.le_trans h3 h.2.2.2.2⟩
theorem xcp_ok {r : List Value} {w' : xH} (h : xcp w st = some (r, w')) (ho : xok w L st) : xok w' L r ∧ w'.1 = w.1 ∧ w'.2.2 = w.2.2 := by
  unfold xcp at h
  split at h
  · split at h
    · obtain ⟨h1, h2⟩ := xk_some.mp h
      cases h2
      exact ⟨⟨xwk_pt ho.1 trivial, ho.2.1, ho.tl.tl.tl.tl.tl.2.2⟩, rfl, rfl⟩
    · cases h
  · split at h
    · obtain ⟨h1, h2⟩ := xk_some.mp h
      cases h2
      exact ⟨⟨xwk_pt ho.1 trivial, ho.2.1, ho.tl.tl.tl.tl.tl.2.2⟩, rfl, rfl⟩
    · cases h
  · cases h
theorem xfl_mem {vs : List Value} {v : Value} (h : some v ∈ xfl vs) : v ∈ vs := by
  unfold xfl at h
  obtain ⟨u, hu, hm⟩ := List.mem_flatMap.mp h
  split at hm
  · rcases List.mem_cons.mp hm with h1 | h1
    · cases h1; exact hu
    · rcases List.mem_cons.mp h1 with h1 | h1
      · cases h1
      · cases h1
  · rcases List.mem_cons.mp hm with h1 | h1
    · cases h1; exact hu
    · cases h1
theorem xen_ok {n : Nat} {As : List Value} (h1 : xwk w) (h2 : ∀ v ∈ As, xvk w.1 v) : xok w (xen n As) [] := by
  refine ⟨h1, fun v hv => ?_, fun v hv => by cases hv⟩
  unfold xen at hv
  rcases List.mem_append.mp hv with hv | hv
  · exact h2 v (xfl_mem hv)
  · have := List.eq_of_mem_replicate hv
    cases this
theorem xcl3_mem {rest As : List Value} {kind M' : Nat} (h : xcl3 o w st i rest As kind M') : (∀ v ∈ rest, v ∈ st) ∧ ∀ v ∈ As, v ∈ st := by
  rcases h with ⟨k, n, -, -, -, rfl, rfl⟩ | ⟨k, n, a, ci, fs, -, -, -, -, rfl, rfl⟩ | ⟨k, n, v, ci, -, -, -, -, rfl, rfl⟩
  · exact ⟨fun v hv => List.mem_of_mem_drop hv, fun v hv => List.mem_of_mem_take (List.mem_reverse.mp hv)⟩
  · exact ⟨fun v hv => List.mem_of_mem_drop hv, fun v hv => List.mem_of_mem_take (List.mem_reverse.mp hv)⟩
  · exact ⟨fun v hv => List.mem_of_mem_drop hv, fun v hv => List.mem_of_mem_take (List.mem_reverse.mp hv)⟩
end
section
variable {X : xX}
theorem xexec_ok : ∀ (n d M o : Nat) (cc : ByteArray) (pc : Nat) (L : xL) (st : List Value) (w wf : xH) (out : xO), xexec X n d M o cc pc L st w = some (out, wf) → xok w L st → xGd w out wf
  | 0, _, _, _, _, _, _, _, _, _, _, h, _ => by cases h
  | n + 1, d, M, o, cc, pc, L, st, w, wf, out, h, ho => by
    have ih := xexec_ok n
    have h0 : (match decode cc pc with
      | .ok (i, len) => xins X (xexec X n) d M o cc pc L st w i len
      | .error _ => none) = some (out, wf) := h
    split at h0
    · next i len hdg =>
      unfold xins at h0
      split at h0
      · next r hr =>
        obtain ⟨-, g1, g2, g3, g4⟩ := xone_ok hr
        exact (ih _ _ _ _ _ _ _ _ _ _ h0 (g1 ho)).trans g2 g3 g4
      · rcases xctl_inv h0 with ⟨v, rfl, rfl, rfl, -, -⟩ | ⟨k, ee, -, -, -, -, -, rfl, rfl⟩ | ⟨k, r, w', -, -, -, hcp, -, -, h1⟩ | ⟨k, a, r, -, -, -, rfl, -, -, h1⟩ | ⟨rest, As, kind, M', -, h3, h4⟩
        · refine ⟨ho.1, fun v hv => ?_, Nat.le_refl _, Nat.le_refl _, Nat.le_refl _⟩
          cases hv
          exact ho.2.2 v List.mem_cons_self
        · exact ⟨ho.1, (fun v hv => by cases hv), Nat.le_refl _, Nat.le_succ _, Nat.le_add_right _ _⟩
        · obtain ⟨g1, g2, g3⟩ := xcp_ok hcp ho
          exact (ih _ _ _ _ _ _ _ _ _ _ h1 g1).trans (Nat.le_of_eq g2.symm) (Nat.le_of_eq (by rw [g3])) (Nat.le_of_eq (by rw [g3]))
        · exact ih _ _ _ _ _ _ _ _ _ _ h1 ho.tl
        · obtain ⟨d', out1, w1, rfl, -, -, h5, h6⟩ := xcall_inv h4
          obtain ⟨m1, m2⟩ := xcl3_mem h3
          have g := ih _ _ _ _ _ _ _ _ _ _ h5 (xen_ok ho.1 fun v hv => ho.2.2 v (m2 v hv))
          rcases h6 with ⟨v, rfl, h7⟩ | ⟨ee, rfl, -, ⟨-, rfl, rfl⟩ | ⟨hp, z, -, -, hz, rfl, rfl⟩⟩
          · refine (ih _ _ _ _ _ _ _ _ _ _ h7 ⟨g.1, fun u hu => xvk_mono g.2.2.1 (ho.2.1 u hu), fun u hu => ?_⟩).trans g.2.2.1 g.2.2.2.1 g.2.2.2.2
            rcases List.mem_append.mp hu with hu | hu
            · cases v with
              | none => cases hu
              | some v => cases List.mem_singleton.mp hu; exact g.2.1 _ rfl
            · exact xvk_mono g.2.2.1 (ho.2.2 u (m1 u hu))
          · exact ⟨g.1, (fun v hv => by cases hv), g.2.2⟩
          · exact ⟨g.1, (fun v hv => by cases hv; exact xhn_vk hz), g.2.2⟩
    · cases h0
end
