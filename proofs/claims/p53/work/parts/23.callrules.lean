/-! returns, throws, calls: as equations (written by wip/whole/gencalls.py) -/
section
variable {X : xX} {d M : Nat} {cc : ByteArray} {pc pc' tg : Nat} {L : xL} {st : List Value} {w : xH} {S : xLm} {g : xGm} {Q : xO → xH → Prop}
def xth (M kind pc ee : Nat) (Q : xO → xH → Prop) (w1 : xH) : Prop := kind < 2 ∧ (match xMh M with
  | [] => Q (.inr ee) w1
  | hh => match xhd (xMo M) hh pc ee with
    | some h => (match xhn M (xMc M) h with | some z => Q (.inl (some z)) w1 | none => False)
    | none => False)
def xcont (X : xX) (d M pc' : Nat) (L : xL) (rest : List Value) (kind pc : Nat) (Q : xO → xH → Prop) : xO → xH → Prop := fun o w1 => match o with
  | .inl v => Wx X d M pc' L (v.toList ++ rest) w1 Q
  | .inr ee => xth M kind pc ee Q w1
theorem xcall_eq {rest As : List Value} {kind M' : Nat} : (∃ n out wf, xcall (xexec X n) (d + 1) M (xMo M) (xMc M) pc L rest As w kind M' = some (out, wf) ∧ Q out wf) = ((xsum rest ≤ 8 ∧ (xfl As).length ≤ xMl M') ∧ Cw X d M' As w (xcont X (d + 1) M (pc + 3) L rest kind pc Q)) := by
  apply propext
  constructor
  · rintro ⟨n, out, wf, h, hQ⟩
    obtain ⟨d', out1, w1, hd, h1, h2, h3, h4⟩ := xcall_inv h
    obtain rfl : d = d' := Nat.succ.inj hd
    refine ⟨⟨h1, h2⟩, n, out1, w1, h3, ?_⟩
    rcases h4 with ⟨v, rfl, h5⟩ | ⟨ee, rfl, hk, h5⟩
    · exact ⟨n, out, wf, h5, hQ⟩
    · refine ⟨hk, ?_⟩
      rcases h5 with ⟨h6, rfl, rfl⟩ | ⟨hp, z, h6, h7, h8, rfl, rfl⟩
      · rw [h6]; exact hQ
      · cases hm : xMh M with
        | nil => exact absurd hm h6
        | cons q t =>
          rw [hm] at h7
          show (match xhd (xMo M) (q :: t) pc ee with
            | some h => (match xhn M (xMc M) h with | some z => Q (.inl (some z)) wf | none => False)
            | none => False)
          rw [h7]
          show (match xhn M (xMc M) hp with | some z => Q (.inl (some z)) wf | none => False)
          rw [h8]
          exact hQ
  · rintro ⟨⟨h1, h2⟩, n, out1, w1, h3, h4⟩
    cases out1 with
    | inl v =>
      obtain ⟨n2, out, wf, h5, hQ⟩ := h4
      refine ⟨max n n2, out, wf, ?_, hQ⟩
      unfold xcall
      refine xk_some.mpr ⟨by rw [Bool.and_eq_true, decide_eq_true_eq, decide_eq_true_eq]; exact ⟨h1, h2⟩, ?_⟩
      rw [xexec_le X n _ (Nat.le_max_left _ _) _ _ _ _ _ _ _ _ _ h3 d (Nat.le_refl _)]
      exact xexec_le X n2 _ (Nat.le_max_right _ _) _ _ _ _ _ _ _ _ _ h5 _ (Nat.le_refl _)
    | inr ee =>
      obtain ⟨hk, h5⟩ := h4
      cases hm : xMh M with
      | nil =>
        rw [hm] at h5
        refine ⟨n, .inr ee, w1, ?_, h5⟩
        unfold xcall
        refine xk_some.mpr ⟨by rw [Bool.and_eq_true, decide_eq_true_eq, decide_eq_true_eq]; exact ⟨h1, h2⟩, ?_⟩
        rw [h3]
        refine xk_some.mpr ⟨decide_eq_true hk, ?_⟩
        rw [hm]
      | cons q t =>
        rw [hm] at h5
        have h5 : (match xhd (xMo M) (q :: t) pc ee with
            | some h => (match xhn M (xMc M) h with | some z => Q (.inl (some z)) w1 | none => False)
            | none => False) := h5
        cases h7 : xhd (xMo M) (q :: t) pc ee with
        | none => rw [h7] at h5; exact h5.elim
        | some hp =>
          rw [h7] at h5
          have h5 : (match xhn M (xMc M) hp with | some z => Q (.inl (some z)) w1 | none => False) := h5
          cases h8 : xhn M (xMc M) hp with
          | none => rw [h8] at h5; exact h5.elim
          | some z =>
            rw [h8] at h5
            refine ⟨n, .inl (some z), w1, ?_, h5⟩
            unfold xcall
            refine xk_some.mpr ⟨by rw [Bool.and_eq_true, decide_eq_true_eq, decide_eq_true_eq]; exact ⟨h1, h2⟩, ?_⟩
            rw [h3]
            refine xk_some.mpr ⟨decide_eq_true hk, ?_⟩
            rw [hm]
            show (match xhd (xMo M) (q :: t) pc ee with
              | some h => (xhn M (xMc M) h).map (fun c => (Sum.inl (some c), w1))
              | none => none) = _
            rw [h7]
            show (xhn M (xMc M) hp).map (fun c => (Sum.inl (some c), w1)) = _
            rw [h8]
            rfl
theorem xtk_rev (As rest : List Value) : ((As.reverse ++ rest).take As.length).reverse = As ∧ (As.reverse ++ rest).drop As.length = rest := by
  rw [show As.length = As.reverse.length from List.length_reverse.symm, List.take_left, List.drop_left, List.reverse_reverse]
  exact ⟨rfl, rfl⟩
theorem w_invs {k kind M' : Nat} (As : List Value) (hq : xMc M = cc) (hd : decode cc pc = .ok (.invokestatic k, 3)) (hac : xAc (xMo M) k = false) (hc : xCa (xMo M) k 99 = some (kind, M', As.length)) :
    Wx X (d + 1) M pc L (As.reverse ++ st) w Q = ((xsum st ≤ 8 ∧ (xfl As).length ≤ xMl M') ∧ Cw X d M' As w (xcont X (d + 1) M (pc + 3) L st kind pc Q)) := by
  rw [Wx_ctl hq hd rfl, ← xcall_eq]
  have h : ∀ n, xctl (xexec X n) (d + 1) M (xMo M) (xMc M) pc L (As.reverse ++ st) w (.invokestatic k) 3 = xcall (xexec X n) (d + 1) M (xMo M) (xMc M) pc L st As w kind M' := by
    intro n
    simp only [xctl, hac, hc, xk, beq_self_eq_true, if_true]
    rw [if_neg Bool.false_ne_true, (xtk_rev As st).1, (xtk_rev As st).2, if_pos (by simp)]
  simp only [h]
theorem w_invp {k kind M' a : Nat} (As : List Value) (hq : xMc M = cc) (hd : decode cc pc = .ok (.invokespecial k, 3)) (hoi : xOi (xMo M) k = false) (hc : xCa (xMo M) k 98 = some (kind, M', As.length)) (hcl : (xcls (S.1 a)).isSome = true) :
    Wx X (d + 1) M pc L (As.reverse ++ .ref a :: st) (hp S g) Q = ((xsum st ≤ 8 ∧ (xfl (.ref a :: As)).length ≤ xMl M') ∧ Cw X d M' (.ref a :: As) (hp S g) (xcont X (d + 1) M (pc + 3) L st kind pc Q)) := by
  rw [Wx_ctl hq hd rfl, ← xcall_eq]
  obtain ⟨q, hq'⟩ : ∃ q, xat (hp S g) a = .inr q := by
    show ∃ q, xem (S.1 a) (g a) = .inr q
    cases hs : S.1 a with
    | inl z => rw [hs] at hcl; cases hcl
    | inr z => exact ⟨_, rfl⟩
  have hst : (As.reverse ++ .ref a :: st)[As.length]? = some (.ref a) := by
    rw [List.getElem?_append_right (by simp)]
    simp
  have h2 := xtk (st := As.reverse ++ .ref a :: st) hst
  have h3 : ((As.reverse ++ .ref a :: st).take As.length).reverse = As := (xtk_rev As _).1
  have h4 : (As.reverse ++ .ref a :: st).drop (As.length + 1) = st := by
    rw [show As.length + 1 = (As.reverse ++ [Value.ref a]).length by simp, show As.reverse ++ .ref a :: st = (As.reverse ++ [Value.ref a]) ++ st by simp, List.drop_left]
  have h : ∀ n, xctl (xexec X n) (d + 1) M (xMo M) (xMc M) pc L (As.reverse ++ .ref a :: st) (hp S g) (.invokespecial k) 3 = xcall (xexec X n) (d + 1) M (xMo M) (xMc M) pc L st (.ref a :: As) (hp S g) kind M' := by
    intro n
    simp only [xctl, hoi, hc, xk, beq_self_eq_true, if_true, hst, hq']
    rw [h2.1, h3, h4]
    rfl
  simp only [h]
theorem w_invv {k kind M' a ci : Nat} (As : List Value) (hq : xMc M = cc) (hd : decode cc pc = .ok (.invokevirtual k, 3)) (hn : xcn (xMo M) k = some As.length) (hc : xCa (xMo M) k ci = some (kind, M', As.length)) (hcl : xcls (S.1 a) = some ci) :
    Wx X (d + 1) M pc L (As.reverse ++ .ref a :: st) (hp S g) Q = ((xsum st ≤ 8 ∧ (xfl (.ref a :: As)).length ≤ xMl M') ∧ Cw X d M' (.ref a :: As) (hp S g) (xcont X (d + 1) M (pc + 3) L st kind pc Q)) := by
  rw [Wx_ctl hq hd rfl, ← xcall_eq]
  have hrc : xrc (hp S g) (.ref a) = some ci := by
    unfold xrc
    show (match xem (S.1 a) (g a) with | .inr (ci, _) => some ci | _ => none) = _
    cases hs : S.1 a with
    | inl z => rw [hs] at hcl; cases hcl
    | inr z => rw [hs] at hcl; exact hcl
  have hst : (As.reverse ++ .ref a :: st)[As.length]? = some (.ref a) := by
    rw [List.getElem?_append_right (by simp)]
    simp
  have h2 := xtk (st := As.reverse ++ .ref a :: st) hst
  have h3 : ((As.reverse ++ .ref a :: st).take As.length).reverse = As := (xtk_rev As _).1
  have h4 : (As.reverse ++ .ref a :: st).drop (As.length + 1) = st := by
    rw [show As.length + 1 = (As.reverse ++ [Value.ref a]).length by simp, show As.reverse ++ .ref a :: st = (As.reverse ++ [Value.ref a]) ++ st by simp, List.drop_left]
  have h : ∀ n, xctl (xexec X n) (d + 1) M (xMo M) (xMc M) pc L (As.reverse ++ .ref a :: st) (hp S g) (.invokevirtual k) 3 = xcall (xexec X n) (d + 1) M (xMo M) (xMc M) pc L st (.ref a :: As) (hp S g) kind M' := by
    intro n
    simp only [xctl, hn, hc, xk, beq_self_eq_true, if_true, hst, hrc]
    rw [h2.1, h3, h4]
  simp only [h]
theorem w_tr1 {A P : Prop} (h1 : A) : (A ∧ P) = P := by simp [h1]
theorem w_tr {A B P : Prop} (h1 : A) (h2 : B) : ((A ∧ B) ∧ P) = P := by simp [h1, h2]
theorem w_obji {k a : Nat} (hq : xMc M = cc) (hd : decode cc pc = .ok (.invokespecial k, 3)) (hp' : pc + 3 = pc') (hoi : xOi (xMo M) k = true) (h8 : decide (xsum st ≤ 8) = true) :
    Wx X (d + 1) M pc L (.ref a :: st) w Q = Wx X (d + 1) M pc' L st w Q := by
  subst hp'
  refine Eq.trans ?_ (w_tr1 (of_decide_eq_true h8))
  rw [Wx_ctl hq hd rfl]
  have h : ∀ n, xctl (xexec X n) (d + 1) M (xMo M) (xMc M) pc L (.ref a :: st) w (.invokespecial k) 3 = xk (decide (xsum st ≤ 8)) (xexec X n (d + 1) M (xMo M) (xMc M) (pc + 3) L st w) := by
    intro n
    simp only [xctl, hoi, xk, beq_self_eq_true, if_true, Nat.zero_lt_succ, decide_true, Bool.and_true]
  simp only [h]
  apply propext
  constructor
  · rintro ⟨n, out, wf, h1, h2⟩
    obtain ⟨h3, h4⟩ := xk_some.mp h1
    exact ⟨of_decide_eq_true h3, n, out, wf, h4, h2⟩
  · rintro ⟨h3, n, out, wf, h4, h2⟩
    exact ⟨n, out, wf, xk_some.mpr ⟨decide_eq_true h3, h4⟩, h2⟩
def xSx (S : xLm) : xLm := (S.1, S.2.1, S.2.2.1 + 1, S.2.2.2 + 6)
theorem w_throw {k ee : Nat} (hq : xMc M = cc) (hd : decode cc pc = .ok (.new k, 3)) (ht : xTh M pc = some ee) (h8 : decide (xsum st ≤ 8) = true) :
    Wx X (d + 1) M pc L st (hp S g) Q = Q (.inr ee) (hp (xSx S) g) := by
  refine Eq.trans ?_ (w_tr1 (of_decide_eq_true h8))
  rw [Wx_ctl hq hd (by simp only [xone, ht]; rfl)]
  have h : ∀ n, xctl (xexec X n) (d + 1) M (xMo M) (xMc M) pc L st (hp S g) (.new k) 3 = xk (decide (xsum st ≤ 8)) (some (.inr ee, hp (xSx S) g)) := by
    intro n
    simp only [xctl, ht, xk, Nat.zero_lt_succ, decide_true, Bool.and_true, Bool.true_and]
    rfl
  simp only [h]
  apply propext
  constructor
  · rintro ⟨n, out, wf, h1, h2⟩
    obtain ⟨h3, h4⟩ := xk_some.mp h1
    cases h4
    exact ⟨of_decide_eq_true h3, h2⟩
  · rintro ⟨h3, h2⟩
    exact ⟨0, _, _, xk_some.mpr ⟨decide_eq_true h3, rfl⟩, h2⟩
theorem w_ctlQ {i : Instr} {len : Nat} {o : xO} (hq : xMc M = cc) (hd : decode cc pc = .ok (i, len)) (h : xone X M (xMo M) pc L st w i len = none) (hx : ∀ rec, xctl rec d M (xMo M) (xMc M) pc L st w i len = some (o, w)) : Wx X d M pc L st w Q = Q o w := by
  rw [Wx_ctl hq hd h]
  simp only [hx]
  apply propext
  constructor
  · rintro ⟨n, out, wf, h1, h2⟩; cases h1; exact h2
  · intro h; exact ⟨0, _, _, rfl, h⟩
theorem w_return (hq : xMc M = cc) (hd : decode cc pc = .ok (.return_, 1)) (hr : xMret M = none) : Wx X d M pc L [] w Q = Q (.inl none) w :=
  w_ctlQ hq hd rfl (fun rec => by simp only [xctl, hr]; rfl)
theorem w_ireturn {x : Int32} (hq : xMc M = cc) (hd : decode cc pc = .ok (.ireturn, 1)) (hr : xMret M = some .int) : Wx X d M pc L [.int x] w Q = Q (.inl (some (.int x))) w :=
  w_ctlQ hq hd rfl (fun rec => by simp only [xctl, xret, hr]; simp [xk, xri, narrow])
theorem w_lreturn {x : Int64} (hq : xMc M = cc) (hd : decode cc pc = .ok (.lreturn, 1)) (hr : xMret M = some .long) : Wx X d M pc L [.long x] w Q = Q (.inl (some (.long x))) w :=
  w_ctlQ hq hd rfl (fun rec => by simp only [xctl, xret, hr]; simp [xk, xrl])
theorem w_dreturn {x : UInt64} (hq : xMc M = cc) (hd : decode cc pc = .ok (.dreturn, 1)) (hr : xMret M = some .double) : Wx X d M pc L [.double x] w Q = Q (.inl (some (.double x))) w :=
  w_ctlQ hq hd rfl (fun rec => by simp only [xctl, xret, hr]; simp [xk, xrd])
theorem w_areturn {v : Value} {t : FieldType} (hq : xMc M = cc) (hd : decode cc pc = .ok (.areturn, 1)) (hr : xMret M = some t) (hv : xra t v = true) : Wx X d M pc L [v] w Q = Q (.inl (some v)) w :=
  w_ctlQ hq hd rfl (fun rec => by simp only [xctl, xret, hr]; simp [xk, hv])
theorem w_xreturn {x : Int} {t : FieldType} {P : Prop} (hq : xMc M = cc) (hd : decode cc pc = .ok (.ireturn, 1)) (hr : xMret M = some t) (hP : narrow t (.int (iI x)) = .int (iI x) ↔ P) : Wx X d M pc L [.int (iI x)] w Q = (P ∧ Q (.inl (some (.int (iI x)))) w) := by
  refine w_and (fun h => ?_) (fun h => ?_)
  · exact w_ctlQ hq hd rfl (fun rec => by simp only [xctl, xret, hr]; simp [xk, xri, hP.mpr h])
  · exact Wx_no hq hd rfl (fun rec => by simp only [xctl, xret, hr]; simp [xk, xri, mt hP.mp h])
def xzb (x : Int) : Prop := iI x &&& 1 = iI x
def xcb (x : Int) : Prop := (iI x).toUInt32.toUInt16.toUInt32.toInt32 = iI x
theorem xzb_0 : xzb 0 := rfl
theorem xzb_1 : xzb 1 := rfl
theorem xzb_ite {c : Prop} {_ : Decidable c} {a b : Int} (h1 : xzb a) (h2 : xzb b) : xzb (if c then a else b) := by split <;> assumption
theorem w_zreturn {x : Int} (hq : xMc M = cc) (hd : decode cc pc = .ok (.ireturn, 1)) (hr : xMret M = some .boolean) : Wx X d M pc L [.int (iI x)] w Q = (xzb x ∧ Q (.inl (some (.int (iI x)))) w) :=
  w_xreturn hq hd hr ⟨fun h => Value.int.inj h, fun h => congrArg Value.int h⟩
theorem w_creturn {x : Int} (hq : xMc M = cc) (hd : decode cc pc = .ok (.ireturn, 1)) (hr : xMret M = some .char) : Wx X d M pc L [.int (iI x)] w Q = (xcb x ∧ Q (.inl (some (.int (iI x)))) w) :=
  w_xreturn hq hd hr ⟨fun h => Value.int.inj h, fun h => congrArg Value.int h⟩
/-! the stack's height -/
theorem xsum_nil : xsum [] = 0 := rfl
theorem xsum_int (x : Int32) (l : List Value) : xsum (.int x :: l) = 1 + xsum l := by simp [xsum, Value.category]
theorem xsum_ref (x : Nat) (l : List Value) : xsum (.ref x :: l) = 1 + xsum l := by simp [xsum, Value.category]
theorem xsum_ra (x : Nat) (l : List Value) : xsum (.retAddr x :: l) = 1 + xsum l := by simp [xsum, Value.category]
theorem xsum_long (x : Int64) (l : List Value) : xsum (.long x :: l) = 2 + xsum l := by simp [xsum, Value.category]
theorem xsum_double (x : UInt64) (l : List Value) : xsum (.double x :: l) = 2 + xsum l := by simp [xsum, Value.category]
theorem xsum_null (l : List Value) : xsum (.null :: l) = 1 + xsum l := by simp [xsum, Value.category]
theorem xfl_nil : xfl [] = [] := rfl
theorem xfl_int (x : Int32) (l : List Value) : xfl (.int x :: l) = some (.int x) :: xfl l := rfl
theorem xfl_ref (x : Nat) (l : List Value) : xfl (.ref x :: l) = some (.ref x) :: xfl l := rfl
theorem xfl_ra (x : Nat) (l : List Value) : xfl (.retAddr x :: l) = some (.retAddr x) :: xfl l := rfl
theorem xfl_null (l : List Value) : xfl (.null :: l) = some .null :: xfl l := rfl
theorem xfl_long (x : Int64) (l : List Value) : xfl (.long x :: l) = some (.long x) :: none :: xfl l := rfl
theorem xfl_double (x : UInt64) (l : List Value) : xfl (.double x :: l) = some (.double x) :: none :: xfl l := rfl

theorem w_invs0 {k kind M' : Nat} (hq : xMc M = cc) (hd : decode cc pc = .ok (.invokestatic k, 3)) (hp' : pc + 3 = pc') (hac : xAc (xMo M) k = false) (hc : xCa (xMo M) k 99 = some (kind, M', 0)) {ml : Nat} (hml : xMl M' = ml) (h8 : decide (xsum st ≤ 8) = true) (hfl : decide ((xfl []).length ≤ ml) = true) : Wx X (d + 1) M pc L (st) w Q = Cw X d M' [] w (xcont X (d + 1) M pc' L st kind pc Q) := by
  subst hp'
  subst hml
  exact (w_invs [] hq hd hac hc).trans (w_tr (of_decide_eq_true h8) (of_decide_eq_true hfl))
theorem w_invp0 {k kind M' a : Nat} (hq : xMc M = cc) (hd : decode cc pc = .ok (.invokespecial k, 3)) (hp' : pc + 3 = pc') (hoi : xOi (xMo M) k = false) (hc : xCa (xMo M) k 98 = some (kind, M', 0)) {ml : Nat} (hml : xMl M' = ml) (hcl : (xcls (S.1 a)).isSome = true) (h8 : decide (xsum st ≤ 8) = true) (hfl : decide ((xfl [.ref a]).length ≤ ml) = true) : Wx X (d + 1) M pc L (.ref a :: st) (hp S g) Q = Cw X d M' [.ref a] (hp S g) (xcont X (d + 1) M pc' L st kind pc Q) := by
  subst hp'
  subst hml
  exact (w_invp [] hq hd hoi hc hcl).trans (w_tr (of_decide_eq_true h8) (of_decide_eq_true hfl))
theorem w_invv0 {k kind M' a ci : Nat} (hq : xMc M = cc) (hd : decode cc pc = .ok (.invokevirtual k, 3)) (hp' : pc + 3 = pc') (hn : xcn (xMo M) k = some 0) (hc : xCa (xMo M) k ci = some (kind, M', 0)) {ml : Nat} (hml : xMl M' = ml) (hcl : xcls (S.1 a) = some ci) (h8 : decide (xsum st ≤ 8) = true) (hfl : decide ((xfl [.ref a]).length ≤ ml) = true) : Wx X (d + 1) M pc L (.ref a :: st) (hp S g) Q = Cw X d M' [.ref a] (hp S g) (xcont X (d + 1) M pc' L st kind pc Q) := by
  subst hp'
  subst hml
  exact (w_invv [] hq hd hn hc hcl).trans (w_tr (of_decide_eq_true h8) (of_decide_eq_true hfl))
theorem w_invs1 {k kind M' : Nat} {b0 : Value} (hq : xMc M = cc) (hd : decode cc pc = .ok (.invokestatic k, 3)) (hp' : pc + 3 = pc') (hac : xAc (xMo M) k = false) (hc : xCa (xMo M) k 99 = some (kind, M', 1)) {ml : Nat} (hml : xMl M' = ml) (h8 : decide (xsum st ≤ 8) = true) (hfl : decide ((xfl [b0]).length ≤ ml) = true) : Wx X (d + 1) M pc L (b0 :: st) w Q = Cw X d M' [b0] w (xcont X (d + 1) M pc' L st kind pc Q) := by
  subst hp'
  subst hml
  exact (w_invs [b0] hq hd hac hc).trans (w_tr (of_decide_eq_true h8) (of_decide_eq_true hfl))
theorem w_invp1 {k kind M' a : Nat} {b0 : Value} (hq : xMc M = cc) (hd : decode cc pc = .ok (.invokespecial k, 3)) (hp' : pc + 3 = pc') (hoi : xOi (xMo M) k = false) (hc : xCa (xMo M) k 98 = some (kind, M', 1)) {ml : Nat} (hml : xMl M' = ml) (hcl : (xcls (S.1 a)).isSome = true) (h8 : decide (xsum st ≤ 8) = true) (hfl : decide ((xfl [.ref a, b0]).length ≤ ml) = true) : Wx X (d + 1) M pc L (b0 :: .ref a :: st) (hp S g) Q = Cw X d M' [.ref a, b0] (hp S g) (xcont X (d + 1) M pc' L st kind pc Q) := by
  subst hp'
  subst hml
  exact (w_invp [b0] hq hd hoi hc hcl).trans (w_tr (of_decide_eq_true h8) (of_decide_eq_true hfl))
theorem w_invv1 {k kind M' a ci : Nat} {b0 : Value} (hq : xMc M = cc) (hd : decode cc pc = .ok (.invokevirtual k, 3)) (hp' : pc + 3 = pc') (hn : xcn (xMo M) k = some 1) (hc : xCa (xMo M) k ci = some (kind, M', 1)) {ml : Nat} (hml : xMl M' = ml) (hcl : xcls (S.1 a) = some ci) (h8 : decide (xsum st ≤ 8) = true) (hfl : decide ((xfl [.ref a, b0]).length ≤ ml) = true) : Wx X (d + 1) M pc L (b0 :: .ref a :: st) (hp S g) Q = Cw X d M' [.ref a, b0] (hp S g) (xcont X (d + 1) M pc' L st kind pc Q) := by
  subst hp'
  subst hml
  exact (w_invv [b0] hq hd hn hc hcl).trans (w_tr (of_decide_eq_true h8) (of_decide_eq_true hfl))
theorem w_invs2 {k kind M' : Nat} {b0 b1 : Value} (hq : xMc M = cc) (hd : decode cc pc = .ok (.invokestatic k, 3)) (hp' : pc + 3 = pc') (hac : xAc (xMo M) k = false) (hc : xCa (xMo M) k 99 = some (kind, M', 2)) {ml : Nat} (hml : xMl M' = ml) (h8 : decide (xsum st ≤ 8) = true) (hfl : decide ((xfl [b0, b1]).length ≤ ml) = true) : Wx X (d + 1) M pc L (b1 :: b0 :: st) w Q = Cw X d M' [b0, b1] w (xcont X (d + 1) M pc' L st kind pc Q) := by
  subst hp'
  subst hml
  exact (w_invs [b0, b1] hq hd hac hc).trans (w_tr (of_decide_eq_true h8) (of_decide_eq_true hfl))
theorem w_invp2 {k kind M' a : Nat} {b0 b1 : Value} (hq : xMc M = cc) (hd : decode cc pc = .ok (.invokespecial k, 3)) (hp' : pc + 3 = pc') (hoi : xOi (xMo M) k = false) (hc : xCa (xMo M) k 98 = some (kind, M', 2)) {ml : Nat} (hml : xMl M' = ml) (hcl : (xcls (S.1 a)).isSome = true) (h8 : decide (xsum st ≤ 8) = true) (hfl : decide ((xfl [.ref a, b0, b1]).length ≤ ml) = true) : Wx X (d + 1) M pc L (b1 :: b0 :: .ref a :: st) (hp S g) Q = Cw X d M' [.ref a, b0, b1] (hp S g) (xcont X (d + 1) M pc' L st kind pc Q) := by
  subst hp'
  subst hml
  exact (w_invp [b0, b1] hq hd hoi hc hcl).trans (w_tr (of_decide_eq_true h8) (of_decide_eq_true hfl))
theorem w_invv2 {k kind M' a ci : Nat} {b0 b1 : Value} (hq : xMc M = cc) (hd : decode cc pc = .ok (.invokevirtual k, 3)) (hp' : pc + 3 = pc') (hn : xcn (xMo M) k = some 2) (hc : xCa (xMo M) k ci = some (kind, M', 2)) {ml : Nat} (hml : xMl M' = ml) (hcl : xcls (S.1 a) = some ci) (h8 : decide (xsum st ≤ 8) = true) (hfl : decide ((xfl [.ref a, b0, b1]).length ≤ ml) = true) : Wx X (d + 1) M pc L (b1 :: b0 :: .ref a :: st) (hp S g) Q = Cw X d M' [.ref a, b0, b1] (hp S g) (xcont X (d + 1) M pc' L st kind pc Q) := by
  subst hp'
  subst hml
  exact (w_invv [b0, b1] hq hd hn hc hcl).trans (w_tr (of_decide_eq_true h8) (of_decide_eq_true hfl))
theorem w_invs3 {k kind M' : Nat} {b0 b1 b2 : Value} (hq : xMc M = cc) (hd : decode cc pc = .ok (.invokestatic k, 3)) (hp' : pc + 3 = pc') (hac : xAc (xMo M) k = false) (hc : xCa (xMo M) k 99 = some (kind, M', 3)) {ml : Nat} (hml : xMl M' = ml) (h8 : decide (xsum st ≤ 8) = true) (hfl : decide ((xfl [b0, b1, b2]).length ≤ ml) = true) : Wx X (d + 1) M pc L (b2 :: b1 :: b0 :: st) w Q = Cw X d M' [b0, b1, b2] w (xcont X (d + 1) M pc' L st kind pc Q) := by
  subst hp'
  subst hml
  exact (w_invs [b0, b1, b2] hq hd hac hc).trans (w_tr (of_decide_eq_true h8) (of_decide_eq_true hfl))
theorem w_invp3 {k kind M' a : Nat} {b0 b1 b2 : Value} (hq : xMc M = cc) (hd : decode cc pc = .ok (.invokespecial k, 3)) (hp' : pc + 3 = pc') (hoi : xOi (xMo M) k = false) (hc : xCa (xMo M) k 98 = some (kind, M', 3)) {ml : Nat} (hml : xMl M' = ml) (hcl : (xcls (S.1 a)).isSome = true) (h8 : decide (xsum st ≤ 8) = true) (hfl : decide ((xfl [.ref a, b0, b1, b2]).length ≤ ml) = true) : Wx X (d + 1) M pc L (b2 :: b1 :: b0 :: .ref a :: st) (hp S g) Q = Cw X d M' [.ref a, b0, b1, b2] (hp S g) (xcont X (d + 1) M pc' L st kind pc Q) := by
  subst hp'
  subst hml
  exact (w_invp [b0, b1, b2] hq hd hoi hc hcl).trans (w_tr (of_decide_eq_true h8) (of_decide_eq_true hfl))
theorem w_invv3 {k kind M' a ci : Nat} {b0 b1 b2 : Value} (hq : xMc M = cc) (hd : decode cc pc = .ok (.invokevirtual k, 3)) (hp' : pc + 3 = pc') (hn : xcn (xMo M) k = some 3) (hc : xCa (xMo M) k ci = some (kind, M', 3)) {ml : Nat} (hml : xMl M' = ml) (hcl : xcls (S.1 a) = some ci) (h8 : decide (xsum st ≤ 8) = true) (hfl : decide ((xfl [.ref a, b0, b1, b2]).length ≤ ml) = true) : Wx X (d + 1) M pc L (b2 :: b1 :: b0 :: .ref a :: st) (hp S g) Q = Cw X d M' [.ref a, b0, b1, b2] (hp S g) (xcont X (d + 1) M pc' L st kind pc Q) := by
  subst hp'
  subst hml
  exact (w_invv [b0, b1, b2] hq hd hn hc hcl).trans (w_tr (of_decide_eq_true h8) (of_decide_eq_true hfl))
theorem w_invs4 {k kind M' : Nat} {b0 b1 b2 b3 : Value} (hq : xMc M = cc) (hd : decode cc pc = .ok (.invokestatic k, 3)) (hp' : pc + 3 = pc') (hac : xAc (xMo M) k = false) (hc : xCa (xMo M) k 99 = some (kind, M', 4)) {ml : Nat} (hml : xMl M' = ml) (h8 : decide (xsum st ≤ 8) = true) (hfl : decide ((xfl [b0, b1, b2, b3]).length ≤ ml) = true) : Wx X (d + 1) M pc L (b3 :: b2 :: b1 :: b0 :: st) w Q = Cw X d M' [b0, b1, b2, b3] w (xcont X (d + 1) M pc' L st kind pc Q) := by
  subst hp'
  subst hml
  exact (w_invs [b0, b1, b2, b3] hq hd hac hc).trans (w_tr (of_decide_eq_true h8) (of_decide_eq_true hfl))
theorem w_invp4 {k kind M' a : Nat} {b0 b1 b2 b3 : Value} (hq : xMc M = cc) (hd : decode cc pc = .ok (.invokespecial k, 3)) (hp' : pc + 3 = pc') (hoi : xOi (xMo M) k = false) (hc : xCa (xMo M) k 98 = some (kind, M', 4)) {ml : Nat} (hml : xMl M' = ml) (hcl : (xcls (S.1 a)).isSome = true) (h8 : decide (xsum st ≤ 8) = true) (hfl : decide ((xfl [.ref a, b0, b1, b2, b3]).length ≤ ml) = true) : Wx X (d + 1) M pc L (b3 :: b2 :: b1 :: b0 :: .ref a :: st) (hp S g) Q = Cw X d M' [.ref a, b0, b1, b2, b3] (hp S g) (xcont X (d + 1) M pc' L st kind pc Q) := by
  subst hp'
  subst hml
  exact (w_invp [b0, b1, b2, b3] hq hd hoi hc hcl).trans (w_tr (of_decide_eq_true h8) (of_decide_eq_true hfl))
theorem w_invv4 {k kind M' a ci : Nat} {b0 b1 b2 b3 : Value} (hq : xMc M = cc) (hd : decode cc pc = .ok (.invokevirtual k, 3)) (hp' : pc + 3 = pc') (hn : xcn (xMo M) k = some 4) (hc : xCa (xMo M) k ci = some (kind, M', 4)) {ml : Nat} (hml : xMl M' = ml) (hcl : xcls (S.1 a) = some ci) (h8 : decide (xsum st ≤ 8) = true) (hfl : decide ((xfl [.ref a, b0, b1, b2, b3]).length ≤ ml) = true) : Wx X (d + 1) M pc L (b3 :: b2 :: b1 :: b0 :: .ref a :: st) (hp S g) Q = Cw X d M' [.ref a, b0, b1, b2, b3] (hp S g) (xcont X (d + 1) M pc' L st kind pc Q) := by
  subst hp'
  subst hml
  exact (w_invv [b0, b1, b2, b3] hq hd hn hc hcl).trans (w_tr (of_decide_eq_true h8) (of_decide_eq_true hfl))
theorem w_invs5 {k kind M' : Nat} {b0 b1 b2 b3 b4 : Value} (hq : xMc M = cc) (hd : decode cc pc = .ok (.invokestatic k, 3)) (hp' : pc + 3 = pc') (hac : xAc (xMo M) k = false) (hc : xCa (xMo M) k 99 = some (kind, M', 5)) {ml : Nat} (hml : xMl M' = ml) (h8 : decide (xsum st ≤ 8) = true) (hfl : decide ((xfl [b0, b1, b2, b3, b4]).length ≤ ml) = true) : Wx X (d + 1) M pc L (b4 :: b3 :: b2 :: b1 :: b0 :: st) w Q = Cw X d M' [b0, b1, b2, b3, b4] w (xcont X (d + 1) M pc' L st kind pc Q) := by
  subst hp'
  subst hml
  exact (w_invs [b0, b1, b2, b3, b4] hq hd hac hc).trans (w_tr (of_decide_eq_true h8) (of_decide_eq_true hfl))
theorem w_invp5 {k kind M' a : Nat} {b0 b1 b2 b3 b4 : Value} (hq : xMc M = cc) (hd : decode cc pc = .ok (.invokespecial k, 3)) (hp' : pc + 3 = pc') (hoi : xOi (xMo M) k = false) (hc : xCa (xMo M) k 98 = some (kind, M', 5)) {ml : Nat} (hml : xMl M' = ml) (hcl : (xcls (S.1 a)).isSome = true) (h8 : decide (xsum st ≤ 8) = true) (hfl : decide ((xfl [.ref a, b0, b1, b2, b3, b4]).length ≤ ml) = true) : Wx X (d + 1) M pc L (b4 :: b3 :: b2 :: b1 :: b0 :: .ref a :: st) (hp S g) Q = Cw X d M' [.ref a, b0, b1, b2, b3, b4] (hp S g) (xcont X (d + 1) M pc' L st kind pc Q) := by
  subst hp'
  subst hml
  exact (w_invp [b0, b1, b2, b3, b4] hq hd hoi hc hcl).trans (w_tr (of_decide_eq_true h8) (of_decide_eq_true hfl))
theorem w_invv5 {k kind M' a ci : Nat} {b0 b1 b2 b3 b4 : Value} (hq : xMc M = cc) (hd : decode cc pc = .ok (.invokevirtual k, 3)) (hp' : pc + 3 = pc') (hn : xcn (xMo M) k = some 5) (hc : xCa (xMo M) k ci = some (kind, M', 5)) {ml : Nat} (hml : xMl M' = ml) (hcl : xcls (S.1 a) = some ci) (h8 : decide (xsum st ≤ 8) = true) (hfl : decide ((xfl [.ref a, b0, b1, b2, b3, b4]).length ≤ ml) = true) : Wx X (d + 1) M pc L (b4 :: b3 :: b2 :: b1 :: b0 :: .ref a :: st) (hp S g) Q = Cw X d M' [.ref a, b0, b1, b2, b3, b4] (hp S g) (xcont X (d + 1) M pc' L st kind pc Q) := by
  subst hp'
  subst hml
  exact (w_invv [b0, b1, b2, b3, b4] hq hd hn hc hcl).trans (w_tr (of_decide_eq_true h8) (of_decide_eq_true hfl))
theorem w_invs6 {k kind M' : Nat} {b0 b1 b2 b3 b4 b5 : Value} (hq : xMc M = cc) (hd : decode cc pc = .ok (.invokestatic k, 3)) (hp' : pc + 3 = pc') (hac : xAc (xMo M) k = false) (hc : xCa (xMo M) k 99 = some (kind, M', 6)) {ml : Nat} (hml : xMl M' = ml) (h8 : decide (xsum st ≤ 8) = true) (hfl : decide ((xfl [b0, b1, b2, b3, b4, b5]).length ≤ ml) = true) : Wx X (d + 1) M pc L (b5 :: b4 :: b3 :: b2 :: b1 :: b0 :: st) w Q = Cw X d M' [b0, b1, b2, b3, b4, b5] w (xcont X (d + 1) M pc' L st kind pc Q) := by
  subst hp'
  subst hml
  exact (w_invs [b0, b1, b2, b3, b4, b5] hq hd hac hc).trans (w_tr (of_decide_eq_true h8) (of_decide_eq_true hfl))
theorem w_invp6 {k kind M' a : Nat} {b0 b1 b2 b3 b4 b5 : Value} (hq : xMc M = cc) (hd : decode cc pc = .ok (.invokespecial k, 3)) (hp' : pc + 3 = pc') (hoi : xOi (xMo M) k = false) (hc : xCa (xMo M) k 98 = some (kind, M', 6)) {ml : Nat} (hml : xMl M' = ml) (hcl : (xcls (S.1 a)).isSome = true) (h8 : decide (xsum st ≤ 8) = true) (hfl : decide ((xfl [.ref a, b0, b1, b2, b3, b4, b5]).length ≤ ml) = true) : Wx X (d + 1) M pc L (b5 :: b4 :: b3 :: b2 :: b1 :: b0 :: .ref a :: st) (hp S g) Q = Cw X d M' [.ref a, b0, b1, b2, b3, b4, b5] (hp S g) (xcont X (d + 1) M pc' L st kind pc Q) := by
  subst hp'
  subst hml
  exact (w_invp [b0, b1, b2, b3, b4, b5] hq hd hoi hc hcl).trans (w_tr (of_decide_eq_true h8) (of_decide_eq_true hfl))
theorem w_invv6 {k kind M' a ci : Nat} {b0 b1 b2 b3 b4 b5 : Value} (hq : xMc M = cc) (hd : decode cc pc = .ok (.invokevirtual k, 3)) (hp' : pc + 3 = pc') (hn : xcn (xMo M) k = some 6) (hc : xCa (xMo M) k ci = some (kind, M', 6)) {ml : Nat} (hml : xMl M' = ml) (hcl : xcls (S.1 a) = some ci) (h8 : decide (xsum st ≤ 8) = true) (hfl : decide ((xfl [.ref a, b0, b1, b2, b3, b4, b5]).length ≤ ml) = true) : Wx X (d + 1) M pc L (b5 :: b4 :: b3 :: b2 :: b1 :: b0 :: .ref a :: st) (hp S g) Q = Cw X d M' [.ref a, b0, b1, b2, b3, b4, b5] (hp S g) (xcont X (d + 1) M pc' L st kind pc Q) := by
  subst hp'
  subst hml
  exact (w_invv [b0, b1, b2, b3, b4, b5] hq hd hn hc hcl).trans (w_tr (of_decide_eq_true h8) (of_decide_eq_true hfl))
end
