/-! Texts: shifts by 0, digits of the JDK, rows of bytes that are copied -/
section
variable {X : xX} {d M : Nat} {cc : ByteArray} {pc pc' : Nat} {L : xL} {st : List Value} {w : xH} {S : xLm} {g : xGm} {Q : xO → xH → Prop}
theorem w_ishl0 {x : Int} (hq : xMc M = cc) (hd : decode cc pc = .ok (.ishl, 1)) (hp' : pc + 1 = pc') : Wx X d M pc L (.int (iI 0) :: .int (iI x) :: st) w Q = Wx X d M pc' L (.int (iI x) :: st) w Q := by
  subst hp'
  refine Wx_step hq hd ?_
  have e : iI x <<< (iI 0 &&& 31) = iI x := by
    rw [show (iI 0 &&& 31 : Int32) = 0 from by decide]
    simp
  simp [xone, xk, xi2, e]
theorem xshr_0 (x : Int) : xshr x 0 = ti x := by
  unfold xshr ti
  rw [show (iI 0 &&& 31 : Int32) = 0 from by decide]
  simp
theorem w_gst1 {k : Nat} (hq : xMc M = cc) (hd : decode cc pc = .ok (.getstatic k, 3)) (hp' : pc + 3 = pc') (hs : xSg (xMo M) k = some 1) : Wx X d M pc L st w Q = Wx X d M pc' L (.retAddr 1 :: st) w Q := by
  subst hp'
  exact Wx_step hq hd (by simp [xone, hs, xk])
theorem w_gst2 {k : Nat} (hq : xMc M = cc) (hd : decode cc pc = .ok (.getstatic k, 3)) (hp' : pc + 3 = pc') (hs : xSg (xMo M) k = some 2) : Wx X d M pc L st w Q = Wx X d M pc' L (.retAddr 2 :: st) w Q := by
  subst hp'
  exact Wx_step hq hd (by simp [xone, hs, xk])
theorem fit_b {z : Int} (h : -128 ≤ z ∧ z ≤ 127) : fits .byte (.int (iI z)) = true := by
  show (decide ((-128 : Int32) ≤ iI z) && decide (iI z ≤ 127)) = true
  rw [Bool.and_eq_true, decide_eq_true_eq, decide_eq_true_eq, show (-128 : Int32) = iI (-128) from by decide, show (127 : Int32) = iI 127 from by decide, iI_le, iI_le, ti_eq (z := z) (by omega) (by omega), ti_eq (z := -128) (by decide) (by decide), ti_eq (z := 127) (by decide) (by decide)]
  exact h
theorem cl_nat {z : Int} (h : 0 ≤ z) (h2 : z < 2147483648) : (iI z).toNatClampNeg = z.toNat := by
  have := iI_clamp z
  rw [ti_eq (by omega) h2, if_neg (by omega)] at this
  omega
theorem ng_not {z : Int} (h : 0 ≤ z) (h2 : z < 2147483648) : (!(decide (iI z < 0))) = true := by
  rw [Bool.not_eq_true', decide_eq_false_iff_not, show (0 : Int32) = iI 0 from rfl, iI_lt, ti_eq (z := z) (by omega) h2, ti_eq (z := 0) (by decide) (by decide)]
  omega
theorem w_acp {k : Nat} {w' : xH} {st0 : List Value} (hq : xMc M = cc) (hd : decode cc pc = .ok (.invokestatic k, 3)) (hp' : pc + 3 = pc') (hac : xAc (xMo M) k = true) (hc : xcp w st0 = some (st, w')) (h8 : decide (xsum st ≤ 8) = true) : Wx X (d + 1) M pc L st0 w Q = Wx X (d + 1) M pc' L st w' Q := by
  subst hp'
  refine Eq.trans ?_ (w_tr1 (of_decide_eq_true h8))
  rw [Wx_ctl hq hd rfl]
  have h : ∀ n, xctl (xexec X n) (d + 1) M (xMo M) (xMc M) pc L st0 w (.invokestatic k) 3 = xk (decide (xsum st ≤ 8)) (xexec X n (d + 1) M (xMo M) (xMc M) (pc + 3) L st w') := by
    intro n
    simp only [xctl, hac, hc, xk, beq_self_eq_true, if_true, Nat.zero_lt_succ, decide_true, Bool.and_true]
  simp only [h]
  apply propext
  constructor
  · rintro ⟨n, out, wf, h1, h2⟩
    obtain ⟨h3, h4⟩ := xk_some.mp h1
    exact ⟨of_decide_eq_true h3, n, out, wf, h4, h2⟩
  · rintro ⟨h3, n, out, wf, h4, h2⟩
    exact ⟨n, out, wf, xk_some.mpr ⟨decide_eq_true h3, h4⟩, h2⟩
theorem xcp_B {n dp sp : Int} {a b N0 N1 : Nat} (hb : S.1 b = .inl (3, N0)) (ha : S.1 a = .inl (3, N1)) (hs : 0 ≤ sp) (hd0 : 0 ≤ dp) (hn : 0 ≤ n) (h1 : sp + n ≤ N0) (h2 : dp + n ≤ N1) (h3 : N0 ≤ 20000) (h4 : N1 ≤ 20000) (hr : ∀ i, sp ≤ i → i < sp + n → -128 ≤ g b i ∧ g b i ≤ 127) :
    xcp (hp S g) (.int (iI n) :: .int (iI dp) :: .ref a :: .int (iI sp) :: .ref b :: st) = some (st, hp S (gr g a (fun j => if dp ≤ j ∧ j < dp + n then g b (sp + (j - dp)) else g a j))) := by
  have xb : xat (hp S g) b = .inl (3, N0, .inl (fun j : Nat => iI (g b j))) := by show xem (S.1 b) (g b) = _; rw [hb]; rfl
  have xa : xat (hp S g) a = .inl (3, N1, .inl (fun j : Nat => iI (g a j))) := by show xem (S.1 a) (g a) = _; rw [ha]; rfl
  simp only [xcp, xb, xa]
  rw [cl_nat hs (by omega), cl_nat hd0 (by omega), cl_nat hn (by omega)]
  refine xk_some.mpr ⟨?_, ?_⟩
  · rw [ng_not hs (by omega), ng_not hd0 (by omega), ng_not hn (by omega), decide_eq_true (show sp.toNat + n.toNat ≤ N0 by omega), decide_eq_true (show dp.toNat + n.toNat ≤ N1 by omega)]
    rw [decide_eq_true (fun i hi => fit_b (hr _ (by omega) (by omega)))]
    rfl
  · have e : (Sum.inl (3, N1, Sum.inl (va_cpy (fun j : Nat => iI (g b j)) (fun j : Nat => iI (g a j)) sp.toNat dp.toNat n.toNat)) : xE) = xem (.inl (3, N1)) (fun j => if dp ≤ j ∧ j < dp + n then g b (sp + (j - dp)) else g a j) := by
      show _ = Sum.inl (3, N1, Sum.inl (fun j : Nat => iI (if dp ≤ (j : Int) ∧ (j : Int) < dp + n then g b (sp + ((j : Int) - dp)) else g a j)))
      congr 4
      funext j
      by_cases h : dp ≤ (j : Int) ∧ (j : Int) < dp + n
      · rw [pk_cpy_in (by omega) (by omega), if_pos h]
        congr 2
        omega
      · rw [pk_cpy_out (by omega), if_neg h]
    rw [e, hp_pt S g a _ _ ha]
    rfl
theorem xcp_S {n dp sp : Int} {a k N1 : Nat} (hk : xob k = true) (ha : S.1 a = .inl (3, N1)) (hs : 0 ≤ sp) (hd0 : 0 ≤ dp) (hn : 0 ≤ n) (h1 : sp + n ≤ xbl k) (h2 : dp + n ≤ N1) (h3 : xbl k ≤ 20000) (h4 : N1 ≤ 20000) (hr : ∀ i, sp ≤ i → i < sp + n → -128 ≤ bcS k i ∧ bcS k i ≤ 127) :
    xcp (hp S g) (.int (iI n) :: .int (iI dp) :: .ref a :: .int (iI sp) :: .retAddr k :: st) = some (st, hp S (gr g a (fun j => if dp ≤ j ∧ j < dp + n then bcS k (sp + (j - dp)) else g a j))) := by
  have xa : xat (hp S g) a = .inl (3, N1, .inl (fun j : Nat => iI (g a j))) := by show xem (S.1 a) (g a) = _; rw [ha]; rfl
  simp only [xcp, xa]
  rw [cl_nat hs (by omega), cl_nat hd0 (by omega), cl_nat hn (by omega)]
  refine xk_some.mpr ⟨?_, ?_⟩
  · rw [hk, ng_not hs (by omega), ng_not hd0 (by omega), ng_not hn (by omega), decide_eq_true (show sp.toNat + n.toNat ≤ xbl k by omega), decide_eq_true (show dp.toNat + n.toNat ≤ N1 by omega)]
    rw [decide_eq_true (fun i hi => by
      have h := fit_b (hr (sp + i) (by omega) (by omega))
      unfold bcS at h
      rw [iI_of] at h
      have e : (sp + (i : Int)).toNat = sp.toNat + i := by omega
      rw [e] at h
      exact h)]
    rfl
  · have e : (Sum.inl (3, N1, Sum.inl (va_cpy (xby k) (fun j : Nat => iI (g a j)) sp.toNat dp.toNat n.toNat)) : xE) = xem (.inl (3, N1)) (fun j => if dp ≤ j ∧ j < dp + n then bcS k (sp + (j - dp)) else g a j) := by
      show _ = Sum.inl (3, N1, Sum.inl (fun j : Nat => iI (if dp ≤ (j : Int) ∧ (j : Int) < dp + n then bcS k (sp + ((j : Int) - dp)) else g a j)))
      congr 4
      funext j
      by_cases h : dp ≤ (j : Int) ∧ (j : Int) < dp + n
      · rw [pk_cpy_in (by omega) (by omega), if_pos h]
        unfold bcS
        rw [iI_of]
        congr 1
        omega
      · rw [pk_cpy_out (by omega), if_neg h]
    rw [e, hp_pt S g a _ _ ha]
    rfl
end
