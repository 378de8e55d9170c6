/-! Strings that stand in the code -/
section
variable {X : xX} {d M : Nat} {cc : ByteArray} {pc pc' : Nat} {L : xL} {st : List Value} {w : xH} {S : xLm} {g : xGm} {Q : xO → xH → Prop}
theorem w_getSv {k j : Nat} (hq : xMc M = cc) (hd : decode cc pc = .ok (.getfield k, 3)) (hp' : pc + 3 = pc') (hf : xFd (xMo M) k = some (0, 0)) (hs : xos j = true) : Wx X d M pc L (.retAddr j :: st) w Q = Wx X d M pc' L (.retAddr (j + 1) :: st) w Q := by
  subst hp'
  exact Wx_step hq hd (by simp [xone, xgf, hf, xk, hs])
theorem w_getSc {k j : Nat} (hq : xMc M = cc) (hd : decode cc pc = .ok (.getfield k, 3)) (hp' : pc + 3 = pc') (hf : xFd (xMo M) k = some (0, 1)) (hs : xos j = true) : Wx X d M pc L (.retAddr j :: st) w Q = Wx X d M pc' L (.int (iI 0) :: st) w Q := by
  subst hp'
  exact Wx_step hq hd (by simp [xone, xgf, hf, xk, hs]; rfl)
theorem w_alenS {k : Nat} (hq : xMc M = cc) (hd : decode cc pc = .ok (.arraylength, 1)) (hp' : pc + 1 = pc') (hs : xob (k + 1) = true) : Wx X d M pc L (.retAddr (k + 1) :: st) w Q = Wx X d M pc' L (.int (iI (xbl (k + 1) : Nat)) :: st) w Q := by
  subst hp'
  exact Wx_step hq hd (by simp [xone, xln, xk, hs]; rfl)
def bcS (k : Nat) (i : Int) : Int := (xby k i.toNat).toInt
theorem w_baloadS {k : Nat} {i : Int} (hq : xMc M = cc) (hd : decode cc pc = .ok (.baload, 1)) (hp' : pc + 1 = pc') (hs : xob k = true) : Wx X d M pc L (.int (iI i) :: .retAddr k :: st) w Q = ((0 ≤ ti i ∧ ti i < xbl k) ∧ Wx X d M pc' L (.int (iI (bcS k (ti i))) :: st) w Q) := by
  subst hp'
  have hx := xin_iff i (xbl k)
  have hcl : (iI i).toNatClampNeg = (ti i).toNat := rfl
  by_cases h : 0 ≤ ti i ∧ ti i < xbl k
  · rw [w_tr1 h]
    exact Wx_step hq hd (by simp [xone, xbld, xk, hs, hx.mpr h, hcl]; unfold bcS; rw [iI_of])
  · rw [Wx_no hq hd (by
      have : xin (iI i) (xbl k) = false := by
        cases e : xin (iI i) (xbl k) with
        | false => rfl
        | true => exact absurd (hx.mp e) h
      simp [xone, xbld, xk, hs, this]) (fun rec => rfl)]
    simp [h]
theorem w_gst0 {k : Nat} (hq : xMc M = cc) (hd : decode cc pc = .ok (.getstatic k, 3)) (hp' : pc + 3 = pc') (hs : xSg (xMo M) k = some 0) : Wx X d M pc L st w Q = Wx X d M pc' L (.int (iI 1) :: st) w Q := by
  subst hp'
  exact Wx_step hq hd (by simp [xone, hs, xk]; rfl)
theorem w_gst3 {k : Nat} (hq : xMc M = cc) (hd : decode cc pc = .ok (.getstatic k, 3)) (hp' : pc + 3 = pc') (hs : xSg (xMo M) k = some 3) : Wx X d M pc L st w Q = Wx X d M pc' L ((if X.2.2 = true then .null else .retAddr 3) :: st) w Q := by
  subst hp'
  exact Wx_step hq hd (by simp [xone, hs, xk])
theorem w_invr {k kind M' a : Nat} (As : List Value) (hq : xMc M = cc) (hd : decode cc pc = .ok (.invokevirtual k, 3)) (hn : xcn (xMo M) k = some As.length) (hc : xCa (xMo M) k 0 = some (kind, M', As.length)) (hs : xos a = true) :
    Wx X (d + 1) M pc L (As.reverse ++ .retAddr a :: st) w Q = ((xsum st ≤ 8 ∧ (xfl (.retAddr a :: As)).length ≤ xMl M') ∧ Cw X d M' (.retAddr a :: As) w (xcont X (d + 1) M (pc + 3) L st kind pc Q)) := by
  rw [Wx_ctl hq hd rfl, ← xcall_eq]
  have hrc : xrc w (.retAddr a) = some 0 := by
    show (if xos a = true then some 0 else none) = some 0
    rw [if_pos hs]
  have hst : (As.reverse ++ .retAddr a :: st)[As.length]? = some (.retAddr a) := by
    rw [List.getElem?_append_right (by simp)]
    simp
  have h2 := xtk (st := As.reverse ++ .retAddr a :: st) hst
  have h3 : ((As.reverse ++ .retAddr a :: st).take As.length).reverse = As := (xtk_rev As _).1
  have h4 : (As.reverse ++ .retAddr a :: st).drop (As.length + 1) = st := by
    rw [show As.length + 1 = (As.reverse ++ [Value.retAddr a]).length by simp, show As.reverse ++ .retAddr a :: st = (As.reverse ++ [Value.retAddr a]) ++ st by simp, List.drop_left]
  have h : ∀ n, xctl (xexec X n) (d + 1) M (xMo M) (xMc M) pc L (As.reverse ++ .retAddr a :: st) w (.invokevirtual k) 3 = xcall (xexec X n) (d + 1) M (xMo M) (xMc M) pc L st (.retAddr a :: As) w kind M' := by
    intro n
    simp only [xctl, hn, hc, xk, beq_self_eq_true, if_true, hst, hrc]
    rw [h2.1, h3, h4]
  simp only [h]
theorem w_invr0 {k kind M' a : Nat} (hq : xMc M = cc) (hd : decode cc pc = .ok (.invokevirtual k, 3)) (hp' : pc + 3 = pc') (hn : xcn (xMo M) k = some 0) (hc : xCa (xMo M) k 0 = some (kind, M', 0)) {ml : Nat} (hml : xMl M' = ml) (hs : xos a = true) (h8 : decide (xsum st ≤ 8) = true) (hfl : decide ((xfl [.retAddr a]).length ≤ ml) = true) : Wx X (d + 1) M pc L (.retAddr a :: st) w Q = Cw X d M' [.retAddr a] w (xcont X (d + 1) M pc' L st kind pc Q) := by
  subst hp'
  subst hml
  exact (w_invr [] hq hd hn hc hs).trans (w_tr (of_decide_eq_true h8) (of_decide_eq_true hfl))
theorem w_invr1 {k kind M' a : Nat} {b0 : Value} (hq : xMc M = cc) (hd : decode cc pc = .ok (.invokevirtual k, 3)) (hp' : pc + 3 = pc') (hn : xcn (xMo M) k = some 1) (hc : xCa (xMo M) k 0 = some (kind, M', 1)) {ml : Nat} (hml : xMl M' = ml) (hs : xos a = true) (h8 : decide (xsum st ≤ 8) = true) (hfl : decide ((xfl [.retAddr a, b0]).length ≤ ml) = true) : Wx X (d + 1) M pc L (b0 :: .retAddr a :: st) w Q = Cw X d M' [.retAddr a, b0] w (xcont X (d + 1) M pc' L st kind pc Q) := by
  subst hp'
  subst hml
  exact (w_invr [b0] hq hd hn hc hs).trans (w_tr (of_decide_eq_true h8) (of_decide_eq_true hfl))
theorem w_alenB {a : Nat} (hq : xMc M = cc) (hd : decode cc pc = .ok (.arraylength, 1)) (hp' : pc + 1 = pc') (hk : xak (S.1 a) = some 3) :
    Wx X d M pc L (.ref a :: st) (hp S g) Q = Wx X d M pc' L (.int (iI (xan (S.1 a))) :: st) (hp S g) Q := by
  subst hp'
  refine Wx_step hq hd ?_
  have hx : xat (hp S g) a = xem (S.1 a) (g a) := rfl
  cases hs : S.1 a with
  | inl z =>
    obtain ⟨k, n⟩ := z
    rw [hs] at hk
    have : k = 3 := Option.some.inj hk
    subst this
    rw [hs] at hx
    simp [xone, xln, hx, xem, xk, xan]
    rfl
  | inr z => rw [hs] at hk; cases hk
set_option maxRecDepth 100000 in
theorem q399 : xMc 399 = prog_23_method_54_code := rfl
theorem m399 : xMl 399 = 1 ∧ xMret 399 = (some FieldType.int) ∧ xMh 399 = [] := by decide +kernel
theorem e399 {X : xX} {d : Nat} {w : xH} {Q : xO → xH → Prop} (a : Nat) : Cw X d 399 [.ref a] w Q = Wx X d 399 0 [some (.ref a)] [] w Q := by
  unfold Cw
  rw [m399.1]
  rfl
theorem d399_0 : decode prog_23_method_54_code 0 = .ok (.aload_n 0, 1) := by decide +kernel
theorem d399_1 : decode prog_23_method_54_code 1 = .ok (.getfield 9, 3) := by decide +kernel
theorem f399_9 : xFd (xMo 399) 9 = some (0, 0) := by decide +kernel
theorem d399_4 : decode prog_23_method_54_code 4 = .ok (.arraylength, 1) := by decide +kernel
theorem d399_5 : decode prog_23_method_54_code 5 = .ok (.aload_n 0, 1) := by decide +kernel
theorem d399_6 : decode prog_23_method_54_code 6 = .ok (.invokevirtual 335, 3) := by decide +kernel
theorem k399_335_0 : xCa (xMo 399) 335 0 = some (1, 401, 0) := by decide +kernel
theorem n399_335 : xcn (xMo 399) 335 = some 0 := by decide +kernel
theorem d399_9 : decode prog_23_method_54_code 9 = .ok (.ishr, 1) := by decide +kernel
theorem d399_10 : decode prog_23_method_54_code 10 = .ok (.ireturn, 1) := by decide +kernel
set_option maxRecDepth 100000 in
theorem q400 : xMc 400 = prog_23_method_56_code := rfl
theorem m400 : xMl 400 = 2 ∧ xMret 400 = (some FieldType.char) ∧ xMh 400 = [] := by decide +kernel
theorem e400 {X : xX} {d : Nat} {w : xH} {Q : xO → xH → Prop} (a : Nat) (x0 : Int32) : Cw X d 400 [.ref a, .int x0] w Q = Wx X d 400 0 [some (.ref a), some (.int x0)] [] w Q := by
  unfold Cw
  rw [m400.1]
  rfl
theorem d400_0 : decode prog_23_method_56_code 0 = .ok (.aload_n 0, 1) := by decide +kernel
theorem d400_1 : decode prog_23_method_56_code 1 = .ok (.invokevirtual 492, 3) := by decide +kernel
theorem k400_492_0 : xCa (xMo 400) 492 0 = some (1, 402, 0) := by decide +kernel
theorem n400_492 : xcn (xMo 400) 492 = some 0 := by decide +kernel
theorem d400_4 : decode prog_23_method_56_code 4 = .ok (.ifCond .eq 12, 3) := by decide +kernel
theorem d400_7 : decode prog_23_method_56_code 7 = .ok (.aload_n 0, 1) := by decide +kernel
theorem d400_8 : decode prog_23_method_56_code 8 = .ok (.getfield 9, 3) := by decide +kernel
theorem f400_9 : xFd (xMo 400) 9 = some (0, 0) := by decide +kernel
theorem d400_11 : decode prog_23_method_56_code 11 = .ok (.iload_n 1, 1) := by decide +kernel
theorem d400_12 : decode prog_23_method_56_code 12 = .ok (.invokestatic 495, 3) := by decide +kernel
theorem k400_495_99 : xCa (xMo 400) 495 99 = some (0, 406, 2) := by decide +kernel
theorem d400_15 : decode prog_23_method_56_code 15 = .ok (.ireturn, 1) := by decide +kernel
theorem d400_16 : decode prog_23_method_56_code 16 = .ok (.aload_n 0, 1) := by decide +kernel
theorem d400_17 : decode prog_23_method_56_code 17 = .ok (.getfield 9, 3) := by decide +kernel
theorem d400_20 : decode prog_23_method_56_code 20 = .ok (.iload_n 1, 1) := by decide +kernel
theorem d400_21 : decode prog_23_method_56_code 21 = .ok (.invokestatic 498, 3) := by decide +kernel
theorem d400_24 : decode prog_23_method_56_code 24 = .ok (.ireturn, 1) := by decide +kernel
set_option maxRecDepth 100000 in
theorem q401 : xMc 401 = prog_23_method_152_code := rfl
theorem m401 : xMl 401 = 1 ∧ xMret 401 = (some FieldType.byte) ∧ xMh 401 = [] := by decide +kernel
theorem e401 {X : xX} {d : Nat} {w : xH} {Q : xO → xH → Prop} (a : Nat) : Cw X d 401 [.ref a] w Q = Wx X d 401 0 [some (.ref a)] [] w Q := by
  unfold Cw
  rw [m401.1]
  rfl
theorem d401_0 : decode prog_23_method_152_code 0 = .ok (.getstatic 38, 3) := by decide +kernel
theorem d401_3 : decode prog_23_method_152_code 3 = .ok (.ifCond .eq 10, 3) := by decide +kernel
theorem d401_6 : decode prog_23_method_152_code 6 = .ok (.aload_n 0, 1) := by decide +kernel
theorem d401_7 : decode prog_23_method_152_code 7 = .ok (.getfield 15, 3) := by decide +kernel
theorem f401_15 : xFd (xMo 401) 15 = some (0, 1) := by decide +kernel
theorem d401_10 : decode prog_23_method_152_code 10 = .ok (.goto 4, 3) := by decide +kernel
theorem d401_13 : decode prog_23_method_152_code 13 = .ok (.iconst 1, 1) := by decide +kernel
theorem d401_14 : decode prog_23_method_152_code 14 = .ok (.ireturn, 1) := by decide +kernel
set_option maxRecDepth 100000 in
theorem q402 : xMc 402 = prog_23_method_154_code := rfl
theorem m402 : xMl 402 = 1 ∧ xMret 402 = (some FieldType.boolean) ∧ xMh 402 = [] := by decide +kernel
theorem e402 {X : xX} {d : Nat} {w : xH} {Q : xO → xH → Prop} (a : Nat) : Cw X d 402 [.ref a] w Q = Wx X d 402 0 [some (.ref a)] [] w Q := by
  unfold Cw
  rw [m402.1]
  rfl
theorem d402_0 : decode prog_23_method_154_code 0 = .ok (.getstatic 38, 3) := by decide +kernel
theorem d402_3 : decode prog_23_method_154_code 3 = .ok (.ifCond .eq 14, 3) := by decide +kernel
theorem d402_6 : decode prog_23_method_154_code 6 = .ok (.aload_n 0, 1) := by decide +kernel
theorem d402_7 : decode prog_23_method_154_code 7 = .ok (.getfield 15, 3) := by decide +kernel
theorem f402_15 : xFd (xMo 402) 15 = some (0, 1) := by decide +kernel
theorem d402_10 : decode prog_23_method_154_code 10 = .ok (.ifCond .ne 7, 3) := by decide +kernel
theorem d402_13 : decode prog_23_method_154_code 13 = .ok (.iconst 1, 1) := by decide +kernel
theorem d402_14 : decode prog_23_method_154_code 14 = .ok (.goto 4, 3) := by decide +kernel
theorem d402_17 : decode prog_23_method_154_code 17 = .ok (.iconst 0, 1) := by decide +kernel
theorem d402_18 : decode prog_23_method_154_code 18 = .ok (.ireturn, 1) := by decide +kernel
set_option maxRecDepth 100000 in
theorem q403 : xMc 403 = prog_23_method_155_code := rfl
theorem m403 : xMl 403 = 2 ∧ xMret 403 = none ∧ xMh 403 = [] := by decide +kernel
theorem e403 {X : xX} {d : Nat} {w : xH} {Q : xO → xH → Prop} (x0 : Int32) (x1 : Int32) : Cw X d 403 [.int x0, .int x1] w Q = Wx X d 403 0 [some (.int x0), some (.int x1)] [] w Q := by
  unfold Cw
  rw [m403.1]
  rfl
theorem d403_0 : decode prog_23_method_155_code 0 = .ok (.iload_n 0, 1) := by decide +kernel
theorem d403_1 : decode prog_23_method_155_code 1 = .ok (.iload_n 1, 1) := by decide +kernel
theorem d403_2 : decode prog_23_method_155_code 2 = .ok (.getstatic 1053, 3) := by decide +kernel
theorem d403_5 : decode prog_23_method_155_code 5 = .ok (.invokestatic 1059, 3) := by decide +kernel
theorem k403_1059_99 : xCa (xMo 403) 1059 99 = some (0, 416, 3) := by decide +kernel
theorem d403_8 : decode prog_23_method_155_code 8 = .ok (.pop, 1) := by decide +kernel
theorem d403_9 : decode prog_23_method_155_code 9 = .ok (.return_, 1) := by decide +kernel
set_option maxRecDepth 100000 in
theorem q406 : xMc 406 = prog_25_method_2_code := rfl
theorem m406 : xMl 406 = 2 ∧ xMret 406 = (some FieldType.char) ∧ xMh 406 = [] := by decide +kernel
theorem e406 {X : xX} {d : Nat} {w : xH} {Q : xO → xH → Prop} (x0 : Nat) (x1 : Int32) : Cw X d 406 [.ref x0, .int x1] w Q = Wx X d 406 0 [some (.ref x0), some (.int x1)] [] w Q := by
  unfold Cw
  rw [m406.1]
  rfl
theorem d406_0 : decode prog_25_method_2_code 0 = .ok (.iload_n 1, 1) := by decide +kernel
theorem d406_1 : decode prog_25_method_2_code 1 = .ok (.aload_n 0, 1) := by decide +kernel
theorem d406_2 : decode prog_25_method_2_code 2 = .ok (.arraylength, 1) := by decide +kernel
theorem d406_3 : decode prog_25_method_2_code 3 = .ok (.invokestatic 9, 3) := by decide +kernel
theorem k406_9_99 : xCa (xMo 406) 9 99 = some (0, 403, 2) := by decide +kernel
theorem d406_6 : decode prog_25_method_2_code 6 = .ok (.aload_n 0, 1) := by decide +kernel
theorem d406_7 : decode prog_25_method_2_code 7 = .ok (.iload_n 1, 1) := by decide +kernel
theorem d406_8 : decode prog_25_method_2_code 8 = .ok (.baload, 1) := by decide +kernel
theorem d406_9 : decode prog_25_method_2_code 9 = .ok (.sipush 255, 3) := by decide +kernel
theorem d406_12 : decode prog_25_method_2_code 12 = .ok (.iand, 1) := by decide +kernel
theorem d406_13 : decode prog_25_method_2_code 13 = .ok (.i2c, 1) := by decide +kernel
theorem d406_14 : decode prog_25_method_2_code 14 = .ok (.ireturn, 1) := by decide +kernel
set_option maxRecDepth 100000 in
theorem q416 : xMc 416 = prog_31_method_11_code := rfl
theorem m416 : xMl 416 = 3 ∧ xMret 416 = (some FieldType.int) ∧ xMh 416 = [] := by decide +kernel
theorem e416 {X : xX} {d : Nat} {w : xH} {Q : xO → xH → Prop} (x0 : Int32) (x1 : Int32) (x2 : Nat) : Cw X d 416 [.int x0, .int x1, .ref x2] w Q = Wx X d 416 0 [some (.int x0), some (.int x1), some (.ref x2)] [] w Q := by
  unfold Cw
  rw [m416.1]
  rfl
theorem d416_0 : decode prog_31_method_11_code 0 = .ok (.iload_n 0, 1) := by decide +kernel
theorem d416_1 : decode prog_31_method_11_code 1 = .ok (.ifCond .lt 8, 3) := by decide +kernel
theorem d416_4 : decode prog_31_method_11_code 4 = .ok (.iload_n 0, 1) := by decide +kernel
theorem d416_5 : decode prog_31_method_11_code 5 = .ok (.iload_n 1, 1) := by decide +kernel
theorem d416_6 : decode prog_31_method_11_code 6 = .ok (.if_icmp .lt 10, 3) := by decide +kernel
theorem d416_9 : decode prog_31_method_11_code 9 = .ok (.aload_n 2, 1) := by decide +kernel
theorem d416_10 : decode prog_31_method_11_code 10 = .ok (.iload_n 0, 1) := by decide +kernel
theorem d416_11 : decode prog_31_method_11_code 11 = .ok (.iload_n 1, 1) := by decide +kernel
theorem d416_12 : decode prog_31_method_11_code 12 = .ok (.invokestatic 95, 3) := by decide +kernel
theorem d416_15 : decode prog_31_method_11_code 15 = .ok (.athrow, 1) := by decide +kernel
theorem d416_16 : decode prog_31_method_11_code 16 = .ok (.iload_n 0, 1) := by decide +kernel
theorem d416_17 : decode prog_31_method_11_code 17 = .ok (.ireturn, 1) := by decide +kernel

theorem e416n (a b : Int32) : Cw X d 416 [.int a, .int b, .null] w Q = Wx X d 416 0 [some (.int a), some (.int b), some .null] [] w Q := by
  unfold Cw
  rw [m416.1]
  rfl
theorem e416r (a b : Int32) (k : Nat) : Cw X d 416 [.int a, .int b, .retAddr k] w Q = Wx X d 416 0 [some (.int a), some (.int b), some (.retAddr k)] [] w Q := by
  unfold Cw
  rw [m416.1]
  rfl
theorem c_checkIndex {i n : Int} {v : Value} (hv : v = .null ∨ v = .retAddr 3) (h1 : 0 ≤ ti i) (h2 : ti i < ti n) : Cw X d 416 [.int (iI i), .int (iI n), v] w Q = Q (.inl (some (.int (iI i)))) w := by
  have h1' : ¬ ti i < 0 := by omega
  rcases hv with e | e
  · subst e
    rw [e416n]
    simp (config := { decide := true }) only [w_iload_n0 (pc' := 1) q416 d416_0 rfl, w_if_lt (tg := 9) (pc' := 4) q416 d416_1 (by decide) rfl, w_iload_n0 (pc' := 5) q416 d416_4 rfl, w_iload_n1 (pc' := 6) q416 d416_5 rfl, w_icmp_lt (tg := 16) (pc' := 9) q416 d416_6 (by decide) rfl, w_iload_n0 (pc' := 17) q416 d416_16 rfl, w_ireturn q416 d416_17 m416.2.1, gs_off, gs_off0, gs_0off, gs_2, xN_0, xN_2, xN_3, xN_6, xN_7, xN_8, xN_9, xN_10, xN_11, xN_12, xN_13, xN_14, xN_15, xN_16, xN_17, xN_18, xN_19, xN_20, xN_21, xN_22, xN_23, xN_24, xN_25, xN_26, xN_27, xN_28, xN_29, xN_30, xN_31, xN_32, xN_33, xN_34, xN_35, xN_36, xN_37, xN_38, xN_39, xN_40, xN_41, xN_42, xN_43, xN_44, xN_45, xN_46, xN_47, xN_48, xN_49, xN_50, xN_51, xN_52, xN_53, xN_54, xN_55, ti_0, ti_1, ti_2, ti_3, ti_4, ti_5, ti_6, ti_7, ti_8, ti_9, ti_10, ti_16, ti_19, ti_20, ti_29, ti_30, ti_31, ti_32, ti_35, ti_36, ti_38, ti_39, ti_40, ti_41, ti_42, ti_43, ti_44, ti_45, ti_46, ti_47, ti_48, ti_49, ti_50, ti_51, ti_52, ti_53, ti_54, ti_55, ti_56, ti_57, ti_58, ti_59, ti_60, ti_61, ti_62, ti_63, ti_64, ti_65, ti_74, ti_77, ti_126, ti_200, ti_201, ti_202, ti_203, ti_204, ti_205, ti_210, ti_255, ti_256, ti_400, ti_512, ti_600, ti_601, ti_602, ti_1000, ti_1023, ti_1024, ti_2000, ti_10000, ti_12602, ti_999999, ti_m999999, ti_m1, ti_2000000, ti_3000000, xN_1, xN_4, xN_5, xN_60, xN_61, xN_64, xN_200, xN_800, xN_12000, xN_12602, eq_self, and_self, and_true, true_and, if_true, if_false, decide_true, Nat.reduceLeDiff, xc2_int, xc2_ref, xc2_ra, xc2_null, xc2_long, xc2_none, xisaT_ref, xisaT_ra, xisaT_null, xc1T_int, xc1T_ref, xc1T_ra, xc1T_null, xsum_nil, xsum_int, xsum_ref, xsum_ra, xsum_long, xsum_double, xsum_null, xfl_nil, xfl_int, xfl_ref, xfl_ra, xfl_null, xfl_long, xfl_double, List.length_cons, List.length_nil, h1', h2, xfk, xfv, xak, xan, xcls, xsv', List.getElem?_cons_zero, List.getElem?_cons_succ, List.getD_cons_zero, List.getD_cons_succ, Option.getD_some, Option.isSome_some, if_true, if_pos, xcont, Option.toList_none, Option.toList_some, List.nil_append, List.cons_append]
  · subst e
    rw [e416r]
    simp (config := { decide := true }) only [w_iload_n0 (pc' := 1) q416 d416_0 rfl, w_if_lt (tg := 9) (pc' := 4) q416 d416_1 (by decide) rfl, w_iload_n0 (pc' := 5) q416 d416_4 rfl, w_iload_n1 (pc' := 6) q416 d416_5 rfl, w_icmp_lt (tg := 16) (pc' := 9) q416 d416_6 (by decide) rfl, w_iload_n0 (pc' := 17) q416 d416_16 rfl, w_ireturn q416 d416_17 m416.2.1, gs_off, gs_off0, gs_0off, gs_2, xN_0, xN_2, xN_3, xN_6, xN_7, xN_8, xN_9, xN_10, xN_11, xN_12, xN_13, xN_14, xN_15, xN_16, xN_17, xN_18, xN_19, xN_20, xN_21, xN_22, xN_23, xN_24, xN_25, xN_26, xN_27, xN_28, xN_29, xN_30, xN_31, xN_32, xN_33, xN_34, xN_35, xN_36, xN_37, xN_38, xN_39, xN_40, xN_41, xN_42, xN_43, xN_44, xN_45, xN_46, xN_47, xN_48, xN_49, xN_50, xN_51, xN_52, xN_53, xN_54, xN_55, ti_0, ti_1, ti_2, ti_3, ti_4, ti_5, ti_6, ti_7, ti_8, ti_9, ti_10, ti_16, ti_19, ti_20, ti_29, ti_30, ti_31, ti_32, ti_35, ti_36, ti_38, ti_39, ti_40, ti_41, ti_42, ti_43, ti_44, ti_45, ti_46, ti_47, ti_48, ti_49, ti_50, ti_51, ti_52, ti_53, ti_54, ti_55, ti_56, ti_57, ti_58, ti_59, ti_60, ti_61, ti_62, ti_63, ti_64, ti_65, ti_74, ti_77, ti_126, ti_200, ti_201, ti_202, ti_203, ti_204, ti_205, ti_210, ti_255, ti_256, ti_400, ti_512, ti_600, ti_601, ti_602, ti_1000, ti_1023, ti_1024, ti_2000, ti_10000, ti_12602, ti_999999, ti_m999999, ti_m1, ti_2000000, ti_3000000, xN_1, xN_4, xN_5, xN_60, xN_61, xN_64, xN_200, xN_800, xN_12000, xN_12602, eq_self, and_self, and_true, true_and, if_true, if_false, decide_true, Nat.reduceLeDiff, xc2_int, xc2_ref, xc2_ra, xc2_null, xc2_long, xc2_none, xisaT_ref, xisaT_ra, xisaT_null, xc1T_int, xc1T_ref, xc1T_ra, xc1T_null, xsum_nil, xsum_int, xsum_ref, xsum_ra, xsum_long, xsum_double, xsum_null, xfl_nil, xfl_int, xfl_ref, xfl_ra, xfl_null, xfl_long, xfl_double, List.length_cons, List.length_nil, h1', h2, xfk, xfv, xak, xan, xcls, xsv', List.getElem?_cons_zero, List.getElem?_cons_succ, List.getD_cons_zero, List.getD_cons_succ, Option.getD_some, Option.isSome_some, if_true, if_pos, xcont, Option.toList_none, Option.toList_some, List.nil_append, List.cons_append]
theorem c_strCheck {i n : Int} (h1 : 0 ≤ ti i) (h2 : ti i < ti n) : Cw X (d + 1) 403 [.int (iI i), .int (iI n)] w Q = Q (.inl none) w := by
  have hv : (if X.2.2 = true then Value.null else .retAddr 3) = .null ∨ (if X.2.2 = true then Value.null else .retAddr 3) = .retAddr 3 := by
    split
    · exact .inl rfl
    · exact .inr rfl
  rw [e403]
  obtain ⟨v, ev⟩ : ∃ v, (if X.2.2 = true then Value.null else .retAddr 3) = v := ⟨_, rfl⟩
  rw [ev] at hv
  rcases hv with e | e
  · rw [e] at ev
    simp (config := { decide := true }) only [w_iload_n0 (pc' := 1) q403 d403_0 rfl, w_iload_n1 (pc' := 2) q403 d403_1 rfl, w_gst3 (pc' := 5) q403 d403_2 rfl (by decide +kernel), w_invs3 (pc' := 8) q403 d403_5 rfl (by decide +kernel) k403_1059_99 m416.1, w_pop (pc' := 9) q403 d403_8 rfl, w_return q403 d403_9 m403.2.1, gs_off, gs_off0, gs_0off, gs_2, xN_0, xN_2, xN_3, xN_6, xN_7, xN_8, xN_9, xN_10, xN_11, xN_12, xN_13, xN_14, xN_15, xN_16, xN_17, xN_18, xN_19, xN_20, xN_21, xN_22, xN_23, xN_24, xN_25, xN_26, xN_27, xN_28, xN_29, xN_30, xN_31, xN_32, xN_33, xN_34, xN_35, xN_36, xN_37, xN_38, xN_39, xN_40, xN_41, xN_42, xN_43, xN_44, xN_45, xN_46, xN_47, xN_48, xN_49, xN_50, xN_51, xN_52, xN_53, xN_54, xN_55, ti_0, ti_1, ti_2, ti_3, ti_4, ti_5, ti_6, ti_7, ti_8, ti_9, ti_10, ti_16, ti_19, ti_20, ti_29, ti_30, ti_31, ti_32, ti_35, ti_36, ti_38, ti_39, ti_40, ti_41, ti_42, ti_43, ti_44, ti_45, ti_46, ti_47, ti_48, ti_49, ti_50, ti_51, ti_52, ti_53, ti_54, ti_55, ti_56, ti_57, ti_58, ti_59, ti_60, ti_61, ti_62, ti_63, ti_64, ti_65, ti_74, ti_77, ti_126, ti_200, ti_201, ti_202, ti_203, ti_204, ti_205, ti_210, ti_255, ti_256, ti_400, ti_512, ti_600, ti_601, ti_602, ti_1000, ti_1023, ti_1024, ti_2000, ti_10000, ti_12602, ti_999999, ti_m999999, ti_m1, ti_2000000, ti_3000000, xN_1, xN_4, xN_5, xN_60, xN_61, xN_64, xN_200, xN_800, xN_12000, xN_12602, eq_self, and_self, and_true, true_and, if_true, if_false, decide_true, Nat.reduceLeDiff, xc2_int, xc2_ref, xc2_ra, xc2_null, xc2_long, xc2_none, xisaT_ref, xisaT_ra, xisaT_null, xc1T_int, xc1T_ref, xc1T_ra, xc1T_null, xsum_nil, xsum_int, xsum_ref, xsum_ra, xsum_long, xsum_double, xsum_null, xfl_nil, xfl_int, xfl_ref, xfl_ra, xfl_null, xfl_long, xfl_double, List.length_cons, List.length_nil, ev, c_checkIndex (.inl rfl) h1 h2, xfk, xfv, xak, xan, xcls, xsv', List.getElem?_cons_zero, List.getElem?_cons_succ, List.getD_cons_zero, List.getD_cons_succ, Option.getD_some, Option.isSome_some, if_true, if_pos, xcont, Option.toList_none, Option.toList_some, List.nil_append, List.cons_append]
  · rw [e] at ev
    simp (config := { decide := true }) only [w_iload_n0 (pc' := 1) q403 d403_0 rfl, w_iload_n1 (pc' := 2) q403 d403_1 rfl, w_gst3 (pc' := 5) q403 d403_2 rfl (by decide +kernel), w_invs3 (pc' := 8) q403 d403_5 rfl (by decide +kernel) k403_1059_99 m416.1, w_pop (pc' := 9) q403 d403_8 rfl, w_return q403 d403_9 m403.2.1, gs_off, gs_off0, gs_0off, gs_2, xN_0, xN_2, xN_3, xN_6, xN_7, xN_8, xN_9, xN_10, xN_11, xN_12, xN_13, xN_14, xN_15, xN_16, xN_17, xN_18, xN_19, xN_20, xN_21, xN_22, xN_23, xN_24, xN_25, xN_26, xN_27, xN_28, xN_29, xN_30, xN_31, xN_32, xN_33, xN_34, xN_35, xN_36, xN_37, xN_38, xN_39, xN_40, xN_41, xN_42, xN_43, xN_44, xN_45, xN_46, xN_47, xN_48, xN_49, xN_50, xN_51, xN_52, xN_53, xN_54, xN_55, ti_0, ti_1, ti_2, ti_3, ti_4, ti_5, ti_6, ti_7, ti_8, ti_9, ti_10, ti_16, ti_19, ti_20, ti_29, ti_30, ti_31, ti_32, ti_35, ti_36, ti_38, ti_39, ti_40, ti_41, ti_42, ti_43, ti_44, ti_45, ti_46, ti_47, ti_48, ti_49, ti_50, ti_51, ti_52, ti_53, ti_54, ti_55, ti_56, ti_57, ti_58, ti_59, ti_60, ti_61, ti_62, ti_63, ti_64, ti_65, ti_74, ti_77, ti_126, ti_200, ti_201, ti_202, ti_203, ti_204, ti_205, ti_210, ti_255, ti_256, ti_400, ti_512, ti_600, ti_601, ti_602, ti_1000, ti_1023, ti_1024, ti_2000, ti_10000, ti_12602, ti_999999, ti_m999999, ti_m1, ti_2000000, ti_3000000, xN_1, xN_4, xN_5, xN_60, xN_61, xN_64, xN_200, xN_800, xN_12000, xN_12602, eq_self, and_self, and_true, true_and, if_true, if_false, decide_true, Nat.reduceLeDiff, xc2_int, xc2_ref, xc2_ra, xc2_null, xc2_long, xc2_none, xisaT_ref, xisaT_ra, xisaT_null, xc1T_int, xc1T_ref, xc1T_ra, xc1T_null, xsum_nil, xsum_int, xsum_ref, xsum_ra, xsum_long, xsum_double, xsum_null, xfl_nil, xfl_int, xfl_ref, xfl_ra, xfl_null, xfl_long, xfl_double, List.length_cons, List.length_nil, ev, c_checkIndex (.inr rfl) h1 h2, xfk, xfv, xak, xan, xcls, xsv', List.getElem?_cons_zero, List.getElem?_cons_succ, List.getD_cons_zero, List.getD_cons_succ, Option.getD_some, Option.isSome_some, if_true, if_pos, xcont, Option.toList_none, Option.toList_some, List.nil_append, List.cons_append]
theorem xbn_0 : xnb 0 = 0 := by decide
theorem c_coder {k : Nat} (hs : xos k = true) : Cw X d 401 [.retAddr k] w Q = Q (.inl (some (.int (iI 0)))) w := by
  rw [show Cw X d 401 [.retAddr k] w Q = Wx X d 401 0 [some (.retAddr k)] [] w Q by unfold Cw; rw [m401.1]; rfl]
  simp (config := { decide := true }) only [w_gst0 (pc' := 3) q401 d401_0 rfl (by decide +kernel), w_if_eq (tg := 13) (pc' := 6) q401 d401_3 (by decide) rfl, w_aload_n0 (pc' := 7) q401 d401_6 rfl, w_getSc (pc' := 10) q401 d401_7 rfl f401_15, w_goto (tg := 14) q401 d401_10 (by decide), gs_off, gs_off0, gs_0off, gs_2, xN_0, xN_2, xN_3, xN_6, xN_7, xN_8, xN_9, xN_10, xN_11, xN_12, xN_13, xN_14, xN_15, xN_16, xN_17, xN_18, xN_19, xN_20, xN_21, xN_22, xN_23, xN_24, xN_25, xN_26, xN_27, xN_28, xN_29, xN_30, xN_31, xN_32, xN_33, xN_34, xN_35, xN_36, xN_37, xN_38, xN_39, xN_40, xN_41, xN_42, xN_43, xN_44, xN_45, xN_46, xN_47, xN_48, xN_49, xN_50, xN_51, xN_52, xN_53, xN_54, xN_55, ti_0, ti_1, ti_2, ti_3, ti_4, ti_5, ti_6, ti_7, ti_8, ti_9, ti_10, ti_16, ti_19, ti_20, ti_29, ti_30, ti_31, ti_32, ti_35, ti_36, ti_38, ti_39, ti_40, ti_41, ti_42, ti_43, ti_44, ti_45, ti_46, ti_47, ti_48, ti_49, ti_50, ti_51, ti_52, ti_53, ti_54, ti_55, ti_56, ti_57, ti_58, ti_59, ti_60, ti_61, ti_62, ti_63, ti_64, ti_65, ti_74, ti_77, ti_126, ti_200, ti_201, ti_202, ti_203, ti_204, ti_205, ti_210, ti_255, ti_256, ti_400, ti_512, ti_600, ti_601, ti_602, ti_1000, ti_1023, ti_1024, ti_2000, ti_10000, ti_12602, ti_999999, ti_m999999, ti_m1, ti_2000000, ti_3000000, xN_1, xN_4, xN_5, xN_60, xN_61, xN_64, xN_200, xN_800, xN_12000, xN_12602, eq_self, and_self, and_true, true_and, if_true, if_false, decide_true, Nat.reduceLeDiff, xc2_int, xc2_ref, xc2_ra, xc2_null, xc2_long, xc2_none, xisaT_ref, xisaT_ra, xisaT_null, xc1T_int, xc1T_ref, xc1T_ra, xc1T_null, xsum_nil, xsum_int, xsum_ref, xsum_ra, xsum_long, xsum_double, xsum_null, xfl_nil, xfl_int, xfl_ref, xfl_ra, xfl_null, xfl_long, xfl_double, List.length_cons, List.length_nil, hs, xfk, xfv, xak, xan, xcls, xsv', List.getElem?_cons_zero, List.getElem?_cons_succ, List.getD_cons_zero, List.getD_cons_succ, Option.getD_some, Option.isSome_some, if_true, if_pos, xcont, Option.toList_none, Option.toList_some, List.nil_append, List.cons_append]
  rw [w_xreturn (P := True) q401 d401_14 m401.2.1 ⟨fun _ => trivial, fun _ => rfl⟩, true_and]
theorem c_isLatin1S {k : Nat} (hs : xos k = true) : Cw X d 402 [.retAddr k] w Q = Q (.inl (some (.int (iI 1)))) w := by
  rw [show Cw X d 402 [.retAddr k] w Q = Wx X d 402 0 [some (.retAddr k)] [] w Q by unfold Cw; rw [m402.1]; rfl]
  simp (config := { decide := true }) only [w_gst0 (pc' := 3) q402 d402_0 rfl (by decide +kernel), w_if_eq (tg := 17) (pc' := 6) q402 d402_3 (by decide) rfl, w_aload_n0 (pc' := 7) q402 d402_6 rfl, w_getSc (pc' := 10) q402 d402_7 rfl f402_15, w_if_ne (tg := 17) (pc' := 13) q402 d402_10 (by decide) rfl, w_iconst (pc' := 14) q402 d402_13 rfl, w_goto (tg := 18) q402 d402_14 (by decide), w_iconst (pc' := 18) q402 d402_17 rfl, w_zreturn q402 d402_18 m402.2.1, gs_off, gs_off0, gs_0off, gs_2, xN_0, xN_2, xN_3, xN_6, xN_7, xN_8, xN_9, xN_10, xN_11, xN_12, xN_13, xN_14, xN_15, xN_16, xN_17, xN_18, xN_19, xN_20, xN_21, xN_22, xN_23, xN_24, xN_25, xN_26, xN_27, xN_28, xN_29, xN_30, xN_31, xN_32, xN_33, xN_34, xN_35, xN_36, xN_37, xN_38, xN_39, xN_40, xN_41, xN_42, xN_43, xN_44, xN_45, xN_46, xN_47, xN_48, xN_49, xN_50, xN_51, xN_52, xN_53, xN_54, xN_55, ti_0, ti_1, ti_2, ti_3, ti_4, ti_5, ti_6, ti_7, ti_8, ti_9, ti_10, ti_16, ti_19, ti_20, ti_29, ti_30, ti_31, ti_32, ti_35, ti_36, ti_38, ti_39, ti_40, ti_41, ti_42, ti_43, ti_44, ti_45, ti_46, ti_47, ti_48, ti_49, ti_50, ti_51, ti_52, ti_53, ti_54, ti_55, ti_56, ti_57, ti_58, ti_59, ti_60, ti_61, ti_62, ti_63, ti_64, ti_65, ti_74, ti_77, ti_126, ti_200, ti_201, ti_202, ti_203, ti_204, ti_205, ti_210, ti_255, ti_256, ti_400, ti_512, ti_600, ti_601, ti_602, ti_1000, ti_1023, ti_1024, ti_2000, ti_10000, ti_12602, ti_999999, ti_m999999, ti_m1, ti_2000000, ti_3000000, xN_1, xN_4, xN_5, xN_60, xN_61, xN_64, xN_200, xN_800, xN_12000, xN_12602, eq_self, and_self, and_true, true_and, if_true, if_false, decide_true, Nat.reduceLeDiff, xc2_int, xc2_ref, xc2_ra, xc2_null, xc2_long, xc2_none, xisaT_ref, xisaT_ra, xisaT_null, xc1T_int, xc1T_ref, xc1T_ra, xc1T_null, xsum_nil, xsum_int, xsum_ref, xsum_ra, xsum_long, xsum_double, xsum_null, xfl_nil, xfl_int, xfl_ref, xfl_ra, xfl_null, xfl_long, xfl_double, List.length_cons, List.length_nil, hs, xzb_1, not_true_eq_false, xfk, xfv, xak, xan, xcls, xsv', List.getElem?_cons_zero, List.getElem?_cons_succ, List.getD_cons_zero, List.getD_cons_succ, Option.getD_some, Option.isSome_some, if_true, if_pos, xcont, Option.toList_none, Option.toList_some, List.nil_append, List.cons_append]
theorem c_strLen {k : Nat} (hs : xos k = true) (hb : xob (k + 1) = true) : Cw X (d + 1) 399 [.retAddr k] w Q = Q (.inl (some (.int (iI (xshr (xbl (k + 1) : Nat) 0))))) w := by
  rw [show Cw X (d + 1) 399 [.retAddr k] w Q = Wx X (d + 1) 399 0 [some (.retAddr k)] [] w Q by unfold Cw; rw [m399.1]; rfl]
  simp (config := { decide := true }) only [w_aload_n0 (pc' := 1) q399 d399_0 rfl, w_getSv (pc' := 4) q399 d399_1 rfl f399_9, w_alen (k := 0) (pc' := 5) q399 d399_4 rfl, w_alenS (pc' := 5) q399 d399_4 rfl, w_alenB (pc' := 5) q399 d399_4 rfl, w_aload_n0 (pc' := 6) q399 d399_5 rfl, w_invr0 (pc' := 9) q399 d399_6 rfl n399_335 k399_335_0 m401.1, w_ishr (pc' := 10) q399 d399_9 rfl, w_ireturn q399 d399_10 m399.2.1, gs_off, gs_off0, gs_0off, gs_2, xN_0, xN_2, xN_3, xN_6, xN_7, xN_8, xN_9, xN_10, xN_11, xN_12, xN_13, xN_14, xN_15, xN_16, xN_17, xN_18, xN_19, xN_20, xN_21, xN_22, xN_23, xN_24, xN_25, xN_26, xN_27, xN_28, xN_29, xN_30, xN_31, xN_32, xN_33, xN_34, xN_35, xN_36, xN_37, xN_38, xN_39, xN_40, xN_41, xN_42, xN_43, xN_44, xN_45, xN_46, xN_47, xN_48, xN_49, xN_50, xN_51, xN_52, xN_53, xN_54, xN_55, ti_0, ti_1, ti_2, ti_3, ti_4, ti_5, ti_6, ti_7, ti_8, ti_9, ti_10, ti_16, ti_19, ti_20, ti_29, ti_30, ti_31, ti_32, ti_35, ti_36, ti_38, ti_39, ti_40, ti_41, ti_42, ti_43, ti_44, ti_45, ti_46, ti_47, ti_48, ti_49, ti_50, ti_51, ti_52, ti_53, ti_54, ti_55, ti_56, ti_57, ti_58, ti_59, ti_60, ti_61, ti_62, ti_63, ti_64, ti_65, ti_74, ti_77, ti_126, ti_200, ti_201, ti_202, ti_203, ti_204, ti_205, ti_210, ti_255, ti_256, ti_400, ti_512, ti_600, ti_601, ti_602, ti_1000, ti_1023, ti_1024, ti_2000, ti_10000, ti_12602, ti_999999, ti_m999999, ti_m1, ti_2000000, ti_3000000, xN_1, xN_4, xN_5, xN_60, xN_61, xN_64, xN_200, xN_800, xN_12000, xN_12602, eq_self, and_self, and_true, true_and, if_true, if_false, decide_true, Nat.reduceLeDiff, xc2_int, xc2_ref, xc2_ra, xc2_null, xc2_long, xc2_none, xisaT_ref, xisaT_ra, xisaT_null, xc1T_int, xc1T_ref, xc1T_ra, xc1T_null, xsum_nil, xsum_int, xsum_ref, xsum_ra, xsum_long, xsum_double, xsum_null, xfl_nil, xfl_int, xfl_ref, xfl_ra, xfl_null, xfl_long, xfl_double, List.length_cons, List.length_nil, hs, hb, c_coder hs, xfk, xfv, xak, xan, xcls, xsv', List.getElem?_cons_zero, List.getElem?_cons_succ, List.getD_cons_zero, List.getD_cons_succ, Option.getD_some, Option.isSome_some, if_true, if_pos, xcont, Option.toList_none, Option.toList_some, List.nil_append, List.cons_append]
theorem c_latCharAt {k : Nat} {i : Int} (hb : xob (k + 1) = true) (h1 : 0 ≤ i) (h2 : i < xbl (k + 1)) (h3 : xbl (k + 1) < 1000) (hc : 0 ≤ bcS (k + 1) i ∧ bcS (k + 1) i < 128) : Cw X (d + 2) 406 [.retAddr (k + 1), .int (iI i)] w Q = Q (.inl (some (.int (iI (bcS (k + 1) i))))) w := by
  rw [show Cw X (d + 2) 406 [.retAddr (k + 1), .int (iI i)] w Q = Wx X (d + 2) 406 0 [some (.retAddr (k + 1)), some (.int (iI i))] [] w Q by unfold Cw; rw [m406.1]; rfl]
  have t1 : ti i = i := ti_eq (by omega) (by omega)
  have t2 : ti (xbl (k + 1) : Nat) = (xbl (k + 1) : Nat) := ti_eq (by omega) (by omega)
  have e1 : xand (bcS (k + 1) i) 255 = bcS (k + 1) i := by rw [xand_255 hc.1 (by omega)]; omega
  have e2 : xnc (bcS (k + 1) i) = bcS (k + 1) i := by rw [xnc_pos hc.1 (by omega)]; omega
  simp (config := { decide := true }) only [w_iload_n1 (pc' := 1) q406 d406_0 rfl, w_aload_n0 (pc' := 2) q406 d406_1 rfl, w_alen (k := 0) (pc' := 3) q406 d406_2 rfl, w_alenS (pc' := 3) q406 d406_2 rfl, w_alenB (pc' := 3) q406 d406_2 rfl, w_invs2 (pc' := 6) q406 d406_3 rfl (by decide +kernel) k406_9_99 m403.1, w_aload_n0 (pc' := 7) q406 d406_6 rfl, w_iload_n1 (pc' := 8) q406 d406_7 rfl, w_zaload (pc' := 9) q406 d406_8 rfl, w_baload (pc' := 9) q406 d406_8 rfl, w_baloadS (pc' := 9) q406 d406_8 rfl, w_sipush (z' := (255)) (pc' := 12) q406 d406_9 rfl (by decide), w_iand (pc' := 13) q406 d406_12 rfl, w_i2c (pc' := 14) q406 d406_13 rfl, w_creturn q406 d406_14 m406.2.1, gs_off, gs_off0, gs_0off, gs_2, xN_0, xN_2, xN_3, xN_6, xN_7, xN_8, xN_9, xN_10, xN_11, xN_12, xN_13, xN_14, xN_15, xN_16, xN_17, xN_18, xN_19, xN_20, xN_21, xN_22, xN_23, xN_24, xN_25, xN_26, xN_27, xN_28, xN_29, xN_30, xN_31, xN_32, xN_33, xN_34, xN_35, xN_36, xN_37, xN_38, xN_39, xN_40, xN_41, xN_42, xN_43, xN_44, xN_45, xN_46, xN_47, xN_48, xN_49, xN_50, xN_51, xN_52, xN_53, xN_54, xN_55, ti_0, ti_1, ti_2, ti_3, ti_4, ti_5, ti_6, ti_7, ti_8, ti_9, ti_10, ti_16, ti_19, ti_20, ti_29, ti_30, ti_31, ti_32, ti_35, ti_36, ti_38, ti_39, ti_40, ti_41, ti_42, ti_43, ti_44, ti_45, ti_46, ti_47, ti_48, ti_49, ti_50, ti_51, ti_52, ti_53, ti_54, ti_55, ti_56, ti_57, ti_58, ti_59, ti_60, ti_61, ti_62, ti_63, ti_64, ti_65, ti_74, ti_77, ti_126, ti_200, ti_201, ti_202, ti_203, ti_204, ti_205, ti_210, ti_255, ti_256, ti_400, ti_512, ti_600, ti_601, ti_602, ti_1000, ti_1023, ti_1024, ti_2000, ti_10000, ti_12602, ti_999999, ti_m999999, ti_m1, ti_2000000, ti_3000000, xN_1, xN_4, xN_5, xN_60, xN_61, xN_64, xN_200, xN_800, xN_12000, xN_12602, eq_self, and_self, and_true, true_and, if_true, if_false, decide_true, Nat.reduceLeDiff, xc2_int, xc2_ref, xc2_ra, xc2_null, xc2_long, xc2_none, xisaT_ref, xisaT_ra, xisaT_null, xc1T_int, xc1T_ref, xc1T_ra, xc1T_null, xsum_nil, xsum_int, xsum_ref, xsum_ra, xsum_long, xsum_double, xsum_null, xfl_nil, xfl_int, xfl_ref, xfl_ra, xfl_null, xfl_long, xfl_double, List.length_cons, List.length_nil, hb, c_strCheck (show 0 ≤ ti i by omega) (show ti i < ti (xbl (k + 1) : Nat) by omega), t1, h1, h2, e1, e2, xcb_eq hc.1 (show bcS (k + 1) i < 65536 by omega), xfk, xfv, xak, xan, xcls, xsv', List.getElem?_cons_zero, List.getElem?_cons_succ, List.getD_cons_zero, List.getD_cons_succ, Option.getD_some, Option.isSome_some, if_true, if_pos, xcont, Option.toList_none, Option.toList_some, List.nil_append, List.cons_append]
theorem c_strAt {k : Nat} {i : Int} (hs : xos k = true) (hb : xob (k + 1) = true) (h1 : 0 ≤ i) (h2 : i < xbl (k + 1)) (h3 : xbl (k + 1) < 1000) (hc : 0 ≤ bcS (k + 1) i ∧ bcS (k + 1) i < 128) : Cw X (d + 3) 400 [.retAddr k, .int (iI i)] w Q = Q (.inl (some (.int (iI (bcS (k + 1) i))))) w := by
  rw [show Cw X (d + 3) 400 [.retAddr k, .int (iI i)] w Q = Wx X (d + 3) 400 0 [some (.retAddr k), some (.int (iI i))] [] w Q by unfold Cw; rw [m400.1]; rfl]
  simp (config := { decide := true }) only [w_aload_n0 (pc' := 1) q400 d400_0 rfl, w_invr0 (pc' := 4) q400 d400_1 rfl n400_492 k400_492_0 m402.1, w_if_eq (tg := 16) (pc' := 7) q400 d400_4 (by decide) rfl, w_aload_n0 (pc' := 8) q400 d400_7 rfl, w_getSv (pc' := 11) q400 d400_8 rfl f400_9, w_iload_n1 (pc' := 12) q400 d400_11 rfl, w_invs2 (pc' := 15) q400 d400_12 rfl (by decide +kernel) k400_495_99 m406.1, w_creturn q400 d400_15 m400.2.1, gs_off, gs_off0, gs_0off, gs_2, xN_0, xN_2, xN_3, xN_6, xN_7, xN_8, xN_9, xN_10, xN_11, xN_12, xN_13, xN_14, xN_15, xN_16, xN_17, xN_18, xN_19, xN_20, xN_21, xN_22, xN_23, xN_24, xN_25, xN_26, xN_27, xN_28, xN_29, xN_30, xN_31, xN_32, xN_33, xN_34, xN_35, xN_36, xN_37, xN_38, xN_39, xN_40, xN_41, xN_42, xN_43, xN_44, xN_45, xN_46, xN_47, xN_48, xN_49, xN_50, xN_51, xN_52, xN_53, xN_54, xN_55, ti_0, ti_1, ti_2, ti_3, ti_4, ti_5, ti_6, ti_7, ti_8, ti_9, ti_10, ti_16, ti_19, ti_20, ti_29, ti_30, ti_31, ti_32, ti_35, ti_36, ti_38, ti_39, ti_40, ti_41, ti_42, ti_43, ti_44, ti_45, ti_46, ti_47, ti_48, ti_49, ti_50, ti_51, ti_52, ti_53, ti_54, ti_55, ti_56, ti_57, ti_58, ti_59, ti_60, ti_61, ti_62, ti_63, ti_64, ti_65, ti_74, ti_77, ti_126, ti_200, ti_201, ti_202, ti_203, ti_204, ti_205, ti_210, ti_255, ti_256, ti_400, ti_512, ti_600, ti_601, ti_602, ti_1000, ti_1023, ti_1024, ti_2000, ti_10000, ti_12602, ti_999999, ti_m999999, ti_m1, ti_2000000, ti_3000000, xN_1, xN_4, xN_5, xN_60, xN_61, xN_64, xN_200, xN_800, xN_12000, xN_12602, eq_self, and_self, and_true, true_and, if_true, if_false, decide_true, Nat.reduceLeDiff, xc2_int, xc2_ref, xc2_ra, xc2_null, xc2_long, xc2_none, xisaT_ref, xisaT_ra, xisaT_null, xc1T_int, xc1T_ref, xc1T_ra, xc1T_null, xsum_nil, xsum_int, xsum_ref, xsum_ra, xsum_long, xsum_double, xsum_null, xfl_nil, xfl_int, xfl_ref, xfl_ra, xfl_null, xfl_long, xfl_double, List.length_cons, List.length_nil, hs, c_isLatin1S hs, c_latCharAt hb h1 h2 h3 hc, xcb_eq hc.1 (show bcS (k + 1) i < 65536 by omega), xfk, xfv, xak, xan, xcls, xsv', List.getElem?_cons_zero, List.getElem?_cons_succ, List.getD_cons_zero, List.getD_cons_succ, Option.getD_some, Option.isSome_some, if_true, if_pos, xcont, Option.toList_none, Option.toList_some, List.nil_append, List.cons_append]
end
