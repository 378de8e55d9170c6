/-! New objects: rules -/
section
variable {X : xX} {d M : Nat} {cc : ByteArray} {pc pc' : Nat} {L : xL} {st : List Value} {w : xH} {S S' : xLm} {g : xGm} {Q : xO → xH → Prop}
set_option maxRecDepth 100000 in
theorem q380 : xMc 380 = prog_24_method_1_code := rfl
theorem m380 : xMl 380 = 1 ∧ xMret 380 = none ∧ xMh 380 = [] := by decide +kernel
theorem e380 {X : xX} {d : Nat} {w : xH} {Q : xO → xH → Prop} (a : Nat) : Cw X d 380 [.ref a] w Q = Wx X d 380 0 [some (.ref a)] [] w Q := by
  unfold Cw
  rw [m380.1]
  rfl
theorem d380_0 : decode prog_24_method_1_code 0 = .ok (.aload_n 0, 1) := by decide +kernel
theorem d380_1 : decode prog_24_method_1_code 1 = .ok (.bipush 16, 2) := by decide +kernel
theorem d380_3 : decode prog_24_method_1_code 3 = .ok (.invokespecial 1, 3) := by decide +kernel
theorem k380_1_98 : xCa (xMo 380) 1 98 = some (2, 387, 1) := by decide +kernel
theorem d380_6 : decode prog_24_method_1_code 6 = .ok (.return_, 1) := by decide +kernel
set_option maxRecDepth 100000 in
theorem q387 : xMc 387 = prog_14_method_2_code := rfl
theorem m387 : xMl 387 = 2 ∧ xMret 387 = none ∧ xMh 387 = [] := by decide +kernel
theorem e387 {X : xX} {d : Nat} {w : xH} {Q : xO → xH → Prop} (a : Nat) (x0 : Int32) : Cw X d 387 [.ref a, .int x0] w Q = Wx X d 387 0 [some (.ref a), some (.int x0)] [] w Q := by
  unfold Cw
  rw [m387.1]
  rfl
theorem d387_0 : decode prog_14_method_2_code 0 = .ok (.aload_n 0, 1) := by decide +kernel
theorem d387_1 : decode prog_14_method_2_code 1 = .ok (.invokespecial 3, 3) := by decide +kernel
theorem d387_4 : decode prog_14_method_2_code 4 = .ok (.getstatic 18, 3) := by decide +kernel
theorem d387_7 : decode prog_14_method_2_code 7 = .ok (.ifCond .eq 18, 3) := by decide +kernel
theorem d387_10 : decode prog_14_method_2_code 10 = .ok (.aload_n 0, 1) := by decide +kernel
theorem d387_11 : decode prog_14_method_2_code 11 = .ok (.iload_n 1, 1) := by decide +kernel
theorem d387_12 : decode prog_14_method_2_code 12 = .ok (.newarray .byte, 2) := by decide +kernel
theorem d387_14 : decode prog_14_method_2_code 14 = .ok (.putfield 15, 3) := by decide +kernel
theorem f387_15 : xFd (xMo 387) 15 = some (1, 0) := by decide +kernel
theorem d387_17 : decode prog_14_method_2_code 17 = .ok (.aload_n 0, 1) := by decide +kernel
theorem d387_18 : decode prog_14_method_2_code 18 = .ok (.iconst 0, 1) := by decide +kernel
theorem d387_19 : decode prog_14_method_2_code 19 = .ok (.putfield 22, 3) := by decide +kernel
theorem f387_22 : xFd (xMo 387) 22 = some (1, 1) := by decide +kernel
theorem d387_22 : decode prog_14_method_2_code 22 = .ok (.goto 16, 3) := by decide +kernel
theorem d387_25 : decode prog_14_method_2_code 25 = .ok (.aload_n 0, 1) := by decide +kernel
theorem d387_26 : decode prog_14_method_2_code 26 = .ok (.iload_n 1, 1) := by decide +kernel
theorem d387_27 : decode prog_14_method_2_code 27 = .ok (.invokestatic 26, 3) := by decide +kernel
theorem d387_30 : decode prog_14_method_2_code 30 = .ok (.putfield 15, 3) := by decide +kernel
theorem d387_33 : decode prog_14_method_2_code 33 = .ok (.aload_n 0, 1) := by decide +kernel
theorem d387_34 : decode prog_14_method_2_code 34 = .ok (.iconst 1, 1) := by decide +kernel
theorem d387_35 : decode prog_14_method_2_code 35 = .ok (.putfield 22, 3) := by decide +kernel
theorem d387_38 : decode prog_14_method_2_code 38 = .ok (.return_, 1) := by decide +kernel

/-- a row is made for a field -/
def xNP (S : xLm) (a ci : Nat) (fs : List (Option Value)) (j k n : Nat) : xLm := (fun h => if h = S.2.1 then .inl (k, n) else if h = a then .inr (ci, fs.set j (some (.ref S.2.1))) else S.1 h, S.2.1 + 1, S.2.2.1 + 1, S.2.2.2 + n)
theorem w_np {idx ci j a n k : Nat} {t : Jvm.ClassFile.ArrayType} {ty : FieldType} {fin : Bool} {dc : Nat} {fs : List (Option Value)} {v : Value} {z : Int} (hq : xMc M = cc) (hd1 : decode cc pc = .ok (.newarray t, 2)) (hd2 : decode cc (pc + 2) = .ok (.putfield idx, 3)) (hp' : pc + 5 = pc') (hk : xkd t = some k) (hf : xFd (xMo M) idx = some (ci, j)) (hz : (xFz.getD ci [])[j]? = some (ty, fin, dc)) (hfin : (!fin || (xMini M && dc == xMo M)) = true) (hty : (decide (narrow ty (.ref 0) = .ref 0) && fits ty (.ref 0)) = true) (hzn : z = (n : Int)) (ha : S.1 a = .inr (ci, fs)) (hj : fs[j]? = some (some v)) (hal : a < S.2.1) (hn : n ≤ 20000) :
    Wx X d M pc L (.int (iI z) :: .ref a :: st) (hp S g) Q = Wx X d M pc' L st (hp (xNP S a ci fs j k n) (gz g S.2.1 0)) Q := by
  subst hp'
  have tz : ti z = n := by rw [hzn]; exact ti_eq (by omega) (by omega)
  have e1 : (ti z).toNat = n := by omega
  have ha' : (xSn S (.inl (k, n)) n).1 a = .inr (ci, fs) := (xSn_off hal).trans ha
  rw [w_newa hq hd1 rfl hk, w_tr1 (by omega), e1]
  rw [w_putV (a := a) (b := S.2.1) hq hd2 rfl hf hz hfin hty (by rw [ha']; unfold xfk; dsimp only; rw [if_pos rfl, hj])]
  have e2 : xS1 (xSn S (.inl (k, n)) n) a (xsv' ((xSn S (.inl (k, n)) n).1 a) j (.ref S.2.1)) = xNP S a ci fs j k n := by
    rw [ha']
    unfold xS1 xNP xsv'
    refine Prod.ext ?_ rfl
    funext h
    show (if h = a then _ else (xSn S (.inl (k, n)) n).1 h) = (if h = S.2.1 then Sum.inl (k, n) else if h = a then _ else S.1 h)
    by_cases e : h = a
    · rw [if_pos e, if_neg (by omega), if_pos e]
    · rw [if_neg e]
      by_cases e2 : h = S.2.1
      · rw [if_pos e2, e2]; exact xSn_at
      · rw [if_neg e2, if_neg e]
        show (if h = S.2.1 then _ else S.1 h) = S.1 h
        rw [if_neg e2]
  rw [e2]
theorem np_facts {a ci j k n N : Nat} {fs : List (Option Value)} (hN : S.2.1 = N) (hal : a < N) : (xNP S a ci fs j k n).1 a = .inr (ci, fs.set j (some (.ref N))) ∧ (xNP S a ci fs j k n).1 N = .inl (k, n) ∧ (∀ h, h < N → ¬ h = a → (xNP S a ci fs j k n).1 h = S.1 h) ∧ (xNP S a ci fs j k n).2.1 = N + 1 ∧ (xNP S a ci fs j k n).2.2.1 = S.2.2.1 + 1 ∧ (xNP S a ci fs j k n).2.2.2 = S.2.2.2 + n := by
  subst hN
  unfold xNP
  dsimp only
  refine ⟨?_, ?_, fun h hh h2 => ?_, rfl, rfl, rfl⟩
  · rw [if_neg (by omega), if_pos rfl]
  · rw [if_pos rfl]
  · rw [if_neg (by omega), if_neg h2]
/-- rows that are 0 -/
def GZ (g : xGm) (lo hi : Nat) : xGm := fun h => if lo ≤ h ∧ h < hi then fun _ => 0 else g h
theorem GZ_0 {lo : Nat} : GZ g lo lo = g := by
  funext h
  unfold GZ
  rw [if_neg (by omega)]
theorem GZ_s {lo N hi : Nat} (h1 : lo ≤ N) (h2 : N + 1 = hi) : gz (GZ g lo N) N 0 = GZ g lo hi := by
  subst h2
  funext h
  unfold gz GZ
  by_cases e : h = N
  · rw [if_pos e, if_pos (by omega)]
  · rw [if_neg e]
    by_cases e2 : lo ≤ h ∧ h < N
    · rw [if_pos e2, if_pos (by omega)]
    · rw [if_neg e2, if_neg (by omega)]
theorem GZ_in {lo hi h : Nat} (h1 : lo ≤ h) (h2 : h < hi) : GZ g lo hi h = fun _ => 0 := by unfold GZ; rw [if_pos ⟨h1, h2⟩]
theorem GZ_out {lo hi h : Nat} (h1 : h < lo ∨ hi ≤ h) : GZ g lo hi h = g h := by unfold GZ; rw [if_neg (by omega)]
theorem w_anewa {k n : Nat} {z : Int} (hq : xMc M = cc) (hd : decode cc pc = .ok (.anewarray k, 3)) (hp' : pc + 3 = pc') (hQ : xQo (xMo M) k = true) (hzn : z = (n : Int)) (hn : n ≤ 20000) :
    Wx X d M pc L (.int (iI z) :: st) (hp S g) Q = Wx X d M pc' L (.ref S.2.1 :: st) (hp (xSn S (.inl (5, n)) n) (gz g S.2.1 (-1))) Q := by
  subst hp'
  subst hzn
  refine Wx_step hq hd ?_
  have hc : (iI (n : Int)).toNatClampNeg = n := by rw [cl_nat (by omega) (by omega)]; omega
  have hb := ng_not (z := (n : Int)) (by omega) (by omega)
  simp only [xone, hQ, hc, hb, xk, beq_self_eq_true, Bool.and_true, Bool.true_and, decide_eq_true hn, if_true, Option.map_some]
  have e : xal (hp S g) (.inl (5, xz 5 n)) n = hp (xSn S (.inl (5, n)) n) (gz g S.2.1 (-1)) := hp_al _ (.inl (5, n)) (-1) n rfl
  rw [e]
  rfl
theorem w_aastore {i : Int} {a v n : Nat} {fs : List (Option Value)} (hq : xMc M = cc) (hd : decode cc pc = .ok (.aastore, 1)) (hp' : pc + 1 = pc') (ha : S.1 a = .inl (5, n)) (hv : S.1 v = .inr (9, fs)) (h0 : 0 ≤ i) (h1 : i < n) (hn : n ≤ 20000) :
    Wx X d M pc L (.ref v :: .int (iI i) :: .ref a :: st) (hp S g) Q = Wx X d M pc' L st (hp S (gs g a i v)) Q := by
  subst hp'
  refine Wx_step hq hd ?_
  have xa : xat (hp S g) a = .inl (5, n, .inr (.inr (.inr (.inr (fun j : Nat => if g a j < 0 then none else some (g a j).toNat))))) := by show xem (S.1 a) (g a) = _; rw [ha]; rfl
  have xv : xat (hp S g) v = .inr (9, xfs (g v) 0 fs) := by show xem (S.1 v) (g v) = _; rw [hv]; rfl
  have ti_i : ti i = i := ti_eq (by omega) (by omega)
  have hin : xin (iI i) n = true := (xin_iff i n).mpr (by rw [ti_i]; exact ⟨h0, h1⟩)
  have hc : (iI i).toNatClampNeg = i.toNat := cl_nat h0 (by omega)
  simp only [xone, xsa, xa, xv, hin, hc, xk, beq_self_eq_true, Bool.and_true, if_true, Option.map_some]
  have e : (Sum.inl (5, n, Sum.inr (Sum.inr (Sum.inr (Sum.inr (va_up (fun j : Nat => if g a j < 0 then none else some (g a j).toNat) i.toNat (some v)))))) : xE) = xem (.inl (5, n)) (fun j => if j = i then (v : Int) else g a j) := by
    show _ = Sum.inl (5, n, Sum.inr (Sum.inr (Sum.inr (Sum.inr (fun j : Nat => if (if (j : Int) = i then (v : Int) else g a j) < 0 then none else some (if (j : Int) = i then (v : Int) else g a j).toNat)))))
    congr 7
    funext j
    unfold va_up
    by_cases h : (j : Int) = i
    · rw [if_pos (by omega), if_pos h, if_neg (by omega)]
      congr 1
    · rw [if_neg (by omega), if_neg h]
  rw [e, hp_pt S g a _ _ ha, gs_fun]
theorem w_putB0 {idx ci j a : Nat} {fin : Bool} {dc : Nat} (hq : xMc M = cc) (hd : decode cc pc = .ok (.putfield idx, 3)) (hp' : pc + 3 = pc') (hf : xFd (xMo M) idx = some (ci, j)) (hz : (xFz.getD ci [])[j]? = some (.byte, fin, dc)) (hfin : (!fin || (xMini M && dc == xMo M)) = true) (hk : xfk (S.1 a) ci j = 0) :
    Wx X d M pc L (.int (iI 0) :: .ref a :: st) (hp S g) Q = Wx X d M pc' L st (hp (S) (gs g a j 0)) Q := by
  rw [w_put0 (P := True) hq hd hp' hf hz hfin hk ⟨fun _ => trivial, fun _ => by decide⟩, true_and]
end
