/-! Texts: strings and numbers are appended -/
section
variable {X : xX} {d M : Nat} {cc : ByteArray} {pc pc' : Nat} {L : xL} {st : List Value} {w : xH} {Q : xO → xH → Prop}
theorem w_invr3 {k kind M' a : Nat} {b0 b1 b2 : Value} (hq : xMc M = cc) (hd : decode cc pc = .ok (.invokevirtual k, 3)) (hp' : pc + 3 = pc') (hn : xcn (xMo M) k = some 3) (hc : xCa (xMo M) k 0 = some (kind, M', 3)) {ml : Nat} (hml : xMl M' = ml) (hs : xos a = true) (h8 : decide (xsum st ≤ 8) = true) (hfl : decide ((xfl [.retAddr a, b0, b1, b2]).length ≤ ml) = true) : Wx X (d + 1) M pc L (b2 :: b1 :: b0 :: .retAddr a :: st) w Q = Cw X d M' [.retAddr a, b0, b1, b2] w (xcont X (d + 1) M pc' L st kind pc Q) := by
  subst hp'
  subst hml
  exact (w_invr [b0, b1, b2] hq hd hn hc hs).trans (w_tr (of_decide_eq_true h8) (of_decide_eq_true hfl))
end
section
variable {X : xX} {S S' S1 S2 : xLm} {g g' g1 g2 G : xGm} {d b m : Nat} {w : xH} {Q : xO → xH → Prop} {L : List Int} {cap cap' cap2 : Nat}
theorem TL_sh {r r' : Int → Int} : ∀ (Ls : List Int) (i s : Int), TL r i Ls → (∀ j : Int, 0 ≤ j → j < Ls.length → r' (s + j) = r (i + j)) → TL r' s Ls
  | [], _, _, _, _ => trivial
  | x :: Ls, i, s, h, hr => by
    obtain ⟨h1, h2⟩ := h
    refine ⟨?_, TL_sh Ls (i + 1) (s + 1) h2 (fun j j1 j2 => ?_)⟩
    · have := hr 0 (by omega) (by rw [List.length_cons]; omega)
      rw [Int.add_zero, Int.add_zero] at this
      rw [this]; exact h1
    · have := hr (1 + j) (by omega) (by rw [List.length_cons]; omega)
      rw [show s + 1 + j = s + (1 + j) by omega, show i + 1 + j = i + (1 + j) by omega]
      exact this
theorem c_appS {k : Nat} {Ls : List Int} (hm : m ≤ S.2.1) (hbm : b + 1 < m) (hI : SbI S g b m L cap) (hs : xos k = true) (hk : xob (k + 1) = true) (hlen : xbl (k + 1) = Ls.length) (hTs : TL (bcS (k + 1)) 0 Ls) (hrs : ∀ i : Int, 0 ≤ i → i < Ls.length → 0 ≤ bcS (k + 1) i ∧ bcS (k + 1) i ≤ 127) (h8 : Ls.length ≤ 8) (hL : (L.length : Int) ≤ 640) :
    ∃ S' g' cap', SbX S S' g g' b m cap cap' ∧ SbI S' g' b m (L ++ Ls) cap' ∧ m ≤ S'.2.1 ∧ ∀ Q, Cw X (d + 6) 381 [.ref b, .retAddr k] (hp S g) Q = Q (.inl (some (.ref b))) (hp S' g') := by
  have n3 : g b 3 = L.length := by obtain ⟨a, -, -, -, -, -, -, n3, -⟩ := hI; exact n3
  have s00 : ∃ a : Nat, S.1 b = .inr (1, [some (.ref a), none, none, none]) := by obtain ⟨a, s0, -⟩ := hI; exact ⟨a, s0⟩
  obtain ⟨a0, s00⟩ := s00
  obtain ⟨S1, g1, cap1, X1, I1, m1, l1, k1⟩ := c_ensure (X := X) (d := d + 1) (n := L.length + Ls.length) hm hbm hI (by omega) (by omega) hL
  obtain ⟨a, s0, s1, hab, hal, hc, e1, e3, hr, hT, hl⟩ := I1
  have ra : ¬ a = b := by rcases hab with h | h <;> omega
  have ra2 : ∀ h, ¬ h = b + 1 → h < m → ¬ h = a := fun h h1 h2 => by rcases hab with h' | h' <;> omega
  have tLs : ti ((Ls.length : Nat) : Int) = (Ls.length : Nat) := ti_eq (by omega) (by omega)
  have k399 : ∀ Q, Cw X (d + 4) 399 [.retAddr k] (hp S g) Q = Q (.inl (some (.int (iI Ls.length)))) (hp S g) := fun Q => by
    rw [c_strLen hs hk, hlen, xshr_0, tLs]
  have k398 : ∀ Q, Cw X (d + 3) 398 [.ref b, .retAddr k] (hp S1 g1) Q = Q (.inl none) (hp S1 g1) := fun Q => by
    have hco := fun Q => c_coder (X := X) (d := d + 2) (w := hp S1 g1) (Q := Q) hs
    rw [e398]
    simp (config := { decide := true }) only [w_gst0 (pc' := 3) q398 d398_0 rfl (by decide +kernel), w_if_eq (tg := 21) (pc' := 6) q398 d398_3 (by decide) rfl, w_aload_n0 (pc' := 7) q398 d398_6 rfl, w_getI (pc' := 10) q398 d398_7 rfl f398_22, w_aload_n1 (pc' := 11) q398 d398_10 rfl, w_invr0 (pc' := 14) q398 d398_11 rfl n398_40 k398_40_0 m401.1, w_icmp_eq (tg := 21) (pc' := 17) q398 d398_14 (by decide) rfl, w_return q398 d398_21 m398.2.1, gs_off, gs_off0, gs_0off, gs_2, xN_0, xN_2, xN_3, xN_6, xN_7, xN_8, xN_9, xN_10, xN_11, xN_12, xN_13, xN_14, xN_15, xN_16, xN_17, xN_18, xN_19, xN_20, xN_21, xN_22, xN_23, xN_24, xN_25, xN_26, xN_27, xN_28, xN_29, xN_30, xN_31, xN_32, xN_33, xN_34, xN_35, xN_36, xN_37, xN_38, xN_39, xN_40, xN_41, xN_42, xN_43, xN_44, xN_45, xN_46, xN_47, xN_48, xN_49, xN_50, xN_51, xN_52, xN_53, xN_54, xN_55, ti_0, ti_1, ti_2, ti_3, ti_4, ti_5, ti_6, ti_7, ti_8, ti_9, ti_10, ti_16, ti_19, ti_20, ti_29, ti_30, ti_31, ti_32, ti_35, ti_36, ti_38, ti_39, ti_40, ti_41, ti_42, ti_43, ti_44, ti_45, ti_46, ti_47, ti_48, ti_49, ti_50, ti_51, ti_52, ti_53, ti_54, ti_55, ti_56, ti_57, ti_58, ti_59, ti_60, ti_61, ti_62, ti_63, ti_64, ti_65, ti_74, ti_77, ti_126, ti_200, ti_201, ti_202, ti_203, ti_204, ti_205, ti_210, ti_255, ti_256, ti_400, ti_512, ti_600, ti_601, ti_602, ti_1000, ti_1023, ti_1024, ti_2000, ti_10000, ti_12602, ti_999999, ti_m999999, ti_m1, ti_2000000, ti_3000000, xN_1, xN_4, xN_5, xN_60, xN_61, xN_64, xN_200, xN_800, xN_12000, xN_12602, eq_self, and_self, and_true, true_and, if_true, if_false, decide_true, Nat.reduceLeDiff, xc2_int, xc2_ref, xc2_ra, xc2_null, xc2_long, xc2_none, xisaT_ref, xisaT_ra, xisaT_null, xc1T_int, xc1T_ref, xc1T_ra, xc1T_null, xsum_nil, xsum_int, xsum_ref, xsum_ra, xsum_long, xsum_double, xsum_null, xfl_nil, xfl_int, xfl_ref, xfl_ra, xfl_null, xfl_long, xfl_double, List.length_cons, List.length_nil, s0, e1, hs, hco, xfk, xfv, xak, xan, xcls, xsv', List.getElem?_cons_zero, List.getElem?_cons_succ, List.getD_cons_zero, List.getD_cons_succ, Option.getD_some, Option.isSome_some, if_true, if_pos, xcont, Option.toList_none, Option.toList_some, List.nil_append, List.cons_append]
  have kc := xcp_S (S := S1) (g := g1) (st := []) (n := Ls.length) (dp := L.length) (sp := 0) hk s1 (by omega) (by omega) (by omega) (by omega) (by omega) (by omega) (by omega) (fun i i1 i2 => by have := hrs i (by omega) (by omega); omega)
  obtain ⟨r', er⟩ : ∃ r' : Int → Int, r' = fun j => if (L.length : Int) ≤ j ∧ j < (L.length : Int) + Ls.length then bcS (k + 1) (0 + (j - L.length)) else g1 a j := ⟨_, rfl⟩
  rw [← er] at kc
  have k404 : ∀ Q, Cw X (d + 3) 404 [.retAddr k, .ref a, .int (iI L.length), .int (iI 0)] (hp S1 g1) Q = Q (.inl none) (hp S1 (gr g1 a r')) := fun Q => by
    have hco := fun Q => c_coder (X := X) (d := d + 2) (w := hp S1 g1) (Q := Q) hs
    rw [show Cw X (d + 3) 404 [.retAddr k, .ref a, .int (iI L.length), .int (iI 0)] (hp S1 g1) Q = Wx X (d + 3) 404 0 [some (.retAddr k), some (.ref a), some (.int (iI L.length)), some (.int (iI 0))] [] (hp S1 g1) Q by unfold Cw; rw [m404.1]; rfl]
    simp (config := { decide := true }) only [w_aload_n0 (pc' := 1) q404 d404_0 rfl, w_invr0 (pc' := 4) q404 d404_1 rfl n404_335 k404_335_0 m401.1, w_iload_n3 (pc' := 5) q404 d404_4 rfl, w_icmp_ne (tg := 28) (pc' := 8) q404 d404_5 (by decide) rfl, w_aload_n0 (pc' := 9) q404 d404_8 rfl, w_getSv (pc' := 12) q404 d404_9 rfl f404_9, w_iconst (pc' := 13) q404 d404_12 rfl, w_aload_n1 (pc' := 14) q404 d404_13 rfl, w_iload_n2 (pc' := 15) q404 d404_14 rfl, w_iload_n3 (pc' := 16) q404 d404_15 rfl, w_ishl0 (pc' := 17) q404 d404_16 rfl, w_aload_n0 (pc' := 18) q404 d404_17 rfl, w_getSv (pc' := 21) q404 d404_18 rfl f404_9, w_alen (k := 0) (pc' := 22) q404 d404_21 rfl, w_alenS (pc' := 22) q404 d404_21 rfl, w_alenB (pc' := 22) q404 d404_21 rfl, gs_off, gs_off0, gs_0off, gs_2, xN_0, xN_2, xN_3, xN_6, xN_7, xN_8, xN_9, xN_10, xN_11, xN_12, xN_13, xN_14, xN_15, xN_16, xN_17, xN_18, xN_19, xN_20, xN_21, xN_22, xN_23, xN_24, xN_25, xN_26, xN_27, xN_28, xN_29, xN_30, xN_31, xN_32, xN_33, xN_34, xN_35, xN_36, xN_37, xN_38, xN_39, xN_40, xN_41, xN_42, xN_43, xN_44, xN_45, xN_46, xN_47, xN_48, xN_49, xN_50, xN_51, xN_52, xN_53, xN_54, xN_55, ti_0, ti_1, ti_2, ti_3, ti_4, ti_5, ti_6, ti_7, ti_8, ti_9, ti_10, ti_16, ti_19, ti_20, ti_29, ti_30, ti_31, ti_32, ti_35, ti_36, ti_38, ti_39, ti_40, ti_41, ti_42, ti_43, ti_44, ti_45, ti_46, ti_47, ti_48, ti_49, ti_50, ti_51, ti_52, ti_53, ti_54, ti_55, ti_56, ti_57, ti_58, ti_59, ti_60, ti_61, ti_62, ti_63, ti_64, ti_65, ti_74, ti_77, ti_126, ti_200, ti_201, ti_202, ti_203, ti_204, ti_205, ti_210, ti_255, ti_256, ti_400, ti_512, ti_600, ti_601, ti_602, ti_1000, ti_1023, ti_1024, ti_2000, ti_10000, ti_12602, ti_999999, ti_m999999, ti_m1, ti_2000000, ti_3000000, xN_1, xN_4, xN_5, xN_60, xN_61, xN_64, xN_200, xN_800, xN_12000, xN_12602, eq_self, and_self, and_true, true_and, if_true, if_false, decide_true, Nat.reduceLeDiff, xc2_int, xc2_ref, xc2_ra, xc2_null, xc2_long, xc2_none, xisaT_ref, xisaT_ra, xisaT_null, xc1T_int, xc1T_ref, xc1T_ra, xc1T_null, xsum_nil, xsum_int, xsum_ref, xsum_ra, xsum_long, xsum_double, xsum_null, xfl_nil, xfl_int, xfl_ref, xfl_ra, xfl_null, xfl_long, xfl_double, List.length_cons, List.length_nil, hs, hk, hco, hlen, xfk, xfv, xak, xan, xcls, xsv', List.getElem?_cons_zero, List.getElem?_cons_succ, List.getD_cons_zero, List.getD_cons_succ, Option.getD_some, Option.isSome_some, if_true, if_pos, xcont, Option.toList_none, Option.toList_some, List.nil_append, List.cons_append]
    rw [w_acp q404 d404_22 rfl (by decide +kernel) kc rfl]
    simp (config := { decide := true }) only [w_goto (tg := 43) q404 d404_25 (by decide), w_return q404 d404_43 m404.2.1, gs_off, gs_off0, gs_0off, gs_2, xN_0, xN_2, xN_3, xN_6, xN_7, xN_8, xN_9, xN_10, xN_11, xN_12, xN_13, xN_14, xN_15, xN_16, xN_17, xN_18, xN_19, xN_20, xN_21, xN_22, xN_23, xN_24, xN_25, xN_26, xN_27, xN_28, xN_29, xN_30, xN_31, xN_32, xN_33, xN_34, xN_35, xN_36, xN_37, xN_38, xN_39, xN_40, xN_41, xN_42, xN_43, xN_44, xN_45, xN_46, xN_47, xN_48, xN_49, xN_50, xN_51, xN_52, xN_53, xN_54, xN_55, ti_0, ti_1, ti_2, ti_3, ti_4, ti_5, ti_6, ti_7, ti_8, ti_9, ti_10, ti_16, ti_19, ti_20, ti_29, ti_30, ti_31, ti_32, ti_35, ti_36, ti_38, ti_39, ti_40, ti_41, ti_42, ti_43, ti_44, ti_45, ti_46, ti_47, ti_48, ti_49, ti_50, ti_51, ti_52, ti_53, ti_54, ti_55, ti_56, ti_57, ti_58, ti_59, ti_60, ti_61, ti_62, ti_63, ti_64, ti_65, ti_74, ti_77, ti_126, ti_200, ti_201, ti_202, ti_203, ti_204, ti_205, ti_210, ti_255, ti_256, ti_400, ti_512, ti_600, ti_601, ti_602, ti_1000, ti_1023, ti_1024, ti_2000, ti_10000, ti_12602, ti_999999, ti_m999999, ti_m1, ti_2000000, ti_3000000, xN_1, xN_4, xN_5, xN_60, xN_61, xN_64, xN_200, xN_800, xN_12000, xN_12602, eq_self, and_self, and_true, true_and, if_true, if_false, decide_true, Nat.reduceLeDiff, xc2_int, xc2_ref, xc2_ra, xc2_null, xc2_long, xc2_none, xisaT_ref, xisaT_ra, xisaT_null, xc1T_int, xc1T_ref, xc1T_ra, xc1T_null, xsum_nil, xsum_int, xsum_ref, xsum_ra, xsum_long, xsum_double, xsum_null, xfl_nil, xfl_int, xfl_ref, xfl_ra, xfl_null, xfl_long, xfl_double, List.length_cons, List.length_nil, xfk, xfv, xak, xan, xcls, xsv', List.getElem?_cons_zero, List.getElem?_cons_succ, List.getD_cons_zero, List.getD_cons_succ, Option.getD_some, Option.isSome_some, if_true, if_pos, xcont, Option.toList_none, Option.toList_some, List.nil_append, List.cons_append]
  have k397 : ∀ Q, Cw X (d + 4) 397 [.ref b, .int (iI L.length), .retAddr k] (hp S1 g1) Q = Q (.inl none) (hp S1 (gr g1 a r')) := fun Q => by
    rw [e397]
    simp (config := { decide := true }) only [w_aload_n0 (pc' := 1) q397 d397_0 rfl, w_aload_n2 (pc' := 2) q397 d397_1 rfl, w_invv1 (ci := 1) (pc' := 5) q397 d397_2 rfl n397_397 k397_397_1 m398.1, w_aload_n2 (pc' := 6) q397 d397_5 rfl, w_aload_n0 (pc' := 7) q397 d397_6 rfl, w_getV (pc' := 10) q397 d397_7 rfl f397_15, w_iload_n1 (pc' := 11) q397 d397_10 rfl, w_aload_n0 (pc' := 12) q397 d397_11 rfl, w_getI (pc' := 15) q397 d397_12 rfl f397_22, w_invr3 (pc' := 18) q397 d397_15 rfl n397_399 k397_399_0 m404.1, w_return q397 d397_18 m397.2.1, gs_off, gs_off0, gs_0off, gs_2, xN_0, xN_2, xN_3, xN_6, xN_7, xN_8, xN_9, xN_10, xN_11, xN_12, xN_13, xN_14, xN_15, xN_16, xN_17, xN_18, xN_19, xN_20, xN_21, xN_22, xN_23, xN_24, xN_25, xN_26, xN_27, xN_28, xN_29, xN_30, xN_31, xN_32, xN_33, xN_34, xN_35, xN_36, xN_37, xN_38, xN_39, xN_40, xN_41, xN_42, xN_43, xN_44, xN_45, xN_46, xN_47, xN_48, xN_49, xN_50, xN_51, xN_52, xN_53, xN_54, xN_55, ti_0, ti_1, ti_2, ti_3, ti_4, ti_5, ti_6, ti_7, ti_8, ti_9, ti_10, ti_16, ti_19, ti_20, ti_29, ti_30, ti_31, ti_32, ti_35, ti_36, ti_38, ti_39, ti_40, ti_41, ti_42, ti_43, ti_44, ti_45, ti_46, ti_47, ti_48, ti_49, ti_50, ti_51, ti_52, ti_53, ti_54, ti_55, ti_56, ti_57, ti_58, ti_59, ti_60, ti_61, ti_62, ti_63, ti_64, ti_65, ti_74, ti_77, ti_126, ti_200, ti_201, ti_202, ti_203, ti_204, ti_205, ti_210, ti_255, ti_256, ti_400, ti_512, ti_600, ti_601, ti_602, ti_1000, ti_1023, ti_1024, ti_2000, ti_10000, ti_12602, ti_999999, ti_m999999, ti_m1, ti_2000000, ti_3000000, xN_1, xN_4, xN_5, xN_60, xN_61, xN_64, xN_200, xN_800, xN_12000, xN_12602, eq_self, and_self, and_true, true_and, if_true, if_false, decide_true, Nat.reduceLeDiff, xc2_int, xc2_ref, xc2_ra, xc2_null, xc2_long, xc2_none, xisaT_ref, xisaT_ra, xisaT_null, xc1T_int, xc1T_ref, xc1T_ra, xc1T_null, xsum_nil, xsum_int, xsum_ref, xsum_ra, xsum_long, xsum_double, xsum_null, xfl_nil, xfl_int, xfl_ref, xfl_ra, xfl_null, xfl_long, xfl_double, List.length_cons, List.length_nil, s0, e1, hs, k398, k404, xfk, xfv, xak, xan, xcls, xsv', List.getElem?_cons_zero, List.getElem?_cons_succ, List.getD_cons_zero, List.getD_cons_succ, Option.getD_some, Option.isSome_some, if_true, if_pos, xcont, Option.toList_none, Option.toList_some, List.nil_append, List.cons_append]
  have e3' : gr g1 a r' b 3 = L.length := by rw [gr_row _ _ (fun e => ra e.symm)]; exact e3
  have k388 : ∀ Q, Cw X (d + 5) 388 [.ref b, .retAddr k] (hp S g) Q = Q (.inl (some (.ref b))) (hp S1 (gs (gr g1 a r') b 3 (L.length + Ls.length))) := fun Q => by
    rw [e388]
    simp (config := { decide := true }) only [w_aload_n1 (pc' := 1) q388 d388_0 rfl, w_ifnn_null (pc' := 4) q388 d388_1 rfl, w_ifnn_ref (tg := 9) q388 d388_1 (by decide), w_ifnn_ra (tg := 9) q388 d388_1 (by decide), w_aload_n1 (pc' := 10) q388 d388_9 rfl, w_invr0 (pc' := 13) q388 d388_10 rfl n388_32 k388_32_0 m399.1, w_istore_n2 (pc' := 14) q388 d388_13 rfl, w_aload_n0 (pc' := 15) q388 d388_14 rfl, w_aload_n0 (pc' := 16) q388 d388_15 rfl, w_getI (pc' := 19) q388 d388_16 rfl f388_79, w_iload_n2 (pc' := 20) q388 d388_19 rfl, w_iadd (pc' := 21) q388 d388_20 rfl, w_invv1 (ci := 1) (pc' := 24) q388 d388_21 rfl n388_100 k388_100_1 m394.1, w_aload_n0 (pc' := 25) q388 d388_24 rfl, w_aload_n0 (pc' := 26) q388 d388_25 rfl, w_getI (pc' := 29) q388 d388_26 rfl f388_79, w_aload_n1 (pc' := 30) q388 d388_29 rfl, w_invv2 (ci := 1) (pc' := 33) q388 d388_30 rfl n388_208 k388_208_1 m397.1, w_aload_n0 (pc' := 34) q388 d388_33 rfl, w_dup (pc' := 35) q388 d388_34 rfl, w_getI (pc' := 38) q388 d388_35 rfl f388_79, w_iload_n2 (pc' := 39) q388 d388_38 rfl, w_iadd (pc' := 40) q388 d388_39 rfl, w_putI (pc' := 43) q388 d388_40 rfl f388_79 rfl (by decide +kernel), w_aload_n0 (pc' := 44) q388 d388_43 rfl, w_areturn q388 d388_44 m388.2.1, gs_off, gs_off0, gs_0off, gs_2, xN_0, xN_2, xN_3, xN_6, xN_7, xN_8, xN_9, xN_10, xN_11, xN_12, xN_13, xN_14, xN_15, xN_16, xN_17, xN_18, xN_19, xN_20, xN_21, xN_22, xN_23, xN_24, xN_25, xN_26, xN_27, xN_28, xN_29, xN_30, xN_31, xN_32, xN_33, xN_34, xN_35, xN_36, xN_37, xN_38, xN_39, xN_40, xN_41, xN_42, xN_43, xN_44, xN_45, xN_46, xN_47, xN_48, xN_49, xN_50, xN_51, xN_52, xN_53, xN_54, xN_55, ti_0, ti_1, ti_2, ti_3, ti_4, ti_5, ti_6, ti_7, ti_8, ti_9, ti_10, ti_16, ti_19, ti_20, ti_29, ti_30, ti_31, ti_32, ti_35, ti_36, ti_38, ti_39, ti_40, ti_41, ti_42, ti_43, ti_44, ti_45, ti_46, ti_47, ti_48, ti_49, ti_50, ti_51, ti_52, ti_53, ti_54, ti_55, ti_56, ti_57, ti_58, ti_59, ti_60, ti_61, ti_62, ti_63, ti_64, ti_65, ti_74, ti_77, ti_126, ti_200, ti_201, ti_202, ti_203, ti_204, ti_205, ti_210, ti_255, ti_256, ti_400, ti_512, ti_600, ti_601, ti_602, ti_1000, ti_1023, ti_1024, ti_2000, ti_10000, ti_12602, ti_999999, ti_m999999, ti_m1, ti_2000000, ti_3000000, xN_1, xN_4, xN_5, xN_60, xN_61, xN_64, xN_200, xN_800, xN_12000, xN_12602, eq_self, and_self, and_true, true_and, if_true, if_false, decide_true, Nat.reduceLeDiff, xc2_int, xc2_ref, xc2_ra, xc2_null, xc2_long, xc2_none, xisaT_ref, xisaT_ra, xisaT_null, xc1T_int, xc1T_ref, xc1T_ra, xc1T_null, xsum_nil, xsum_int, xsum_ref, xsum_ra, xsum_long, xsum_double, xsum_null, xfl_nil, xfl_int, xfl_ref, xfl_ra, xfl_null, xfl_long, xfl_double, List.length_cons, List.length_nil, s00, s0, n3, hs, k399, k1, e3, k397, e3', xra_asb, xfk, xfv, xak, xan, xcls, xsv', List.getElem?_cons_zero, List.getElem?_cons_succ, List.getD_cons_zero, List.getD_cons_succ, Option.getD_some, Option.isSome_some, if_true, if_pos, xcont, Option.toList_none, Option.toList_some, List.nil_append, List.cons_append]
  refine ⟨S1, gs (gr g1 a r') b 3 (L.length + Ls.length), cap1, ?_, ⟨a, s0, s1, hab, hal, hc, ?_, ?_, ?_, ?_, ?_⟩, m1, fun Q => ?_⟩
  · obtain ⟨x1, x2, x3, x4, x5⟩ := X1
    exact ⟨x1, x2, fun h h1 h2 h3 => by rw [gs_row _ _ _ h1, gr_row _ _ (ra2 h h2 h3)]; exact x3 h h1 h2 h3, x4, x5⟩
  · rw [gs_at, if_neg (by decide), gr_row _ _ (fun e => ra e.symm)]; exact e1
  · rw [gs_at, if_pos rfl, List.length_append]
    omega
  · intro i
    rw [gs_row _ _ _ ra, gr_hit, er]
    dsimp only
    split
    · next h =>
      have := hrs (0 + (i - L.length)) (by omega) (by omega)
      omega
    · exact hr i
  · rw [gs_row _ _ _ ra, gr_hit]
    refine (TL_app _ L Ls 0).mpr ⟨TL_congr L 0 (fun j j1 j2 => ?_) hT, TL_sh Ls 0 _ hTs (fun j j1 j2 => ?_)⟩
    · rw [er]
      exact if_neg (by omega)
    · rw [er]
      dsimp only
      rw [if_pos (by omega)]
      congr 1
      omega
  · rw [List.length_append]
    omega
  · rw [e381]
    simp (config := { decide := true }) only [w_aload_n0 (pc' := 1) q381 d381_0 rfl, w_aload_n1 (pc' := 2) q381 d381_1 rfl, w_invp1 (pc' := 5) q381 d381_2 rfl (by decide +kernel) k381_29_98 m388.1, w_pop (pc' := 6) q381 d381_5 rfl, w_aload_n0 (pc' := 7) q381 d381_6 rfl, w_areturn q381 d381_7 m381.2.1, gs_off, gs_off0, gs_0off, gs_2, xN_0, xN_2, xN_3, xN_6, xN_7, xN_8, xN_9, xN_10, xN_11, xN_12, xN_13, xN_14, xN_15, xN_16, xN_17, xN_18, xN_19, xN_20, xN_21, xN_22, xN_23, xN_24, xN_25, xN_26, xN_27, xN_28, xN_29, xN_30, xN_31, xN_32, xN_33, xN_34, xN_35, xN_36, xN_37, xN_38, xN_39, xN_40, xN_41, xN_42, xN_43, xN_44, xN_45, xN_46, xN_47, xN_48, xN_49, xN_50, xN_51, xN_52, xN_53, xN_54, xN_55, ti_0, ti_1, ti_2, ti_3, ti_4, ti_5, ti_6, ti_7, ti_8, ti_9, ti_10, ti_16, ti_19, ti_20, ti_29, ti_30, ti_31, ti_32, ti_35, ti_36, ti_38, ti_39, ti_40, ti_41, ti_42, ti_43, ti_44, ti_45, ti_46, ti_47, ti_48, ti_49, ti_50, ti_51, ti_52, ti_53, ti_54, ti_55, ti_56, ti_57, ti_58, ti_59, ti_60, ti_61, ti_62, ti_63, ti_64, ti_65, ti_74, ti_77, ti_126, ti_200, ti_201, ti_202, ti_203, ti_204, ti_205, ti_210, ti_255, ti_256, ti_400, ti_512, ti_600, ti_601, ti_602, ti_1000, ti_1023, ti_1024, ti_2000, ti_10000, ti_12602, ti_999999, ti_m999999, ti_m1, ti_2000000, ti_3000000, xN_1, xN_4, xN_5, xN_60, xN_61, xN_64, xN_200, xN_800, xN_12000, xN_12602, eq_self, and_self, and_true, true_and, if_true, if_false, decide_true, Nat.reduceLeDiff, xc2_int, xc2_ref, xc2_ra, xc2_null, xc2_long, xc2_none, xisaT_ref, xisaT_ra, xisaT_null, xc1T_int, xc1T_ref, xc1T_ra, xc1T_null, xsum_nil, xsum_int, xsum_ref, xsum_ra, xsum_long, xsum_double, xsum_null, xfl_nil, xfl_int, xfl_ref, xfl_ra, xfl_null, xfl_long, xfl_double, List.length_cons, List.length_nil, s00, hs, k388, xra_sb, xfk, xfv, xak, xan, xcls, xsv', List.getElem?_cons_zero, List.getElem?_cons_succ, List.getD_cons_zero, List.getD_cons_succ, Option.getD_some, Option.isSome_some, if_true, if_pos, xcont, Option.toList_none, Option.toList_some, List.nil_append, List.cons_append]
/-! numbers -/
def digF : Nat → Int → List Int
  | 0, v => if v ≤ 9 then [48 + v] else [48 + v % 10, 48 + v / 10]
  | f + 1, v => if v ≤ 99 then (if v ≤ 9 then [48 + v] else [48 + v % 10, 48 + v / 10]) else (48 + v % 10) :: (48 + v / 10 % 10) :: digF f (v / 100)
def hunF : Nat → Int
  | 0 => 100
  | f + 1 => 100 * hunF f
theorem decF_s {f : Nat} {v : Int} (h0 : 0 ≤ v) (h : v ≤ 9) : decF f v = [48 + v] := by
  have e : v % 10 = v := by omega
  cases f with
  | zero => rw [decF, e]
  | succ f => rw [decF, if_pos h, e]
theorem decF_99 {f : Nat} {v : Int} (h0 : 0 ≤ v) (h : v ≤ 99) : decF (f + 1) v = (if v ≤ 9 then [48 + v] else [48 + v % 10, 48 + v / 10]).reverse := by
  by_cases h9 : v ≤ 9
  · rw [if_pos h9, decF_s h0 h9]; rfl
  · rw [if_neg h9, decF, if_neg h9, decF_s (by omega) (by omega)]; rfl
theorem dec_dig : ∀ (f : Nat) (v : Int), 0 ≤ v → v < hunF f → decF (2 * f + 2) v = (digF f v).reverse
  | 0, v, h0, h => by
    rw [digF]
    exact decF_99 h0 (by unfold hunF at h; omega)
  | f + 1, v, h0, h => by
    rw [digF]
    by_cases h99 : v ≤ 99
    · rw [if_pos h99]
      exact decF_99 h0 h99
    · rw [if_neg h99, show 2 * (f + 1) + 2 = (2 * f + 2) + 1 + 1 by omega, decF, if_neg (by omega), decF, if_neg (by omega), show v / 10 / 10 = v / 100 by omega, dec_dig f (v / 100) (by omega) (by unfold hunF at h; omega), List.reverse_cons, List.reverse_cons]
theorem digF_len : ∀ (f : Nat) (v : Int), 1 ≤ (digF f v).length ∧ (digF f v).length ≤ 2 * f + 2
  | 0, v => by
    rw [digF]
    split <;> simp
  | f + 1, v => by
    rw [digF]
    have := digF_len f (v / 100)
    split
    · split <;> simp
    · rw [List.length_cons, List.length_cons]; omega
/-- digits are written from the right to the left -/
def wr (g : xGm) (a : Nat) : Int → List Int → xGm
  | _, [] => g
  | e, x :: ds => wr (gs g a (e + -1) x) a (e + -1) ds
theorem wr_row {a h : Nat} (hh : ¬ h = a) : ∀ (ds : List Int) (e : Int) (g : xGm), wr g a e ds h = g h
  | [], _, _ => rfl
  | x :: ds, e, g => by
    unfold wr
    rw [wr_row hh ds (e + -1) _, gs_row _ _ _ hh]
end
