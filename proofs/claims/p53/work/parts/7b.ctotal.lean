/-! The class: chains, totals, the mean -/
section
variable {X : xX} {S : xLm} {g g' : xGm} {d c p k t o y b m : Nat} {w : xH} {Q : xO → xH → Prop} {P : Pd} {A A' : Sh} {sn : Option Sh} {H : List Sh}
theorem CdI_K (hI : CdI g c p k t o y P A sn H) : ∀ x, 0 ≤ x → x < 200 → g (k + 1 + 1) x = A.1 x ∧ (A.1 x = 2 → tkl g (k + 1) x = A.2.2.1 x) := fun x x1 x2 => ⟨(hI.2.1.2.1.1 x x1 x2).1, (hI.2.1.2.1.1 x x1 x2).2.2.1⟩
theorem chain_eq {ln : Int → Int} {z : Int} (hs : SlR A (flA A) (vlA A) (odA A) (onA A) (lnA A) (plA A)) (hI : CdI g c p k t o y P A sn H) (z1 : 0 ≤ z) (z2 : z < 200) (hc : 0 ≤ g (k + 7 + 4) z → ChS (RfA (g (k + 1 + 1)) (tkl g (k + 1))) (g (k + 7 + 3)) ln (g (k + 7) 4)) : (if g (k + 7 + 4) z < 0 then 0 else ln z) = lnA A z := by
  obtain ⟨K, T, hK, hs1, hs2, hs3, hs4, hs5⟩ := hs
  obtain ⟨h1, h2, h3, h4, h5⟩ := hI.2.1.1
  have hM := hI.2.1.2.1
  obtain ⟨u1, u2, u3, u4⟩ := Sol_uniq hI.2.1.2.2 (CdI_K hI) hK h5 hs1 (fun x x1 x2 e => by rw [(hM.1 x x1 x2).2.1 e, hs5 x x1 x2 (by omega), if_pos e])
  obtain ⟨l1, l2, l3, l4, l5, l6, l7⟩ := h3
  obtain ⟨o1, o2, o3, o4, -, -⟩ := l5
  by_cases ho : oin (g (k + 7 + 3)) (g (k + 7) 4) z
  · obtain ⟨i, i1, i2, rfl⟩ := ho
    have hpl : ¬ g (k + 7 + 4) (g (k + 7 + 3) i) < 0 := by rw [o3 i i1 i2]; omega
    rw [if_neg hpl]
    have hrng : ∀ j, 0 ≤ j → j < g (k + 7) 4 → 0 ≤ g (k + 7 + 3) j ∧ g (k + 7 + 3) j < 200 := fun j _ _ => by
      have := h4.2.1 j
      omega
    have := ChS_uniq (R := RfA (g (k + 1 + 1)) (tkl g (k + 1))) (R' := RfA K T) u2 (fun a q a1 a2 q1 q2 => u4 _ _ (hrng a a1 a2).1 (hrng a a1 a2).2) (hc (by omega)) (by rw [u1]; exact hs2)
    exact this i i1 i2
  · have ho' : ¬ oin (odA A) (onA A) z := fun e => ho (by rw [u1]; exact (oin_congr (fun i i1 i2 => u2 i i1 (by rw [u1]; exact i2))).mpr e)
    rw [if_pos (by rw [o4 z z1 z2 ho]; decide), (hs4 z z1 z2 ho').2]
theorem q_chain {z : Int} (hS : CsS S c p k t o y b m) (hI : CdI g c p k t o y P A sn H) (hs : SlR A (flA A) (vlA A) (odA A) (onA A) (lnA A) (plA A)) (tz : ti z = z) :
    (¬ isB z → CRs X S g c p k t o y b m 55 (d + 12) [.ref c, .int (iI z)] (.inr 0) P A sn H) ∧
    (isB z → flA A z = 5 → CRs X S g c p k t o y b m 55 (d + 12) [.ref c, .int (iI z)] (.inr 1) P A sn H) ∧
    (isB z → ¬ flA A z = 5 → CRs X S g c p k t o y b m 55 (d + 12) [.ref c, .int (iI z)] (.inl (some (.int (iI (lnA A z))))) P A sn H) := by
  have hS' := hS
  obtain ⟨c0, ⟨hp0, hk0, ht0, ho0, hy0⟩, hL⟩ := hS
  obtain ⟨k0, ⟨b0, b1, b2, b3, b4, b5⟩, kL⟩ := id hk0
  have l0 := kL.1
  obtain ⟨u1, u2, u3, u4⟩ := CdI_ans hs hI
  obtain ⟨n0, n1, n2⟩ := CdI_n hI
  have hrq := c_requireCell (X := X) (S := S) (g := g) (d := d + 10) tz
  have h55 : xMh 55 = [] := by decide +kernel
  have t5 : ti 5 = 5 := by decide
  refine ⟨fun h => CR_x hI fun Q => ?_, fun h hf => CR_x hI fun Q => ?_, fun h hf => ?_⟩
  · have hr := hrq.2 h
    rw [e55]
    simp (config := { decide := true }) only [w_iload_n1 (pc' := 1) q55 d55_0 rfl, w_invs1 (pc' := 4) q55 d55_1 rfl (by decide +kernel) k55_74_99 m15.1, gs_off, gs_off0, gs_0off, gs_2, xN_0, xN_2, xN_3, xN_6, xN_7, xN_8, xN_9, xN_10, xN_11, xN_12, xN_13, xN_14, xN_15, xN_16, xN_17, xN_18, xN_19, xN_20, xN_21, xN_22, xN_23, xN_24, xN_25, xN_26, xN_27, xN_28, xN_29, xN_30, xN_31, xN_32, xN_33, xN_34, xN_35, xN_36, xN_37, xN_38, xN_39, xN_40, xN_41, xN_42, xN_43, xN_44, xN_45, xN_46, xN_47, xN_48, xN_49, xN_50, xN_51, xN_52, xN_53, xN_54, xN_55, ti_0, ti_1, ti_2, ti_3, ti_4, ti_5, ti_6, ti_7, ti_8, ti_9, ti_10, ti_16, ti_19, ti_20, ti_29, ti_30, ti_31, ti_32, ti_35, ti_36, ti_38, ti_39, ti_40, ti_41, ti_42, ti_43, ti_44, ti_45, ti_46, ti_47, ti_48, ti_49, ti_50, ti_51, ti_52, ti_53, ti_54, ti_55, ti_56, ti_57, ti_58, ti_59, ti_60, ti_61, ti_62, ti_63, ti_64, ti_65, ti_74, ti_77, ti_126, ti_200, ti_201, ti_202, ti_203, ti_204, ti_205, ti_210, ti_255, ti_256, ti_400, ti_512, ti_600, ti_601, ti_602, ti_1000, ti_1023, ti_1024, ti_2000, ti_10000, ti_12602, ti_999999, ti_m999999, ti_m1, ti_2000000, ti_3000000, xN_1, xN_4, xN_5, xN_60, xN_61, xN_64, xN_200, xN_800, xN_12000, xN_12602, eq_self, and_self, and_true, true_and, if_true, if_false, decide_true, Nat.reduceLeDiff, xc2_int, xc2_ref, xc2_ra, xc2_null, xc2_long, xc2_none, xisaT_ref, xisaT_ra, xisaT_null, xc1T_int, xc1T_ref, xc1T_ra, xc1T_null, xsum_nil, xsum_int, xsum_ref, xsum_ra, xsum_long, xsum_double, xsum_null, xfl_nil, xfl_int, xfl_ref, xfl_ra, xfl_null, xfl_long, xfl_double, List.length_cons, List.length_nil, hr, xth_n h55, xfk, xfv, xak, xan, xcls, xsv', List.getElem?_cons_zero, List.getElem?_cons_succ, List.getD_cons_zero, List.getD_cons_succ, Option.getD_some, Option.isSome_some, if_true, if_pos, xcont, Option.toList_none, Option.toList_some, List.nil_append, List.cons_append]
  · have hr := hrq.1 h
    obtain ⟨z1, z2⟩ := id h
    have v1 := (u3 z z1 z2).1
    rw [e55]
    simp (config := { decide := true }) only [w_iload_n1 (pc' := 1) q55 d55_0 rfl, w_invs1 (pc' := 4) q55 d55_1 rfl (by decide +kernel) k55_74_99 m15.1, w_aload_n0 (pc' := 5) q55 d55_4 rfl, w_getV (pc' := 8) q55 d55_5 rfl f55_19, w_getV (pc' := 11) q55 d55_8 rfl f55_80, w_getV (pc' := 14) q55 d55_11 rfl f55_245, w_iload_n1 (pc' := 15) q55 d55_14 rfl, w_iaload (pc' := 16) q55 d55_15 rfl, w_iconst (pc' := 17) q55 d55_16 rfl, w_icmp_ne (tg := 30) (pc' := 20) q55 d55_17 (by decide) rfl, w_throw (ee := 1) q55 d55_20 (by decide +kernel), w_aload_n0 (pc' := 31) q55 d55_30 rfl, w_getV (pc' := 34) q55 d55_31 rfl f55_19, w_getV (pc' := 37) q55 d55_34 rfl f55_210, w_iload_n1 (pc' := 38) q55 d55_37 rfl, w_invv1 (ci := 6) (pc' := 41) q55 d55_38 rfl n55_250 k55_250_6 m117.1, w_ireturn q55 d55_41 m55.2.1, gs_off, gs_off0, gs_0off, gs_2, xN_0, xN_2, xN_3, xN_6, xN_7, xN_8, xN_9, xN_10, xN_11, xN_12, xN_13, xN_14, xN_15, xN_16, xN_17, xN_18, xN_19, xN_20, xN_21, xN_22, xN_23, xN_24, xN_25, xN_26, xN_27, xN_28, xN_29, xN_30, xN_31, xN_32, xN_33, xN_34, xN_35, xN_36, xN_37, xN_38, xN_39, xN_40, xN_41, xN_42, xN_43, xN_44, xN_45, xN_46, xN_47, xN_48, xN_49, xN_50, xN_51, xN_52, xN_53, xN_54, xN_55, ti_0, ti_1, ti_2, ti_3, ti_4, ti_5, ti_6, ti_7, ti_8, ti_9, ti_10, ti_16, ti_19, ti_20, ti_29, ti_30, ti_31, ti_32, ti_35, ti_36, ti_38, ti_39, ti_40, ti_41, ti_42, ti_43, ti_44, ti_45, ti_46, ti_47, ti_48, ti_49, ti_50, ti_51, ti_52, ti_53, ti_54, ti_55, ti_56, ti_57, ti_58, ti_59, ti_60, ti_61, ti_62, ti_63, ti_64, ti_65, ti_74, ti_77, ti_126, ti_200, ti_201, ti_202, ti_203, ti_204, ti_205, ti_210, ti_255, ti_256, ti_400, ti_512, ti_600, ti_601, ti_602, ti_1000, ti_1023, ti_1024, ti_2000, ti_10000, ti_12602, ti_999999, ti_m999999, ti_m1, ti_2000000, ti_3000000, xN_1, xN_4, xN_5, xN_60, xN_61, xN_64, xN_200, xN_800, xN_12000, xN_12602, eq_self, and_self, and_true, true_and, if_true, if_false, decide_true, Nat.reduceLeDiff, xc2_int, xc2_ref, xc2_ra, xc2_null, xc2_long, xc2_none, xisaT_ref, xisaT_ra, xisaT_null, xc1T_int, xc1T_ref, xc1T_ra, xc1T_null, xsum_nil, xsum_int, xsum_ref, xsum_ra, xsum_long, xsum_double, xsum_null, xfl_nil, xfl_int, xfl_ref, xfl_ra, xfl_null, xfl_long, xfl_double, List.length_cons, List.length_nil, hr, c0, k0, b0, b3, tz, z1, z2, v1, hf, t5, xfk, xfv, xak, xan, xcls, xsv', List.getElem?_cons_zero, List.getElem?_cons_succ, List.getD_cons_zero, List.getD_cons_succ, Option.getD_some, Option.isSome_some, if_true, if_pos, xcont, Option.toList_none, Option.toList_some, List.nil_append, List.cons_append]
  · have hr := hrq.1 h
    obtain ⟨z1, z2⟩ := id h
    have v1 := (u3 z z1 z2).1
    have rz := hI.2.1.1.1.2.2.1 z
    rw [v1] at rz
    have tf : ti (flA A z) = flA A z := ti_eq (by omega) (by omega)
    obtain ⟨g', f1, f2, f3⟩ := c_chainLength (X := X) (d := d + 10) (g := g) kL hI.2.1.1.2.2.1 n1 z1 z2
    rw [chain_eq hs hI z1 z2 f2] at f3
    have hR := hI.2.1.1.2.2.2.1
    refine CR_g hS' (fun j j1 => f1 j (by omega)) (CdI_marks (by omega) (fun j _ _ a3 => f1 j a3) (by unfold rg; rw [f1 _ (by omega)]; exact hR.2.2.2.2.1) (by unfold rg; rw [f1 _ (by omega)]; exact hR.2.2.2.2.2) hI) fun Q => ?_
    rw [e55]
    simp (config := { decide := true }) only [w_iload_n1 (pc' := 1) q55 d55_0 rfl, w_invs1 (pc' := 4) q55 d55_1 rfl (by decide +kernel) k55_74_99 m15.1, w_aload_n0 (pc' := 5) q55 d55_4 rfl, w_getV (pc' := 8) q55 d55_5 rfl f55_19, w_getV (pc' := 11) q55 d55_8 rfl f55_80, w_getV (pc' := 14) q55 d55_11 rfl f55_245, w_iload_n1 (pc' := 15) q55 d55_14 rfl, w_iaload (pc' := 16) q55 d55_15 rfl, w_iconst (pc' := 17) q55 d55_16 rfl, w_icmp_ne (tg := 30) (pc' := 20) q55 d55_17 (by decide) rfl, w_throw (ee := 1) q55 d55_20 (by decide +kernel), w_aload_n0 (pc' := 31) q55 d55_30 rfl, w_getV (pc' := 34) q55 d55_31 rfl f55_19, w_getV (pc' := 37) q55 d55_34 rfl f55_210, w_iload_n1 (pc' := 38) q55 d55_37 rfl, w_invv1 (ci := 6) (pc' := 41) q55 d55_38 rfl n55_250 k55_250_6 m117.1, w_ireturn q55 d55_41 m55.2.1, gs_off, gs_off0, gs_0off, gs_2, xN_0, xN_2, xN_3, xN_6, xN_7, xN_8, xN_9, xN_10, xN_11, xN_12, xN_13, xN_14, xN_15, xN_16, xN_17, xN_18, xN_19, xN_20, xN_21, xN_22, xN_23, xN_24, xN_25, xN_26, xN_27, xN_28, xN_29, xN_30, xN_31, xN_32, xN_33, xN_34, xN_35, xN_36, xN_37, xN_38, xN_39, xN_40, xN_41, xN_42, xN_43, xN_44, xN_45, xN_46, xN_47, xN_48, xN_49, xN_50, xN_51, xN_52, xN_53, xN_54, xN_55, ti_0, ti_1, ti_2, ti_3, ti_4, ti_5, ti_6, ti_7, ti_8, ti_9, ti_10, ti_16, ti_19, ti_20, ti_29, ti_30, ti_31, ti_32, ti_35, ti_36, ti_38, ti_39, ti_40, ti_41, ti_42, ti_43, ti_44, ti_45, ti_46, ti_47, ti_48, ti_49, ti_50, ti_51, ti_52, ti_53, ti_54, ti_55, ti_56, ti_57, ti_58, ti_59, ti_60, ti_61, ti_62, ti_63, ti_64, ti_65, ti_74, ti_77, ti_126, ti_200, ti_201, ti_202, ti_203, ti_204, ti_205, ti_210, ti_255, ti_256, ti_400, ti_512, ti_600, ti_601, ti_602, ti_1000, ti_1023, ti_1024, ti_2000, ti_10000, ti_12602, ti_999999, ti_m999999, ti_m1, ti_2000000, ti_3000000, xN_1, xN_4, xN_5, xN_60, xN_61, xN_64, xN_200, xN_800, xN_12000, xN_12602, eq_self, and_self, and_true, true_and, if_true, if_false, decide_true, Nat.reduceLeDiff, xc2_int, xc2_ref, xc2_ra, xc2_null, xc2_long, xc2_none, xisaT_ref, xisaT_ra, xisaT_null, xc1T_int, xc1T_ref, xc1T_ra, xc1T_null, xsum_nil, xsum_int, xsum_ref, xsum_ra, xsum_long, xsum_double, xsum_null, xfl_nil, xfl_int, xfl_ref, xfl_ra, xfl_null, xfl_long, xfl_double, List.length_cons, List.length_nil, hr, c0, k0, b0, b3, l0, tz, z1, z2, v1, tf, hf, t5, f3, xfk, xfv, xak, xan, xcls, xsv', List.getElem?_cons_zero, List.getElem?_cons_succ, List.getD_cons_zero, List.getD_cons_succ, Option.getD_some, Option.isSome_some, if_true, if_pos, xcont, Option.toList_none, Option.toList_some, List.nil_append, List.cons_append]
theorem CdI_zero {x : Int} (hs : SlR A (flA A) (vlA A) (odA A) (onA A) (lnA A) (plA A)) (hI : CdI g c p k t o y P A sn H) (x1 : 0 ≤ x) (x2 : x < 200) (h : ¬ flA A x = 0) : vlA A x = 0 := by
  obtain ⟨u1, u2, u3, u4⟩ := CdI_ans hs hI
  obtain ⟨v1, v2, -⟩ := u3 x x1 x2
  obtain ⟨h1, h2, h3, h4, h5⟩ := hI.2.1.1
  obtain ⟨r1, r2, r3, r4⟩ := h5.2.2.2 x x1 x2
  rw [← v2]
  rw [← v1] at h
  by_cases hk : g (k + 1 + 1) x = 2
  · by_cases ho : oin (g (k + 7 + 3)) (g (k + 7) 4) x
    · obtain ⟨q1, q2⟩ := r1 hk ho
      have hl : (tkl g (k + 1) x).length ≤ 60 := by
        rw [tkl_len]
        have := h1.2.2.2.1 x
        omega
      have hg := evT_good (K := g (k + 1 + 1)) (Er := g (k + 1 + 3)) (R := g (k + 1 + 2)) (fun c => by
        have a1 := h1.2.2.1 c
        have a2 := h1.2.1 c
        unfold okE at *
        omega) (h2 x x1 x2 hk) hl
      rw [q1] at h
      rw [q2]
      unfold goodV at hg
      omega
    · exact (r2 hk ho).2
  · exact absurd (r3 hk) h
end
