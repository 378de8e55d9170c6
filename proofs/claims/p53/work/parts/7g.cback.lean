/-! The class: back to what was kept; undo -/
section
variable {X : xX} {S : xLm} {g g' : xGm} {d c p k t o y b m : Nat} {w : xH} {Q : xO → xH → Prop} {P P' : Pd} {A A' B : Sh} {sn : Option Sh} {H : List Sh}
/-- the sheet becomes a State -/
theorem c_becomes {a : Nat} (hS : CsS S c p k t o y b m) (hI : CdI g c p k t o y P A sn H) (hO : StS S a) (hka : k + 14 < a) (hR : StR g a) (hB : StA g a B) (hBo : ShOK B) :
    ∃ g', (∀ h, h < k ∨ k + 15 < h → g' h = g h) ∧ CdI g' c p k t o y P B sn H ∧ ∀ Q, Cw X (d + 10) 84 [.ref k, .ref a] (hp S g) Q = Q (.inl none) (hp S g') := by
  obtain ⟨c0, ⟨hp0, hk0, ht0, ho0, hy0⟩, hL⟩ := hS
  have hC := hI.2.1.1
  obtain ⟨g', f1, k1, k2, k3, k4, k5⟩ := c_become (X := X) (g := g) (D := d + 10) hk0 hO (.inr hka) ⟨hC.1, hC.2.2.2.1⟩ hR (by omega)
  have hrow : ∀ h, h < k ∨ k + 15 < h → g' h = g h := fun h hh => f1 h (by omega) (by omega)
  exact ⟨g', hrow, CdI_calc (by omega) hrow k1 (StA_copy hB k2 k1.1 hR.1 k3 k4) hBo hI, k5⟩
theorem q_filB (hS : CsS S c p k t o y b m) (hI : CdI g c p k t o y P A sn H) : ∀ Q, Cw X d 152 [.ref (k + 1)] (hp S g) Q = Q (.inl (some (.int (iI (qFil A))))) (hp S g) := by
  intro Q
  have f1 := c_countOfFilled (X := X) (d := d) (g := g) (Q := Q) hS.2.1.2.1.2.1
  have w1 : sumf (fun j => if ti (g (k + 1 + 1) j) = 0 then 0 else 1) 0 200 = qFil A := sumf_congr 200 0 (fun j j1 j2 => by
    have hz := hI.2.1.1.1.1 j
    rw [ti_eq (by omega) (by omega), (hI.2.1.2.1.1 j j1 (by omega)).1])
  rw [w1] at f1
  exact f1
theorem q_goBack (hS : CsS S c p k t o y b m) (hI : CdI g c p k t o y P A sn H) :
    (sn = none → CRs X S g c p k t o y b m 29 (d + 12) [.ref c] (.inr 1) P A sn H) ∧
    (∀ B, sn = some B → CRs X S g c p k t o y b m 29 (d + 12) [.ref c] (.inl (some (.int (iI (qFil B))))) P B sn (recH A H)) := by
  have hS' := hS
  obtain ⟨c0, ⟨hp0, hk0, ht0, ho0, hy0⟩, hL⟩ := hS
  obtain ⟨k0, kS, kL⟩ := id hk0
  have b0 := kS.1
  have y0 := hy0.1
  refine ⟨fun hsn => CR_x hI fun Q => ?_, fun B hsn => ?_⟩
  · subst hsn
    have h4 : g c 4 = 0 := hI.2.2.2.1.2
    rw [e29]
    simp (config := { decide := true }) only [w_aload_n0 (pc' := 1) q29 d29_0 rfl, w_getI (pc' := 4) q29 d29_1 rfl f29_158, w_if_ne (tg := 17) (pc' := 7) q29 d29_4 (by decide) rfl, w_throw (ee := 1) q29 d29_7 (by decide +kernel), w_aload_n0 (pc' := 18) q29 d29_17 rfl, w_getV (pc' := 21) q29 d29_18 rfl f29_36, w_aload_n0 (pc' := 22) q29 d29_21 rfl, w_getV (pc' := 25) q29 d29_22 rfl f29_19, w_getV (pc' := 28) q29 d29_25 rfl f29_80, w_invv1 (ci := 4) (pc' := 31) q29 d29_28 rfl n29_83 k29_83_4 m90.1, w_pop (pc' := 32) q29 d29_31 rfl, w_aload_n0 (pc' := 33) q29 d29_32 rfl, w_getV (pc' := 36) q29 d29_33 rfl f29_19, w_aload_n0 (pc' := 37) q29 d29_36 rfl, w_getV (pc' := 40) q29 d29_37 rfl f29_29, w_invv1 (ci := 2) (pc' := 43) q29 d29_40 rfl n29_164 k29_164_2 m84.1, w_aload_n0 (pc' := 44) q29 d29_43 rfl, w_getV (pc' := 47) q29 d29_44 rfl f29_19, w_getV (pc' := 50) q29 d29_47 rfl f29_80, w_invv0 (ci := 9) (pc' := 53) q29 d29_50 rfl n29_168 k29_168_9 m152.1, w_ireturn q29 d29_53 m29.2.1, gs_off, gs_off0, gs_0off, gs_2, xN_0, xN_2, xN_3, xN_6, xN_7, xN_8, xN_9, xN_10, xN_11, xN_12, xN_13, xN_14, xN_15, xN_16, xN_17, xN_18, xN_19, xN_20, xN_21, xN_22, xN_23, xN_24, xN_25, xN_26, xN_27, xN_28, xN_29, xN_30, xN_31, xN_32, xN_33, xN_34, xN_35, xN_36, xN_37, xN_38, xN_39, xN_40, xN_41, xN_42, xN_43, xN_44, xN_45, xN_46, xN_47, xN_48, xN_49, xN_50, xN_51, xN_52, xN_53, xN_54, xN_55, ti_0, ti_1, ti_2, ti_3, ti_4, ti_5, ti_6, ti_7, ti_8, ti_9, ti_10, ti_16, ti_19, ti_20, ti_29, ti_30, ti_31, ti_32, ti_35, ti_36, ti_38, ti_39, ti_40, ti_41, ti_42, ti_43, ti_44, ti_45, ti_46, ti_47, ti_48, ti_49, ti_50, ti_51, ti_52, ti_53, ti_54, ti_55, ti_56, ti_57, ti_58, ti_59, ti_60, ti_61, ti_62, ti_63, ti_64, ti_65, ti_74, ti_77, ti_126, ti_200, ti_201, ti_202, ti_203, ti_204, ti_205, ti_210, ti_255, ti_256, ti_400, ti_512, ti_600, ti_601, ti_602, ti_1000, ti_1023, ti_1024, ti_2000, ti_10000, ti_12602, ti_999999, ti_m999999, ti_m1, ti_2000000, ti_3000000, xN_1, xN_4, xN_5, xN_60, xN_61, xN_64, xN_200, xN_800, xN_12000, xN_12602, eq_self, and_self, and_true, true_and, if_true, if_false, decide_true, Nat.reduceLeDiff, xc2_int, xc2_ref, xc2_ra, xc2_null, xc2_long, xc2_none, xisaT_ref, xisaT_ra, xisaT_null, xc1T_int, xc1T_ref, xc1T_ra, xc1T_null, xsum_nil, xsum_int, xsum_ref, xsum_ra, xsum_long, xsum_double, xsum_null, xfl_nil, xfl_int, xfl_ref, xfl_ra, xfl_null, xfl_long, xfl_double, List.length_cons, List.length_nil, c0, h4, ti_0, xfk, xfv, xak, xan, xcls, xsv', List.getElem?_cons_zero, List.getElem?_cons_succ, List.getD_cons_zero, List.getD_cons_succ, Option.getD_some, Option.isSome_some, if_true, if_pos, xcont, Option.toList_none, Option.toList_some, List.nil_append, List.cons_append]
  · subst hsn
    have h4 : g c 4 = 1 := hI.2.2.2.1.2.1
    obtain ⟨q, g1, hq, f1, i1, -, -, k1⟩ := c_rec (X := X) (d := d + 6) hS' hI
    have hB := i1.2.2.2.1.2
    obtain ⟨g2, f2, i2, k2⟩ := c_becomes (X := X) (d := d + 1) hS' i1 ho0 (by omega) hB.2.2.1 hB.2.2.2 hB.2.1
    have hfl := q_filB (X := X) (d := d + 11) hS' i2
    refine CR_g hS' (fun j j1 => (f2 j (by omega)).trans (f1 j (by omega))) i2 fun Q => ?_
    rw [e29]
    simp (config := { decide := true }) only [w_aload_n0 (pc' := 1) q29 d29_0 rfl, w_getI (pc' := 4) q29 d29_1 rfl f29_158, w_if_ne (tg := 17) (pc' := 7) q29 d29_4 (by decide) rfl, w_throw (ee := 1) q29 d29_7 (by decide +kernel), w_aload_n0 (pc' := 18) q29 d29_17 rfl, w_getV (pc' := 21) q29 d29_18 rfl f29_36, w_aload_n0 (pc' := 22) q29 d29_21 rfl, w_getV (pc' := 25) q29 d29_22 rfl f29_19, w_getV (pc' := 28) q29 d29_25 rfl f29_80, w_invv1 (ci := 4) (pc' := 31) q29 d29_28 rfl n29_83 k29_83_4 m90.1, w_pop (pc' := 32) q29 d29_31 rfl, w_aload_n0 (pc' := 33) q29 d29_32 rfl, w_getV (pc' := 36) q29 d29_33 rfl f29_19, w_aload_n0 (pc' := 37) q29 d29_36 rfl, w_getV (pc' := 40) q29 d29_37 rfl f29_29, w_invv1 (ci := 2) (pc' := 43) q29 d29_40 rfl n29_164 k29_164_2 m84.1, w_aload_n0 (pc' := 44) q29 d29_43 rfl, w_getV (pc' := 47) q29 d29_44 rfl f29_19, w_getV (pc' := 50) q29 d29_47 rfl f29_80, w_invv0 (ci := 9) (pc' := 53) q29 d29_50 rfl n29_168 k29_168_9 m152.1, w_ireturn q29 d29_53 m29.2.1, gs_off, gs_off0, gs_0off, gs_2, xN_0, xN_2, xN_3, xN_6, xN_7, xN_8, xN_9, xN_10, xN_11, xN_12, xN_13, xN_14, xN_15, xN_16, xN_17, xN_18, xN_19, xN_20, xN_21, xN_22, xN_23, xN_24, xN_25, xN_26, xN_27, xN_28, xN_29, xN_30, xN_31, xN_32, xN_33, xN_34, xN_35, xN_36, xN_37, xN_38, xN_39, xN_40, xN_41, xN_42, xN_43, xN_44, xN_45, xN_46, xN_47, xN_48, xN_49, xN_50, xN_51, xN_52, xN_53, xN_54, xN_55, ti_0, ti_1, ti_2, ti_3, ti_4, ti_5, ti_6, ti_7, ti_8, ti_9, ti_10, ti_16, ti_19, ti_20, ti_29, ti_30, ti_31, ti_32, ti_35, ti_36, ti_38, ti_39, ti_40, ti_41, ti_42, ti_43, ti_44, ti_45, ti_46, ti_47, ti_48, ti_49, ti_50, ti_51, ti_52, ti_53, ti_54, ti_55, ti_56, ti_57, ti_58, ti_59, ti_60, ti_61, ti_62, ti_63, ti_64, ti_65, ti_74, ti_77, ti_126, ti_200, ti_201, ti_202, ti_203, ti_204, ti_205, ti_210, ti_255, ti_256, ti_400, ti_512, ti_600, ti_601, ti_602, ti_1000, ti_1023, ti_1024, ti_2000, ti_10000, ti_12602, ti_999999, ti_m999999, ti_m1, ti_2000000, ti_3000000, xN_1, xN_4, xN_5, xN_60, xN_61, xN_64, xN_200, xN_800, xN_12000, xN_12602, eq_self, and_self, and_true, true_and, if_true, if_false, decide_true, Nat.reduceLeDiff, xc2_int, xc2_ref, xc2_ra, xc2_null, xc2_long, xc2_none, xisaT_ref, xisaT_ra, xisaT_null, xc1T_int, xc1T_ref, xc1T_ra, xc1T_null, xsum_nil, xsum_int, xsum_ref, xsum_ra, xsum_long, xsum_double, xsum_null, xfl_nil, xfl_int, xfl_ref, xfl_ra, xfl_null, xfl_long, xfl_double, List.length_cons, List.length_nil, c0, k0, b0, y0, h4, k1, k2, hfl, xfk, xfv, xak, xan, xcls, xsv', List.getElem?_cons_zero, List.getElem?_cons_succ, List.getD_cons_zero, List.getD_cons_succ, Option.getD_some, Option.isSome_some, if_true, if_pos, xcont, Option.toList_none, Option.toList_some, List.nil_append, List.cons_append]
theorem q_undo (hS : CsS S c p k t o y b m) (hI : CdI g c p k t o y P A sn H) :
    (H = [] → CRs X S g c p k t o y b m 30 (d + 12) [.ref c] (.inr 1) P A sn H) ∧
    (∀ B H', H = B :: H' → CRs X S g c p k t o y b m 30 (d + 12) [.ref c] (.inl (some (.int (iI H'.length)))) P B sn H') := by
  have hS' := hS
  obtain ⟨c0, ⟨hp0, hk0, ht0, ho0, hy0⟩, hL⟩ := hS
  obtain ⟨k0, kS, kL⟩ := id hk0
  have y0 := hy0.1
  obtain ⟨hP, ⟨hC, hM, hA⟩, hT, hSn, hHs, hHi, hn2, hlen, hall⟩ := id hI
  refine ⟨fun hH => CR_x hI fun Q => ?_, fun B H' hH => ?_⟩
  · subst hH
    have hn := fun Q => c_takeNone (X := X) (d := d + 10) (g := g) (Q := Q) hy0 hn2 rfl
    rw [e30]
    simp (config := { decide := true }) only [w_aload_n0 (pc' := 1) q30 d30_0 rfl, w_getV (pc' := 4) q30 d30_1 rfl f30_36, w_invv0 (ci := 4) (pc' := 7) q30 d30_4 rfl n30_174 k30_174_4 m91.1, w_astore_n1 (pc' := 8) q30 d30_7 rfl, w_aload_n1 (pc' := 9) q30 d30_8 rfl, w_ifnn_null (pc' := 12) q30 d30_9 rfl, w_ifnn_ref (tg := 22) q30 d30_9 (by decide), w_ifnn_ra (tg := 22) q30 d30_9 (by decide), w_throw (ee := 1) q30 d30_12 (by decide +kernel), w_aload_n0 (pc' := 23) q30 d30_22 rfl, w_getV (pc' := 26) q30 d30_23 rfl f30_19, w_aload_n1 (pc' := 27) q30 d30_26 rfl, w_invv1 (ci := 2) (pc' := 30) q30 d30_27 rfl n30_164 k30_164_2 m84.1, w_aload_n0 (pc' := 31) q30 d30_30 rfl, w_getV (pc' := 34) q30 d30_31 rfl f30_36, w_getI (pc' := 37) q30 d30_34 rfl f30_180, w_ireturn q30 d30_37 m30.2.1, gs_off, gs_off0, gs_0off, gs_2, xN_0, xN_2, xN_3, xN_6, xN_7, xN_8, xN_9, xN_10, xN_11, xN_12, xN_13, xN_14, xN_15, xN_16, xN_17, xN_18, xN_19, xN_20, xN_21, xN_22, xN_23, xN_24, xN_25, xN_26, xN_27, xN_28, xN_29, xN_30, xN_31, xN_32, xN_33, xN_34, xN_35, xN_36, xN_37, xN_38, xN_39, xN_40, xN_41, xN_42, xN_43, xN_44, xN_45, xN_46, xN_47, xN_48, xN_49, xN_50, xN_51, xN_52, xN_53, xN_54, xN_55, ti_0, ti_1, ti_2, ti_3, ti_4, ti_5, ti_6, ti_7, ti_8, ti_9, ti_10, ti_16, ti_19, ti_20, ti_29, ti_30, ti_31, ti_32, ti_35, ti_36, ti_38, ti_39, ti_40, ti_41, ti_42, ti_43, ti_44, ti_45, ti_46, ti_47, ti_48, ti_49, ti_50, ti_51, ti_52, ti_53, ti_54, ti_55, ti_56, ti_57, ti_58, ti_59, ti_60, ti_61, ti_62, ti_63, ti_64, ti_65, ti_74, ti_77, ti_126, ti_200, ti_201, ti_202, ti_203, ti_204, ti_205, ti_210, ti_255, ti_256, ti_400, ti_512, ti_600, ti_601, ti_602, ti_1000, ti_1023, ti_1024, ti_2000, ti_10000, ti_12602, ti_999999, ti_m999999, ti_m1, ti_2000000, ti_3000000, xN_1, xN_4, xN_5, xN_60, xN_61, xN_64, xN_200, xN_800, xN_12000, xN_12602, eq_self, and_self, and_true, true_and, if_true, if_false, decide_true, Nat.reduceLeDiff, xc2_int, xc2_ref, xc2_ra, xc2_null, xc2_long, xc2_none, xisaT_ref, xisaT_ra, xisaT_null, xc1T_int, xc1T_ref, xc1T_ra, xc1T_null, xsum_nil, xsum_int, xsum_ref, xsum_ra, xsum_long, xsum_double, xsum_null, xfl_nil, xfl_int, xfl_ref, xfl_ra, xfl_null, xfl_long, xfl_double, List.length_cons, List.length_nil, c0, y0, hn, xfk, xfv, xak, xan, xcls, xsv', List.getElem?_cons_zero, List.getElem?_cons_succ, List.getD_cons_zero, List.getD_cons_succ, Option.getD_some, Option.isSome_some, if_true, if_pos, xcont, Option.toList_none, Option.toList_some, List.nil_append, List.cons_append]
  · subst hH
    obtain ⟨i1, i2, i3⟩ := id hHs
    obtain ⟨q, hq⟩ : ∃ q : Nat, g y 1 = q := ⟨(g y 1).toNat, by omega⟩
    have hn3 : g y 2 = H'.length + 1 := by rw [hn2, List.length_cons]; omega
    have hlt := fun Q => c_takeLatest (X := X) (d := d + 10) (g := g) (r := H'.length + 1) (Q := Q) hy0 hHs hq hn3 (by omega)
    obtain ⟨hB, q0, hq0, hq1, hq2, hq3⟩ := hall 0 B rfl
    obtain rfl : q0 = q := by omega
    obtain ⟨G, eG⟩ : ∃ G, G = gs (gs g y 2 ((H'.length : Int) + 1 - 1)) y 1 (((q0 : Int) + 4 - 1) % 4) := ⟨_, rfl⟩
    rw [← eG] at hlt
    have hrow : ∀ h, ¬ h = y → G h = g h := fun h hh => by rw [eG, gs_row _ _ _ hh, gs_row _ _ _ hh]
    have y1 : G y 1 = ((q0 : Int) + 4 - 1) % 4 := by rw [eG, gs_at, if_pos rfl]
    have y2 : G y 2 = H'.length := by rw [eG, gs_at, if_neg (by decide), gs_at, if_pos rfl]; omega
    have iG : CdI G c p k t o y P A sn H' := by
      refine ⟨PdC_congr (by rw [hrow p (by omega)]) (hrow _ (by omega)) hP, ⟨ClI_congr (fun j _ _ => hrow j (by omega)) hC, StA_congr (fun j _ => hrow _ (by omega)) hM, hA⟩, TrI_congr (fun j _ _ => hrow j (by omega)) hT, SnC_congr (by rw [hrow c (by omega)]) (fun j _ => hrow _ (by omega)) hSn, ⟨?_, ?_, ?_⟩, fun q' hq' => StI_congr (fun j _ _ => hrow _ (by omega)) (hHi q' hq'), y2, by rw [List.length_cons] at hlen; omega, fun i B' hB' => ?_⟩
      · intro q' hq'; rw [hrow (y + 1) (by omega)]; exact i1 q' hq'
      · rw [y1]; omega
      · rw [y2]; rw [List.length_cons] at hlen; omega
      · obtain ⟨b1, q', b2, b3, b4, b5⟩ := hall (i + 1) B' (by rw [List.getElem?_cons_succ]; exact hB')
        have hi : i < H'.length := (List.getElem?_eq_some_iff.mp hB').1
        rw [List.length_cons] at hlen
        exact ⟨b1, q', b2, by rw [y1]; omega, StR_congr (fun j _ => hrow _ (by omega)) b4, StA_congr (fun j _ => hrow _ (by omega)) b5⟩
    have hSt := hy0.2.2 q0 hq0
    obtain ⟨g2, f2, i2', k2⟩ := c_becomes (X := X) (d := d + 1) hS' iG hSt (by omega) (StR_congr (fun j _ => hrow _ (by omega)) hq2) (StA_congr (fun j _ => hrow _ (by omega)) hq3) hB
    have z2 : g2 y 2 = H'.length := by rw [f2 y (by omega)]; exact y2
    refine CR_g hS' (fun j j1 => (f2 j (by omega)).trans (hrow j (by omega))) i2' fun Q => ?_
    rw [e30]
    simp (config := { decide := true }) only [w_aload_n0 (pc' := 1) q30 d30_0 rfl, w_getV (pc' := 4) q30 d30_1 rfl f30_36, w_invv0 (ci := 4) (pc' := 7) q30 d30_4 rfl n30_174 k30_174_4 m91.1, w_astore_n1 (pc' := 8) q30 d30_7 rfl, w_aload_n1 (pc' := 9) q30 d30_8 rfl, w_ifnn_null (pc' := 12) q30 d30_9 rfl, w_ifnn_ref (tg := 22) q30 d30_9 (by decide), w_ifnn_ra (tg := 22) q30 d30_9 (by decide), w_throw (ee := 1) q30 d30_12 (by decide +kernel), w_aload_n0 (pc' := 23) q30 d30_22 rfl, w_getV (pc' := 26) q30 d30_23 rfl f30_19, w_aload_n1 (pc' := 27) q30 d30_26 rfl, w_invv1 (ci := 2) (pc' := 30) q30 d30_27 rfl n30_164 k30_164_2 m84.1, w_aload_n0 (pc' := 31) q30 d30_30 rfl, w_getV (pc' := 34) q30 d30_31 rfl f30_36, w_getI (pc' := 37) q30 d30_34 rfl f30_180, w_ireturn q30 d30_37 m30.2.1, gs_off, gs_off0, gs_0off, gs_2, xN_0, xN_2, xN_3, xN_6, xN_7, xN_8, xN_9, xN_10, xN_11, xN_12, xN_13, xN_14, xN_15, xN_16, xN_17, xN_18, xN_19, xN_20, xN_21, xN_22, xN_23, xN_24, xN_25, xN_26, xN_27, xN_28, xN_29, xN_30, xN_31, xN_32, xN_33, xN_34, xN_35, xN_36, xN_37, xN_38, xN_39, xN_40, xN_41, xN_42, xN_43, xN_44, xN_45, xN_46, xN_47, xN_48, xN_49, xN_50, xN_51, xN_52, xN_53, xN_54, xN_55, ti_0, ti_1, ti_2, ti_3, ti_4, ti_5, ti_6, ti_7, ti_8, ti_9, ti_10, ti_16, ti_19, ti_20, ti_29, ti_30, ti_31, ti_32, ti_35, ti_36, ti_38, ti_39, ti_40, ti_41, ti_42, ti_43, ti_44, ti_45, ti_46, ti_47, ti_48, ti_49, ti_50, ti_51, ti_52, ti_53, ti_54, ti_55, ti_56, ti_57, ti_58, ti_59, ti_60, ti_61, ti_62, ti_63, ti_64, ti_65, ti_74, ti_77, ti_126, ti_200, ti_201, ti_202, ti_203, ti_204, ti_205, ti_210, ti_255, ti_256, ti_400, ti_512, ti_600, ti_601, ti_602, ti_1000, ti_1023, ti_1024, ti_2000, ti_10000, ti_12602, ti_999999, ti_m999999, ti_m1, ti_2000000, ti_3000000, xN_1, xN_4, xN_5, xN_60, xN_61, xN_64, xN_200, xN_800, xN_12000, xN_12602, eq_self, and_self, and_true, true_and, if_true, if_false, decide_true, Nat.reduceLeDiff, xc2_int, xc2_ref, xc2_ra, xc2_null, xc2_long, xc2_none, xisaT_ref, xisaT_ra, xisaT_null, xc1T_int, xc1T_ref, xc1T_ra, xc1T_null, xsum_nil, xsum_int, xsum_ref, xsum_ra, xsum_long, xsum_double, xsum_null, xfl_nil, xfl_int, xfl_ref, xfl_ra, xfl_null, xfl_long, xfl_double, List.length_cons, List.length_nil, c0, k0, y0, hlt, k2, z2, xfk, xfv, xak, xan, xcls, xsv', List.getElem?_cons_zero, List.getElem?_cons_succ, List.getD_cons_zero, List.getD_cons_succ, Option.getD_some, Option.isSome_some, if_true, if_pos, xcont, Option.toList_none, Option.toList_some, List.nil_append, List.cons_append]
end
