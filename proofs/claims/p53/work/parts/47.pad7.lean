/-! Pad: its calls -/
section
variable {X : xX} {S : xLm} {g : xGm} {d : Nat} {w : xH} {Q : xO → xH → Prop}
def FrO (g g' : xGm) (p : Nat) : Prop := (∀ h, ¬ h = p → ¬ h = p + 2 → ¬ h = p + 3 → ¬ h = p + 4 → ¬ h = p + 5 → g' h = g h) ∧ (∀ i, ¬ i = 2 → ¬ i = 3 → ¬ i = 4 → ¬ i = 6 → ¬ i = 7 → ¬ i = 8 → ¬ i = 12 → g' p i = g p i)
theorem FrO_Q {g g' : xGm} {p : Nat} (h : FrQ g g' p) : FrO g g' p := ⟨h.1, fun i _ b c d e f k => h.2 i b c d e f k⟩
theorem FrO_trans {g g1 g2 : xGm} {p : Nat} (h1 : FrO g g1 p) (h2 : FrO g1 g2 p) : FrO g g2 p := ⟨fun h a b c d e => (h2.1 h a b c d e).trans (h1.1 h a b c d e), fun i a b c d e f k => (h2.2 i a b c d e f k).trans (h1.2 i a b c d e f k)⟩
theorem FrO_2 {g : xGm} {p : Nat} {z : Int} : FrO g (gs g p 2 z) p := ⟨fun h a _ _ _ _ => gs_row _ _ _ a, fun j a b c d e f k => by rw [gs_at, if_neg a]⟩
theorem FrO_pch {g g' : xGm} {p : Nat} (h : FrO g g' p) : pch g' p = pch g p := pch_congr (h.2 1 (by decide) (by decide) (by decide) (by decide) (by decide) (by decide) (by decide)) (h.1 (p + 1) (by omega) (by omega) (by omega) (by omega) (by omega))
theorem FrO_1 {g g' : xGm} {p : Nat} (h : FrO g g' p) : g' p 1 = g p 1 := h.2 1 (by decide) (by decide) (by decide) (by decide) (by decide) (by decide) (by decide)
theorem FrO_PcI {g g' : xGm} {p : Nat} (h : FrO g g' p) (hC : PcI g p) : PcI g' p := by
  unfold PcI rg at hC ⊢
  rw [FrO_1 h, h.1 (p + 1) (by omega) (by omega) (by omega) (by omega) (by omega)]
  exact hC
theorem FrQ_at {g : xGm} {p : Nat} {a : Int} : FrQ g (gAt g p a) p := FrQ_slot (by decide)
/-- what the pad holds of a content that was read -/
def RdI (g : xGm) (p : Nat) (kd nu : Int) (tk : List Int) : Prop := g p 3 = kd ∧ (¬ kd = 2 → g p 4 = nu) ∧ (-999999 ≤ g p 4 ∧ g p 4 ≤ 999999) ∧ g p 6 = tk.length ∧ TL (g (p + 2)) 0 tk
theorem RdI_at {p : Nat} {kd nu a : Int} {tk : List Int} (h : RdI g p kd nu tk) : RdI (gAt g p a) p kd nu tk := by
  unfold RdI at h ⊢
  rw [gAt_o (by decide), gAt_o (by decide), gAt_o (by decide), gAt_row g p 1 a]
  exact h
theorem c_faultAsContent {p : Nat} (hS : PdS S p) (hC : PcI g p) :
    match ctF (pch g p) 0 0 with
    | .inl a' => ∃ g', FrQ g g' p ∧ ∀ Q, Cw X (d + 9) 122 [.ref p] (hp S g) Q = Q (.inl (some (.int (iI a')))) (hp S g')
    | .inr (_, kd, nu, tk) => ∃ g', FrQ g g' p ∧ RdI g' p kd nu tk ∧ ∀ Q, Cw X (d + 9) 122 [.ref p] (hp S g) Q = Q (.inl (some (.int (iI (-1))))) (hp S g') := by
  have p0 := hS.1
  have h := c_readContent (X := X) (d := d) (en := 0) (a := 0) hS hC (by decide) (by decide) (by decide)
  have hsr : ∀ Q, Cw X (d + 8) 123 [.ref p] (hp S g) Q = Q (.inl none) (hp S (gAt g p 0)) := fun Q => by
    rw [e123]
    unfold gAt
    simp (config := { decide := true }) only [w_aload_n0 (pc' := 1) q123 d123_0 rfl, w_iconst (pc' := 2) q123 d123_1 rfl, w_putI (pc' := 5) q123 d123_2 rfl f123_33 rfl (by decide +kernel), w_return q123 d123_5 m123.2.1, gs_off, gs_off0, gs_0off, gs_2, xN_0, xN_2, xN_3, xN_6, xN_7, xN_8, xN_9, xN_10, xN_11, xN_12, xN_13, xN_14, xN_15, xN_16, xN_17, xN_18, xN_19, xN_20, xN_21, xN_22, xN_23, xN_24, xN_25, xN_26, xN_27, xN_28, xN_29, xN_30, xN_31, xN_32, xN_33, xN_34, xN_35, xN_36, xN_37, xN_38, xN_39, xN_40, xN_41, xN_42, xN_43, xN_44, xN_45, xN_46, xN_47, xN_48, xN_49, xN_50, xN_51, xN_52, xN_53, xN_54, xN_55, ti_0, ti_1, ti_2, ti_3, ti_4, ti_5, ti_6, ti_7, ti_8, ti_9, ti_10, ti_16, ti_19, ti_20, ti_29, ti_30, ti_31, ti_32, ti_35, ti_36, ti_38, ti_39, ti_40, ti_41, ti_42, ti_43, ti_44, ti_45, ti_46, ti_47, ti_48, ti_49, ti_50, ti_51, ti_52, ti_53, ti_54, ti_55, ti_56, ti_57, ti_58, ti_59, ti_60, ti_61, ti_62, ti_63, ti_64, ti_65, ti_74, ti_77, ti_126, ti_200, ti_201, ti_202, ti_203, ti_204, ti_205, ti_210, ti_255, ti_256, ti_400, ti_512, ti_600, ti_601, ti_602, ti_1000, ti_1023, ti_1024, ti_2000, ti_10000, ti_12602, ti_999999, ti_m999999, ti_m1, ti_2000000, ti_3000000, xN_1, xN_4, xN_5, xN_60, xN_61, xN_64, xN_200, xN_800, xN_12000, xN_12602, eq_self, and_self, and_true, true_and, if_true, if_false, decide_true, Nat.reduceLeDiff, xc2_int, xc2_ref, xc2_ra, xc2_null, xc2_long, xc2_none, xisaT_ref, xisaT_ra, xisaT_null, xc1T_int, xc1T_ref, xc1T_ra, xc1T_null, xsum_nil, xsum_int, xsum_ref, xsum_ra, xsum_long, xsum_double, xsum_null, xfl_nil, xfl_int, xfl_ref, xfl_ra, xfl_null, xfl_long, xfl_double, List.length_cons, List.length_nil, p0, xfk, xfv, xak, xan, xcls, xsv', List.getElem?_cons_zero, List.getElem?_cons_succ, List.getD_cons_zero, List.getD_cons_succ, Option.getD_some, Option.isSome_some, if_true, if_pos, xcont, Option.toList_none, Option.toList_some, List.nil_append, List.cons_append]
  generalize ctF (pch g p) 0 0 = r at h
  cases r with
  | inl a' =>
    obtain ⟨g', w1, w2⟩ := h
    refine ⟨gAt g' p a', FrQ_trans w1 FrQ_at, fun Q => ?_⟩
    dsimp only at w2
    rw [e122]
    simp (config := { decide := true }) only [w_aload_n0 (pc' := 1) q122 d122_0 rfl, w_invv0 (ci := 8) (pc' := 4) q122 d122_1 rfl n122_36 k122_36_8 m123.1, w_aload_n0 (pc' := 5) q122 d122_4 rfl, w_iconst (pc' := 6) q122 d122_5 rfl, w_invv1 (ci := 8) (pc' := 9) q122 d122_6 rfl n122_39 k122_39_8 m124.1, w_if_eq (tg := 16) (pc' := 12) q122 d122_9 (by decide) rfl, w_iconst (pc' := 13) q122 d122_12 rfl, w_goto (tg := 20) q122 d122_13 (by decide), w_aload_n0 (pc' := 17) q122 d122_16 rfl, w_getI (pc' := 20) q122 d122_17 rfl f122_33, w_ireturn q122 d122_20 m122.2.1, gs_off, gs_off0, gs_0off, gs_2, xN_0, xN_2, xN_3, xN_6, xN_7, xN_8, xN_9, xN_10, xN_11, xN_12, xN_13, xN_14, xN_15, xN_16, xN_17, xN_18, xN_19, xN_20, xN_21, xN_22, xN_23, xN_24, xN_25, xN_26, xN_27, xN_28, xN_29, xN_30, xN_31, xN_32, xN_33, xN_34, xN_35, xN_36, xN_37, xN_38, xN_39, xN_40, xN_41, xN_42, xN_43, xN_44, xN_45, xN_46, xN_47, xN_48, xN_49, xN_50, xN_51, xN_52, xN_53, xN_54, xN_55, ti_0, ti_1, ti_2, ti_3, ti_4, ti_5, ti_6, ti_7, ti_8, ti_9, ti_10, ti_16, ti_19, ti_20, ti_29, ti_30, ti_31, ti_32, ti_35, ti_36, ti_38, ti_39, ti_40, ti_41, ti_42, ti_43, ti_44, ti_45, ti_46, ti_47, ti_48, ti_49, ti_50, ti_51, ti_52, ti_53, ti_54, ti_55, ti_56, ti_57, ti_58, ti_59, ti_60, ti_61, ti_62, ti_63, ti_64, ti_65, ti_74, ti_77, ti_126, ti_200, ti_201, ti_202, ti_203, ti_204, ti_205, ti_210, ti_255, ti_256, ti_400, ti_512, ti_600, ti_601, ti_602, ti_1000, ti_1023, ti_1024, ti_2000, ti_10000, ti_12602, ti_999999, ti_m999999, ti_m1, ti_2000000, ti_3000000, xN_1, xN_4, xN_5, xN_60, xN_61, xN_64, xN_200, xN_800, xN_12000, xN_12602, eq_self, and_self, and_true, true_and, if_true, if_false, decide_true, Nat.reduceLeDiff, xc2_int, xc2_ref, xc2_ra, xc2_null, xc2_long, xc2_none, xisaT_ref, xisaT_ra, xisaT_null, xc1T_int, xc1T_ref, xc1T_ra, xc1T_null, xsum_nil, xsum_int, xsum_ref, xsum_ra, xsum_long, xsum_double, xsum_null, xfl_nil, xfl_int, xfl_ref, xfl_ra, xfl_null, xfl_long, xfl_double, List.length_cons, List.length_nil, p0, hsr, w2, gAt_a, xfk, xfv, xak, xan, xcls, xsv', List.getElem?_cons_zero, List.getElem?_cons_succ, List.getD_cons_zero, List.getD_cons_succ, Option.getD_some, Option.isSome_some, if_true, if_pos, xcont, Option.toList_none, Option.toList_some, List.nil_append, List.cons_append]
  | inr z =>
    obtain ⟨a', kd, nu, tk⟩ := z
    obtain ⟨g', w1, w2, w3, w4, w5, w6, w7⟩ := h
    refine ⟨gAt g' p a', FrQ_trans w1 FrQ_at, RdI_at ⟨w2, w3, w4, w5, w6⟩, fun Q => ?_⟩
    dsimp only at w7
    rw [e122]
    simp (config := { decide := true }) only [w_aload_n0 (pc' := 1) q122 d122_0 rfl, w_invv0 (ci := 8) (pc' := 4) q122 d122_1 rfl n122_36 k122_36_8 m123.1, w_aload_n0 (pc' := 5) q122 d122_4 rfl, w_iconst (pc' := 6) q122 d122_5 rfl, w_invv1 (ci := 8) (pc' := 9) q122 d122_6 rfl n122_39 k122_39_8 m124.1, w_if_eq (tg := 16) (pc' := 12) q122 d122_9 (by decide) rfl, w_iconst (pc' := 13) q122 d122_12 rfl, w_goto (tg := 20) q122 d122_13 (by decide), w_aload_n0 (pc' := 17) q122 d122_16 rfl, w_getI (pc' := 20) q122 d122_17 rfl f122_33, w_ireturn q122 d122_20 m122.2.1, gs_off, gs_off0, gs_0off, gs_2, xN_0, xN_2, xN_3, xN_6, xN_7, xN_8, xN_9, xN_10, xN_11, xN_12, xN_13, xN_14, xN_15, xN_16, xN_17, xN_18, xN_19, xN_20, xN_21, xN_22, xN_23, xN_24, xN_25, xN_26, xN_27, xN_28, xN_29, xN_30, xN_31, xN_32, xN_33, xN_34, xN_35, xN_36, xN_37, xN_38, xN_39, xN_40, xN_41, xN_42, xN_43, xN_44, xN_45, xN_46, xN_47, xN_48, xN_49, xN_50, xN_51, xN_52, xN_53, xN_54, xN_55, ti_0, ti_1, ti_2, ti_3, ti_4, ti_5, ti_6, ti_7, ti_8, ti_9, ti_10, ti_16, ti_19, ti_20, ti_29, ti_30, ti_31, ti_32, ti_35, ti_36, ti_38, ti_39, ti_40, ti_41, ti_42, ti_43, ti_44, ti_45, ti_46, ti_47, ti_48, ti_49, ti_50, ti_51, ti_52, ti_53, ti_54, ti_55, ti_56, ti_57, ti_58, ti_59, ti_60, ti_61, ti_62, ti_63, ti_64, ti_65, ti_74, ti_77, ti_126, ti_200, ti_201, ti_202, ti_203, ti_204, ti_205, ti_210, ti_255, ti_256, ti_400, ti_512, ti_600, ti_601, ti_602, ti_1000, ti_1023, ti_1024, ti_2000, ti_10000, ti_12602, ti_999999, ti_m999999, ti_m1, ti_2000000, ti_3000000, xN_1, xN_4, xN_5, xN_60, xN_61, xN_64, xN_200, xN_800, xN_12000, xN_12602, eq_self, and_self, and_true, true_and, if_true, if_false, decide_true, Nat.reduceLeDiff, xc2_int, xc2_ref, xc2_ra, xc2_null, xc2_long, xc2_none, xisaT_ref, xisaT_ra, xisaT_null, xc1T_int, xc1T_ref, xc1T_ra, xc1T_null, xsum_nil, xsum_int, xsum_ref, xsum_ra, xsum_long, xsum_double, xsum_null, xfl_nil, xfl_int, xfl_ref, xfl_ra, xfl_null, xfl_long, xfl_double, List.length_cons, List.length_nil, p0, hsr, w7, xfk, xfv, xak, xan, xcls, xsv', List.getElem?_cons_zero, List.getElem?_cons_succ, List.getD_cons_zero, List.getD_cons_succ, Option.getD_some, Option.isSome_some, if_true, if_pos, xcont, Option.toList_none, Option.toList_some, List.nil_append, List.cons_append]
/-- an order -/
def orF (ch : Int → Int) (a : Int) : Int ⊕ (Int × Int × Int × Int × List Int) :=
  if (spF ch false a).1 < 0 then .inl (spF ch false a).2
  else if ¬ ch (spF ch false a).2 = 58 then .inl (spF ch false a).2
  else match ctF ch 59 ((spF ch false a).2 + 1) with
    | .inl a' => .inl a'
    | .inr (a', kd, nu, tk) => .inr (a' + 1, (spF ch false a).1, kd, nu, tk)
def OrP (S : xLm) (g : xGm) (p : Nat) (call : (xO → xH → Prop) → Prop) (r : Int ⊕ (Int × Int × Int × Int × List Int)) : Prop := match r with
  | .inl a' => ∃ g', FrO g g' p ∧ ∀ Q, call Q = Q (.inl (some (.int (iI 0)))) (hp S (gAt g' p a'))
  | .inr (a', tg, kd, nu, tk) => ∃ g', FrO g g' p ∧ g' p 2 = tg ∧ RdI g' p kd nu tk ∧ ∀ Q, call Q = Q (.inl (some (.int (iI 1)))) (hp S (gAt g' p a'))
theorem c_readOrder {p : Nat} {a : Int} (hS : PdS S p) (hC : PcI g p) (ha : 0 ≤ a) (ha2 : a ≤ 60) :
    OrP S g p (fun Q => Cw X (d + 9) 144 [.ref p] (hp S (gAt g p a)) Q) (orF (pch g p) a) := by
  obtain ⟨p0, p1, -⟩ := id hS
  have key : ∀ i, 1 ≤ pch g p i → i < g p 1 := fun i hi => by
    unfold pch at hi; split at hi <;> omega
  have hn60 := hC.2.1
  have crs := fun Q => c_readSpot (X := X) (d := d + 7) (g := g) (a := a) (Q := Q) false hS hC (by omega) (by omega)
  rw [if_neg (show ¬ (false = true) by decide)] at crs
  have hsr := spF_rng (ch := pch g p) (fx := false) (a := a)
  unfold orF
  obtain ⟨sp, esp⟩ : ∃ sp, spF (pch g p) false a = sp := ⟨_, rfl⟩
  rw [esp] at hsr crs ⊢
  have tsp : ti sp.1 = sp.1 := okM_ti hsr.2.2
  have n2 : ¬ (2 : Int) = 7 := by decide
  obtain ⟨g1, eg1⟩ : ∃ g1, g1 = gs g p 2 sp.1 := ⟨_, rfl⟩
  have hF1 : FrO g g1 p := by rw [eg1]; exact FrO_2
  have e2 : gAt (gs g p 2 sp.1) p sp.2 p 2 = sp.1 := by rw [gAt_o (by decide), gs_at, if_pos rfl]
  have cn := fun Q => c_next (X := X) (d := d + 8) (g := g1) (a := sp.2) (Q := Q) hS (FrO_PcI hF1 hC) (by omega) (by omega)
  rw [FrO_pch hF1] at cn
  have hch := pch_rng hC sp.2
  have tc : ti (pch g p sp.2) = pch g p sp.2 := ti_eq (by omega) (by omega)
  have t58 : ti 58 = 58 := by decide
  by_cases h3 : sp.1 < 0
  · rw [if_pos h3]
    refine ⟨g1, hF1, fun Q => ?_⟩
    dsimp only
    rw [e144, eg1]
    simp (config := { decide := true }) only [w_aload_n0 (pc' := 1) q144 d144_0 rfl, w_aload_n0 (pc' := 2) q144 d144_1 rfl, w_iconst (pc' := 3) q144 d144_2 rfl, w_invv1 (ci := 8) (pc' := 6) q144 d144_3 rfl n144_47 k144_47_8 m137.1, w_putI (pc' := 9) q144 d144_6 rfl f144_51 rfl (by decide +kernel), w_aload_n0 (pc' := 10) q144 d144_9 rfl, w_getI (pc' := 13) q144 d144_10 rfl f144_51, w_if_lt (tg := 25) (pc' := 16) q144 d144_13 (by decide) rfl, w_aload_n0 (pc' := 17) q144 d144_16 rfl, w_invv0 (ci := 8) (pc' := 20) q144 d144_17 rfl n144_54 k144_54_8 m126.1, w_bipush (z' := (58)) (pc' := 22) q144 d144_20 rfl (by decide), w_icmp_eq (tg := 27) (pc' := 25) q144 d144_22 (by decide) rfl, w_iconst (pc' := 26) q144 d144_25 rfl, w_zreturn q144 d144_26 m144.2.1, gs_off, gs_off0, gs_0off, gs_2, xN_0, xN_2, xN_3, xN_6, xN_7, xN_8, xN_9, xN_10, xN_11, xN_12, xN_13, xN_14, xN_15, xN_16, xN_17, xN_18, xN_19, xN_20, xN_21, xN_22, xN_23, xN_24, xN_25, xN_26, xN_27, xN_28, xN_29, xN_30, xN_31, xN_32, xN_33, xN_34, xN_35, xN_36, xN_37, xN_38, xN_39, xN_40, xN_41, xN_42, xN_43, xN_44, xN_45, xN_46, xN_47, xN_48, xN_49, xN_50, xN_51, xN_52, xN_53, xN_54, xN_55, ti_0, ti_1, ti_2, ti_3, ti_4, ti_5, ti_6, ti_7, ti_8, ti_9, ti_10, ti_16, ti_19, ti_20, ti_29, ti_30, ti_31, ti_32, ti_35, ti_36, ti_38, ti_39, ti_40, ti_41, ti_42, ti_43, ti_44, ti_45, ti_46, ti_47, ti_48, ti_49, ti_50, ti_51, ti_52, ti_53, ti_54, ti_55, ti_56, ti_57, ti_58, ti_59, ti_60, ti_61, ti_62, ti_63, ti_64, ti_65, ti_74, ti_77, ti_126, ti_200, ti_201, ti_202, ti_203, ti_204, ti_205, ti_210, ti_255, ti_256, ti_400, ti_512, ti_600, ti_601, ti_602, ti_1000, ti_1023, ti_1024, ti_2000, ti_10000, ti_12602, ti_999999, ti_m999999, ti_m1, ti_2000000, ti_3000000, xN_1, xN_4, xN_5, xN_60, xN_61, xN_64, xN_200, xN_800, xN_12000, xN_12602, eq_self, and_self, and_true, true_and, if_true, if_false, decide_true, Nat.reduceLeDiff, xc2_int, xc2_ref, xc2_ra, xc2_null, xc2_long, xc2_none, xisaT_ref, xisaT_ra, xisaT_null, xc1T_int, xc1T_ref, xc1T_ra, xc1T_null, xsum_nil, xsum_int, xsum_ref, xsum_ra, xsum_long, xsum_double, xsum_null, xfl_nil, xfl_int, xfl_ref, xfl_ra, xfl_null, xfl_long, xfl_double, List.length_cons, List.length_nil, p0, crs, gAt_s n2, e2, tsp, h3, xzb_0, xfk, xfv, xak, xan, xcls, xsv', List.getElem?_cons_zero, List.getElem?_cons_succ, List.getD_cons_zero, List.getD_cons_succ, Option.getD_some, Option.isSome_some, if_true, if_pos, xcont, Option.toList_none, Option.toList_some, List.nil_append, List.cons_append]
  · rw [if_neg h3]
    by_cases h58 : pch g p sp.2 = 58
    · rw [if_neg (fun h => h h58)]
      have hin := key sp.2 (by omega)
      have hct := c_readContent (X := X) (d := d) (g := g1) (en := 59) (a := sp.2 + 1) hS (FrO_PcI hF1 hC) (by decide) (by omega) (by omega)
      rw [FrO_pch hF1] at hct
      have pre : ∀ Q, Cw X (d + 9) 144 [.ref p] (hp S (gAt g p a)) Q = Wx X (d + 9) 144 37 [some (.ref p)] [] (hp S (gAt g1 p (sp.2 + 1))) Q := fun Q => by
        rw [h58, eg1] at cn
        rw [e144, eg1]
        simp (config := { decide := true }) only [w_aload_n0 (pc' := 1) q144 d144_0 rfl, w_aload_n0 (pc' := 2) q144 d144_1 rfl, w_iconst (pc' := 3) q144 d144_2 rfl, w_invv1 (ci := 8) (pc' := 6) q144 d144_3 rfl n144_47 k144_47_8 m137.1, w_putI (pc' := 9) q144 d144_6 rfl f144_51 rfl (by decide +kernel), w_aload_n0 (pc' := 10) q144 d144_9 rfl, w_getI (pc' := 13) q144 d144_10 rfl f144_51, w_if_lt (tg := 25) (pc' := 16) q144 d144_13 (by decide) rfl, w_aload_n0 (pc' := 17) q144 d144_16 rfl, w_invv0 (ci := 8) (pc' := 20) q144 d144_17 rfl n144_54 k144_54_8 m126.1, w_bipush (z' := (58)) (pc' := 22) q144 d144_20 rfl (by decide), w_icmp_eq (tg := 27) (pc' := 25) q144 d144_22 (by decide) rfl, w_iconst (pc' := 26) q144 d144_25 rfl, w_zreturn q144 d144_26 m144.2.1, w_aload_n0 (pc' := 28) q144 d144_27 rfl, w_dup (pc' := 29) q144 d144_28 rfl, w_getI (pc' := 32) q144 d144_29 rfl f144_33, w_iconst (pc' := 33) q144 d144_32 rfl, w_iadd (pc' := 34) q144 d144_33 rfl, w_putI (pc' := 37) q144 d144_34 rfl f144_33 rfl (by decide +kernel), gs_off, gs_off0, gs_0off, gs_2, xN_0, xN_2, xN_3, xN_6, xN_7, xN_8, xN_9, xN_10, xN_11, xN_12, xN_13, xN_14, xN_15, xN_16, xN_17, xN_18, xN_19, xN_20, xN_21, xN_22, xN_23, xN_24, xN_25, xN_26, xN_27, xN_28, xN_29, xN_30, xN_31, xN_32, xN_33, xN_34, xN_35, xN_36, xN_37, xN_38, xN_39, xN_40, xN_41, xN_42, xN_43, xN_44, xN_45, xN_46, xN_47, xN_48, xN_49, xN_50, xN_51, xN_52, xN_53, xN_54, xN_55, ti_0, ti_1, ti_2, ti_3, ti_4, ti_5, ti_6, ti_7, ti_8, ti_9, ti_10, ti_16, ti_19, ti_20, ti_29, ti_30, ti_31, ti_32, ti_35, ti_36, ti_38, ti_39, ti_40, ti_41, ti_42, ti_43, ti_44, ti_45, ti_46, ti_47, ti_48, ti_49, ti_50, ti_51, ti_52, ti_53, ti_54, ti_55, ti_56, ti_57, ti_58, ti_59, ti_60, ti_61, ti_62, ti_63, ti_64, ti_65, ti_74, ti_77, ti_126, ti_200, ti_201, ti_202, ti_203, ti_204, ti_205, ti_210, ti_255, ti_256, ti_400, ti_512, ti_600, ti_601, ti_602, ti_1000, ti_1023, ti_1024, ti_2000, ti_10000, ti_12602, ti_999999, ti_m999999, ti_m1, ti_2000000, ti_3000000, xN_1, xN_4, xN_5, xN_60, xN_61, xN_64, xN_200, xN_800, xN_12000, xN_12602, eq_self, and_self, and_true, true_and, if_true, if_false, decide_true, Nat.reduceLeDiff, xc2_int, xc2_ref, xc2_ra, xc2_null, xc2_long, xc2_none, xisaT_ref, xisaT_ra, xisaT_null, xc1T_int, xc1T_ref, xc1T_ra, xc1T_null, xsum_nil, xsum_int, xsum_ref, xsum_ra, xsum_long, xsum_double, xsum_null, xfl_nil, xfl_int, xfl_ref, xfl_ra, xfl_null, xfl_long, xfl_double, List.length_cons, List.length_nil, p0, crs, gAt_s n2, e2, tsp, h3, cn, t58, gAt_a, gAt_sa, xfk, xfv, xak, xan, xcls, xsv', List.getElem?_cons_zero, List.getElem?_cons_succ, List.getD_cons_zero, List.getD_cons_succ, Option.getD_some, Option.isSome_some, if_true, if_pos, xcont, Option.toList_none, Option.toList_some, List.nil_append, List.cons_append]
      generalize ctF (pch g p) 59 (sp.2 + 1) = r at hct
      cases r with
      | inl a' =>
        obtain ⟨g', w1, w2⟩ := hct
        refine ⟨g', FrO_trans hF1 (FrO_Q w1), fun Q => ?_⟩
        dsimp only at w2 ⊢
        rw [pre Q]
        simp (config := { decide := true }) only [w_aload_n0 (pc' := 38) q144 d144_37 rfl, w_bipush (z' := (59)) (pc' := 40) q144 d144_38 rfl (by decide), w_invv1 (ci := 8) (pc' := 43) q144 d144_40 rfl n144_39 k144_39_8 m124.1, w_if_ne (tg := 48) (pc' := 46) q144 d144_43 (by decide) rfl, w_iconst (pc' := 47) q144 d144_46 rfl, w_zreturn q144 d144_47 m144.2.1, gs_off, gs_off0, gs_0off, gs_2, xN_0, xN_2, xN_3, xN_6, xN_7, xN_8, xN_9, xN_10, xN_11, xN_12, xN_13, xN_14, xN_15, xN_16, xN_17, xN_18, xN_19, xN_20, xN_21, xN_22, xN_23, xN_24, xN_25, xN_26, xN_27, xN_28, xN_29, xN_30, xN_31, xN_32, xN_33, xN_34, xN_35, xN_36, xN_37, xN_38, xN_39, xN_40, xN_41, xN_42, xN_43, xN_44, xN_45, xN_46, xN_47, xN_48, xN_49, xN_50, xN_51, xN_52, xN_53, xN_54, xN_55, ti_0, ti_1, ti_2, ti_3, ti_4, ti_5, ti_6, ti_7, ti_8, ti_9, ti_10, ti_16, ti_19, ti_20, ti_29, ti_30, ti_31, ti_32, ti_35, ti_36, ti_38, ti_39, ti_40, ti_41, ti_42, ti_43, ti_44, ti_45, ti_46, ti_47, ti_48, ti_49, ti_50, ti_51, ti_52, ti_53, ti_54, ti_55, ti_56, ti_57, ti_58, ti_59, ti_60, ti_61, ti_62, ti_63, ti_64, ti_65, ti_74, ti_77, ti_126, ti_200, ti_201, ti_202, ti_203, ti_204, ti_205, ti_210, ti_255, ti_256, ti_400, ti_512, ti_600, ti_601, ti_602, ti_1000, ti_1023, ti_1024, ti_2000, ti_10000, ti_12602, ti_999999, ti_m999999, ti_m1, ti_2000000, ti_3000000, xN_1, xN_4, xN_5, xN_60, xN_61, xN_64, xN_200, xN_800, xN_12000, xN_12602, eq_self, and_self, and_true, true_and, if_true, if_false, decide_true, Nat.reduceLeDiff, xc2_int, xc2_ref, xc2_ra, xc2_null, xc2_long, xc2_none, xisaT_ref, xisaT_ra, xisaT_null, xc1T_int, xc1T_ref, xc1T_ra, xc1T_null, xsum_nil, xsum_int, xsum_ref, xsum_ra, xsum_long, xsum_double, xsum_null, xfl_nil, xfl_int, xfl_ref, xfl_ra, xfl_null, xfl_long, xfl_double, List.length_cons, List.length_nil, p0, w2, not_true_eq_false, xzb_0, xfk, xfv, xak, xan, xcls, xsv', List.getElem?_cons_zero, List.getElem?_cons_succ, List.getD_cons_zero, List.getD_cons_succ, Option.getD_some, Option.isSome_some, if_true, if_pos, xcont, Option.toList_none, Option.toList_some, List.nil_append, List.cons_append]
      | inr z =>
        obtain ⟨a', kd, nu, tk⟩ := z
        obtain ⟨g', w1, w2, w3, w4, w5, w6, w7⟩ := hct
        refine ⟨g', FrO_trans hF1 (FrO_Q w1), by rw [w1.2 2 (by decide) (by decide) (by decide) (by decide) (by decide) (by decide), eg1, gs_at, if_pos rfl], ⟨w2, w3, w4, w5, w6⟩, fun Q => ?_⟩
        dsimp only at w7 ⊢
        rw [pre Q]
        simp (config := { decide := true }) only [w_aload_n0 (pc' := 38) q144 d144_37 rfl, w_bipush (z' := (59)) (pc' := 40) q144 d144_38 rfl (by decide), w_invv1 (ci := 8) (pc' := 43) q144 d144_40 rfl n144_39 k144_39_8 m124.1, w_if_ne (tg := 48) (pc' := 46) q144 d144_43 (by decide) rfl, w_iconst (pc' := 47) q144 d144_46 rfl, w_zreturn q144 d144_47 m144.2.1, w_aload_n0 (pc' := 49) q144 d144_48 rfl, w_dup (pc' := 50) q144 d144_49 rfl, w_getI (pc' := 53) q144 d144_50 rfl f144_33, w_iconst (pc' := 54) q144 d144_53 rfl, w_iadd (pc' := 55) q144 d144_54 rfl, w_putI (pc' := 58) q144 d144_55 rfl f144_33 rfl (by decide +kernel), w_iconst (pc' := 59) q144 d144_58 rfl, w_zreturn q144 d144_59 m144.2.1, gs_off, gs_off0, gs_0off, gs_2, xN_0, xN_2, xN_3, xN_6, xN_7, xN_8, xN_9, xN_10, xN_11, xN_12, xN_13, xN_14, xN_15, xN_16, xN_17, xN_18, xN_19, xN_20, xN_21, xN_22, xN_23, xN_24, xN_25, xN_26, xN_27, xN_28, xN_29, xN_30, xN_31, xN_32, xN_33, xN_34, xN_35, xN_36, xN_37, xN_38, xN_39, xN_40, xN_41, xN_42, xN_43, xN_44, xN_45, xN_46, xN_47, xN_48, xN_49, xN_50, xN_51, xN_52, xN_53, xN_54, xN_55, ti_0, ti_1, ti_2, ti_3, ti_4, ti_5, ti_6, ti_7, ti_8, ti_9, ti_10, ti_16, ti_19, ti_20, ti_29, ti_30, ti_31, ti_32, ti_35, ti_36, ti_38, ti_39, ti_40, ti_41, ti_42, ti_43, ti_44, ti_45, ti_46, ti_47, ti_48, ti_49, ti_50, ti_51, ti_52, ti_53, ti_54, ti_55, ti_56, ti_57, ti_58, ti_59, ti_60, ti_61, ti_62, ti_63, ti_64, ti_65, ti_74, ti_77, ti_126, ti_200, ti_201, ti_202, ti_203, ti_204, ti_205, ti_210, ti_255, ti_256, ti_400, ti_512, ti_600, ti_601, ti_602, ti_1000, ti_1023, ti_1024, ti_2000, ti_10000, ti_12602, ti_999999, ti_m999999, ti_m1, ti_2000000, ti_3000000, xN_1, xN_4, xN_5, xN_60, xN_61, xN_64, xN_200, xN_800, xN_12000, xN_12602, eq_self, and_self, and_true, true_and, if_true, if_false, decide_true, Nat.reduceLeDiff, xc2_int, xc2_ref, xc2_ra, xc2_null, xc2_long, xc2_none, xisaT_ref, xisaT_ra, xisaT_null, xc1T_int, xc1T_ref, xc1T_ra, xc1T_null, xsum_nil, xsum_int, xsum_ref, xsum_ra, xsum_long, xsum_double, xsum_null, xfl_nil, xfl_int, xfl_ref, xfl_ra, xfl_null, xfl_long, xfl_double, List.length_cons, List.length_nil, p0, w7, not_false_eq_true, gAt_a, gAt_sa, xzb_1, xfk, xfv, xak, xan, xcls, xsv', List.getElem?_cons_zero, List.getElem?_cons_succ, List.getD_cons_zero, List.getD_cons_succ, Option.getD_some, Option.isSome_some, if_true, if_pos, xcont, Option.toList_none, Option.toList_some, List.nil_append, List.cons_append]
    · rw [if_pos h58]
      refine ⟨g1, hF1, fun Q => ?_⟩
      dsimp only
      rw [eg1] at cn
      rw [e144, eg1]
      simp (config := { decide := true }) only [w_aload_n0 (pc' := 1) q144 d144_0 rfl, w_aload_n0 (pc' := 2) q144 d144_1 rfl, w_iconst (pc' := 3) q144 d144_2 rfl, w_invv1 (ci := 8) (pc' := 6) q144 d144_3 rfl n144_47 k144_47_8 m137.1, w_putI (pc' := 9) q144 d144_6 rfl f144_51 rfl (by decide +kernel), w_aload_n0 (pc' := 10) q144 d144_9 rfl, w_getI (pc' := 13) q144 d144_10 rfl f144_51, w_if_lt (tg := 25) (pc' := 16) q144 d144_13 (by decide) rfl, w_aload_n0 (pc' := 17) q144 d144_16 rfl, w_invv0 (ci := 8) (pc' := 20) q144 d144_17 rfl n144_54 k144_54_8 m126.1, w_bipush (z' := (58)) (pc' := 22) q144 d144_20 rfl (by decide), w_icmp_eq (tg := 27) (pc' := 25) q144 d144_22 (by decide) rfl, w_iconst (pc' := 26) q144 d144_25 rfl, w_zreturn q144 d144_26 m144.2.1, gs_off, gs_off0, gs_0off, gs_2, xN_0, xN_2, xN_3, xN_6, xN_7, xN_8, xN_9, xN_10, xN_11, xN_12, xN_13, xN_14, xN_15, xN_16, xN_17, xN_18, xN_19, xN_20, xN_21, xN_22, xN_23, xN_24, xN_25, xN_26, xN_27, xN_28, xN_29, xN_30, xN_31, xN_32, xN_33, xN_34, xN_35, xN_36, xN_37, xN_38, xN_39, xN_40, xN_41, xN_42, xN_43, xN_44, xN_45, xN_46, xN_47, xN_48, xN_49, xN_50, xN_51, xN_52, xN_53, xN_54, xN_55, ti_0, ti_1, ti_2, ti_3, ti_4, ti_5, ti_6, ti_7, ti_8, ti_9, ti_10, ti_16, ti_19, ti_20, ti_29, ti_30, ti_31, ti_32, ti_35, ti_36, ti_38, ti_39, ti_40, ti_41, ti_42, ti_43, ti_44, ti_45, ti_46, ti_47, ti_48, ti_49, ti_50, ti_51, ti_52, ti_53, ti_54, ti_55, ti_56, ti_57, ti_58, ti_59, ti_60, ti_61, ti_62, ti_63, ti_64, ti_65, ti_74, ti_77, ti_126, ti_200, ti_201, ti_202, ti_203, ti_204, ti_205, ti_210, ti_255, ti_256, ti_400, ti_512, ti_600, ti_601, ti_602, ti_1000, ti_1023, ti_1024, ti_2000, ti_10000, ti_12602, ti_999999, ti_m999999, ti_m1, ti_2000000, ti_3000000, xN_1, xN_4, xN_5, xN_60, xN_61, xN_64, xN_200, xN_800, xN_12000, xN_12602, eq_self, and_self, and_true, true_and, if_true, if_false, decide_true, Nat.reduceLeDiff, xc2_int, xc2_ref, xc2_ra, xc2_null, xc2_long, xc2_none, xisaT_ref, xisaT_ra, xisaT_null, xc1T_int, xc1T_ref, xc1T_ra, xc1T_null, xsum_nil, xsum_int, xsum_ref, xsum_ra, xsum_long, xsum_double, xsum_null, xfl_nil, xfl_int, xfl_ref, xfl_ra, xfl_null, xfl_long, xfl_double, List.length_cons, List.length_nil, p0, crs, gAt_s n2, e2, tsp, h3, cn, tc, t58, h58, xzb_0, xfk, xfv, xak, xan, xcls, xsv', List.getElem?_cons_zero, List.getElem?_cons_succ, List.getD_cons_zero, List.getD_cons_succ, Option.getD_some, Option.isSome_some, if_true, if_pos, xcont, Option.toList_none, Option.toList_some, List.nil_append, List.cons_append]
/-- where an order ends -/
theorem ctF_end {p : Nat} {en a a' kd nu : Int} {tk : List Int} (hC : PcI g p) (he : 1 ≤ en) (h : ctF (pch g p) en a = .inr (a', kd, nu, tk)) : pch g p a' = en := by
  have hcn : ∀ (m : Nat) (md : Int) (st : List Fr) (tk0 : List Int) (a : Int) (a' : Int) (tk : List Int), cnT (pch g p) en m md st tk0 a = .inr (a', tk) → pch g p a' = en := by
    intro m
    induction m with
    | zero => intro md st tk0 a a' tk h; rw [cnT] at h; cases h
    | succ m ih =>
      intro md st tk0 a a' tk h
      rw [cnT] at h
      split at h
      · split at h
        · cases h
        · exact ih _ _ _ _ _ _ h
      · split at h
        · next h1 =>
          injection h with h; injection h with h2 h3
          rw [← h2]; exact h1.2
        · split at h
          · cases h
          · exact ih _ _ _ _ _ _ h
  unfold ctF at h
  split at h
  · generalize e : cnT (pch g p) en 61 0 [(7, 1, 0)] [] (a + 1) = r at h
    cases r with
    | inl z => cases h
    | inr z =>
      obtain ⟨a1, tk1⟩ := z
      have := hcn _ _ _ _ _ _ _ e
      injection h with h; injection h with h2 h3
      rw [← h2]; exact this
  · split at h
    · next h1 =>
      injection h with h; injection h with h2 h3
      rw [← h2]; exact h1
    · generalize a + (if pch g p a = 45 then 1 else 0) = x at h
      by_cases h2 : ¬ (48 ≤ pch g p x ∧ pch g p x ≤ 57)
      · rw [if_pos h2] at h; cases h
      · rw [if_neg h2] at h
        by_cases h3 : pch g p (nuF (pch g p) x).2 = en
        · rw [if_pos h3] at h
          injection h with h; injection h with h4 h5
          rw [← h4]; exact h3
        · rw [if_neg h3] at h; cases h
theorem ctF_ge {p : Nat} {en a a' kd nu : Int} {tk : List Int} (h : ctF (pch g p) en a = .inr (a', kd, nu, tk)) : True := trivial
theorem orF_end {p : Nat} {a a' tg kd nu : Int} {tk : List Int} (hC : PcI g p) (ha : 0 ≤ a) (h : orF (pch g p) a = .inr (a', tg, kd, nu, tk)) : a' ≤ g p 1 ∧ 0 ≤ tg ∧ tg < 200 := by
  have key : ∀ i, 1 ≤ pch g p i → i < g p 1 := fun i hi => by
    unfold pch at hi; split at hi <;> omega
  unfold orF at h
  split at h
  · cases h
  · next h1 =>
    split at h
    · cases h
    · generalize e : ctF (pch g p) 59 ((spF (pch g p) false a).2 + 1) = r at h
      cases r with
      | inl z => cases h
      | inr z =>
        obtain ⟨a1, kd1, nu1, tk1⟩ := z
        have h59 := ctF_end hC (by decide) e
        have := key a1 (by omega)
        injection h with h; injection h with h2 h; injection h with h3 h
        refine ⟨by omega, by omega, ?_⟩
        rw [← h3]
        unfold spF at h1 ⊢
        dsimp only at h1 ⊢
        have ff : ∀ q : Prop, ¬ (false = true ∧ q) := fun q hq => absurd hq.1 (by decide)
        simp only [if_neg (ff _)] at h1 ⊢
        split
        · show (-1 : Int) < 200; decide
        · split
          · show (-1 : Int) < 200; decide
          · split
            · dsimp only; omega
            · dsimp only; omega
/-- the fault of orders -/
def osF (ch : Int → Int) (n : Int) : Nat → Int → Int
  | 0, _ => -1
  | m + 1, a => if n ≤ a then -1 else match orF ch a with | .inl a' => a' | .inr (a', _) => osF ch n m a'
theorem orF_ge {p : Nat} {a a' tg kd nu : Int} {tk : List Int} (h : orF (pch g p) a = .inr (a', tg, kd, nu, tk)) (hC : PcI g p) (ha : 0 ≤ a) : 0 ≤ a' := by
  have key : ∀ i, 1 ≤ pch g p i → 0 ≤ i := fun i hi => by
    unfold pch at hi; split at hi <;> omega
  unfold orF at h
  split at h
  · cases h
  · split at h
    · cases h
    · generalize e : ctF (pch g p) 59 ((spF (pch g p) false a).2 + 1) = r at h
      cases r with
      | inl z => cases h
      | inr z =>
        obtain ⟨a1, kd1, nu1, tk1⟩ := z
        have h59 := ctF_end hC (by decide) e
        have := key a1 (by omega)
        injection h with h; injection h with h2 h
        omega
theorem l_orders {p : Nat} (hS : PdS S p) : ∀ (m : Nat) (i a : Int) (g : xGm), PcI g p → i + m = 60 → 0 ≤ i → 0 ≤ a → a ≤ g p 1 →
    ∃ g', FrO g g' p ∧ ∀ Q, Wx X (d + 10) 143 6 [some (.ref p), some (.int (iI i))] [] (hp S (gAt g p a)) Q = Q (.inl (some (.int (iI (osF (pch g p) (g p 1) m a))))) (hp S g') := by
  have p0 := hS.1
  intro m
  induction m with
  | zero =>
    intro i a g hC hi h ha ha2
    obtain rfl : i = 60 := by omega
    refine ⟨gAt g p a, FrO_Q FrQ_at, fun Q => ?_⟩
    rw [w_iload_n1 (pc' := 7) q143 d143_6 rfl, osF]
    simp (config := { decide := true }) only [w_bipush (z' := (60)) (pc' := 9) q143 d143_7 rfl (by decide), w_icmp_ge (tg := 41) (pc' := 12) q143 d143_9 (by decide) rfl, w_iconst (pc' := 42) q143 d143_41 rfl, w_ireturn q143 d143_42 m143.2.1, gs_off, gs_off0, gs_0off, gs_2, xN_0, xN_2, xN_3, xN_6, xN_7, xN_8, xN_9, xN_10, xN_11, xN_12, xN_13, xN_14, xN_15, xN_16, xN_17, xN_18, xN_19, xN_20, xN_21, xN_22, xN_23, xN_24, xN_25, xN_26, xN_27, xN_28, xN_29, xN_30, xN_31, xN_32, xN_33, xN_34, xN_35, xN_36, xN_37, xN_38, xN_39, xN_40, xN_41, xN_42, xN_43, xN_44, xN_45, xN_46, xN_47, xN_48, xN_49, xN_50, xN_51, xN_52, xN_53, xN_54, xN_55, ti_0, ti_1, ti_2, ti_3, ti_4, ti_5, ti_6, ti_7, ti_8, ti_9, ti_10, ti_16, ti_19, ti_20, ti_29, ti_30, ti_31, ti_32, ti_35, ti_36, ti_38, ti_39, ti_40, ti_41, ti_42, ti_43, ti_44, ti_45, ti_46, ti_47, ti_48, ti_49, ti_50, ti_51, ti_52, ti_53, ti_54, ti_55, ti_56, ti_57, ti_58, ti_59, ti_60, ti_61, ti_62, ti_63, ti_64, ti_65, ti_74, ti_77, ti_126, ti_200, ti_201, ti_202, ti_203, ti_204, ti_205, ti_210, ti_255, ti_256, ti_400, ti_512, ti_600, ti_601, ti_602, ti_1000, ti_1023, ti_1024, ti_2000, ti_10000, ti_12602, ti_999999, ti_m999999, ti_m1, ti_2000000, ti_3000000, xN_1, xN_4, xN_5, xN_60, xN_61, xN_64, xN_200, xN_800, xN_12000, xN_12602, eq_self, and_self, and_true, true_and, if_true, if_false, decide_true, Nat.reduceLeDiff, xc2_int, xc2_ref, xc2_ra, xc2_null, xc2_long, xc2_none, xisaT_ref, xisaT_ra, xisaT_null, xc1T_int, xc1T_ref, xc1T_ra, xc1T_null, xsum_nil, xsum_int, xsum_ref, xsum_ra, xsum_long, xsum_double, xsum_null, xfl_nil, xfl_int, xfl_ref, xfl_ra, xfl_null, xfl_long, xfl_double, List.length_cons, List.length_nil, xfk, xfv, xak, xan, xcls, xsv', List.getElem?_cons_zero, List.getElem?_cons_succ, List.getD_cons_zero, List.getD_cons_succ, Option.getD_some, Option.isSome_some, if_true, if_pos, xcont, Option.toList_none, Option.toList_some, List.nil_append, List.cons_append]
  | succ m ih =>
    intro i a g hC hi h ha ha2
    have hn60 := hC.2.1
    have ti' : ti i = i := ti_eq (by omega) (by omega)
    have hlt : ¬ 60 ≤ i := by omega
    have ta : ti a = a := ti_eq (by omega) (by omega)
    have e1 : gAt g p a p 1 = g p 1 := gAt_o (by decide) g p a
    have tn : ti (g p 1) = g p 1 := ti_eq (by omega) (by omega)
    rw [osF]
    by_cases hna : g p 1 ≤ a
    · rw [if_pos hna]
      refine ⟨gAt g p a, FrO_Q FrQ_at, fun Q => ?_⟩
      rw [w_iload_n1 (pc' := 7) q143 d143_6 rfl]
      simp (config := { decide := true }) only [w_bipush (z' := (60)) (pc' := 9) q143 d143_7 rfl (by decide), w_icmp_ge (tg := 41) (pc' := 12) q143 d143_9 (by decide) rfl, w_aload_n0 (pc' := 13) q143 d143_12 rfl, w_getI (pc' := 16) q143 d143_13 rfl f143_33, w_aload_n0 (pc' := 17) q143 d143_16 rfl, w_getI (pc' := 20) q143 d143_17 rfl f143_29, w_icmp_ge (tg := 41) (pc' := 23) q143 d143_20 (by decide) rfl, w_iconst (pc' := 42) q143 d143_41 rfl, w_ireturn q143 d143_42 m143.2.1, gs_off, gs_off0, gs_0off, gs_2, xN_0, xN_2, xN_3, xN_6, xN_7, xN_8, xN_9, xN_10, xN_11, xN_12, xN_13, xN_14, xN_15, xN_16, xN_17, xN_18, xN_19, xN_20, xN_21, xN_22, xN_23, xN_24, xN_25, xN_26, xN_27, xN_28, xN_29, xN_30, xN_31, xN_32, xN_33, xN_34, xN_35, xN_36, xN_37, xN_38, xN_39, xN_40, xN_41, xN_42, xN_43, xN_44, xN_45, xN_46, xN_47, xN_48, xN_49, xN_50, xN_51, xN_52, xN_53, xN_54, xN_55, ti_0, ti_1, ti_2, ti_3, ti_4, ti_5, ti_6, ti_7, ti_8, ti_9, ti_10, ti_16, ti_19, ti_20, ti_29, ti_30, ti_31, ti_32, ti_35, ti_36, ti_38, ti_39, ti_40, ti_41, ti_42, ti_43, ti_44, ti_45, ti_46, ti_47, ti_48, ti_49, ti_50, ti_51, ti_52, ti_53, ti_54, ti_55, ti_56, ti_57, ti_58, ti_59, ti_60, ti_61, ti_62, ti_63, ti_64, ti_65, ti_74, ti_77, ti_126, ti_200, ti_201, ti_202, ti_203, ti_204, ti_205, ti_210, ti_255, ti_256, ti_400, ti_512, ti_600, ti_601, ti_602, ti_1000, ti_1023, ti_1024, ti_2000, ti_10000, ti_12602, ti_999999, ti_m999999, ti_m1, ti_2000000, ti_3000000, xN_1, xN_4, xN_5, xN_60, xN_61, xN_64, xN_200, xN_800, xN_12000, xN_12602, eq_self, and_self, and_true, true_and, if_true, if_false, decide_true, Nat.reduceLeDiff, xc2_int, xc2_ref, xc2_ra, xc2_null, xc2_long, xc2_none, xisaT_ref, xisaT_ra, xisaT_null, xc1T_int, xc1T_ref, xc1T_ra, xc1T_null, xsum_nil, xsum_int, xsum_ref, xsum_ra, xsum_long, xsum_double, xsum_null, xfl_nil, xfl_int, xfl_ref, xfl_ra, xfl_null, xfl_long, xfl_double, List.length_cons, List.length_nil, p0, ti', hlt, gAt_a, e1, ta, tn, hna, xfk, xfv, xak, xan, xcls, xsv', List.getElem?_cons_zero, List.getElem?_cons_succ, List.getD_cons_zero, List.getD_cons_succ, Option.getD_some, Option.isSome_some, if_true, if_pos, xcont, Option.toList_none, Option.toList_some, List.nil_append, List.cons_append]
    · rw [if_neg hna]
      have hor := c_readOrder (X := X) (d := d) hS hC ha (by omega)
      have hend := fun a' tg kd nu tk => orF_end (g := g) (p := p) (a := a) (a' := a') (tg := tg) (kd := kd) (nu := nu) (tk := tk) hC ha
      have hge := fun a' tg kd nu tk => orF_ge (g := g) (p := p) (a := a) (a' := a') (tg := tg) (kd := kd) (nu := nu) (tk := tk)
      generalize orF (pch g p) a = r at hor hend hge
      cases r with
      | inl a' =>
        obtain ⟨g', w1, w2⟩ := hor
        refine ⟨gAt g' p a', FrO_trans w1 (FrO_Q FrQ_at), fun Q => ?_⟩
        dsimp only at w2 ⊢
        rw [w_iload_n1 (pc' := 7) q143 d143_6 rfl]
        simp (config := { decide := true }) only [w_bipush (z' := (60)) (pc' := 9) q143 d143_7 rfl (by decide), w_icmp_ge (tg := 41) (pc' := 12) q143 d143_9 (by decide) rfl, w_aload_n0 (pc' := 13) q143 d143_12 rfl, w_getI (pc' := 16) q143 d143_13 rfl f143_33, w_aload_n0 (pc' := 17) q143 d143_16 rfl, w_getI (pc' := 20) q143 d143_17 rfl f143_29, w_icmp_ge (tg := 41) (pc' := 23) q143 d143_20 (by decide) rfl, w_aload_n0 (pc' := 24) q143 d143_23 rfl, w_invv0 (ci := 8) (pc' := 27) q143 d143_24 rfl n143_43 k143_43_8 m144.1, w_if_ne (tg := 35) (pc' := 30) q143 d143_27 (by decide) rfl, w_aload_n0 (pc' := 31) q143 d143_30 rfl, w_getI (pc' := 34) q143 d143_31 rfl f143_33, w_ireturn q143 d143_34 m143.2.1, gs_off, gs_off0, gs_0off, gs_2, xN_0, xN_2, xN_3, xN_6, xN_7, xN_8, xN_9, xN_10, xN_11, xN_12, xN_13, xN_14, xN_15, xN_16, xN_17, xN_18, xN_19, xN_20, xN_21, xN_22, xN_23, xN_24, xN_25, xN_26, xN_27, xN_28, xN_29, xN_30, xN_31, xN_32, xN_33, xN_34, xN_35, xN_36, xN_37, xN_38, xN_39, xN_40, xN_41, xN_42, xN_43, xN_44, xN_45, xN_46, xN_47, xN_48, xN_49, xN_50, xN_51, xN_52, xN_53, xN_54, xN_55, ti_0, ti_1, ti_2, ti_3, ti_4, ti_5, ti_6, ti_7, ti_8, ti_9, ti_10, ti_16, ti_19, ti_20, ti_29, ti_30, ti_31, ti_32, ti_35, ti_36, ti_38, ti_39, ti_40, ti_41, ti_42, ti_43, ti_44, ti_45, ti_46, ti_47, ti_48, ti_49, ti_50, ti_51, ti_52, ti_53, ti_54, ti_55, ti_56, ti_57, ti_58, ti_59, ti_60, ti_61, ti_62, ti_63, ti_64, ti_65, ti_74, ti_77, ti_126, ti_200, ti_201, ti_202, ti_203, ti_204, ti_205, ti_210, ti_255, ti_256, ti_400, ti_512, ti_600, ti_601, ti_602, ti_1000, ti_1023, ti_1024, ti_2000, ti_10000, ti_12602, ti_999999, ti_m999999, ti_m1, ti_2000000, ti_3000000, xN_1, xN_4, xN_5, xN_60, xN_61, xN_64, xN_200, xN_800, xN_12000, xN_12602, eq_self, and_self, and_true, true_and, if_true, if_false, decide_true, Nat.reduceLeDiff, xc2_int, xc2_ref, xc2_ra, xc2_null, xc2_long, xc2_none, xisaT_ref, xisaT_ra, xisaT_null, xc1T_int, xc1T_ref, xc1T_ra, xc1T_null, xsum_nil, xsum_int, xsum_ref, xsum_ra, xsum_long, xsum_double, xsum_null, xfl_nil, xfl_int, xfl_ref, xfl_ra, xfl_null, xfl_long, xfl_double, List.length_cons, List.length_nil, p0, ti', hlt, gAt_a, e1, ta, tn, hna, w2, not_true_eq_false, xfk, xfv, xak, xan, xcls, xsv', List.getElem?_cons_zero, List.getElem?_cons_succ, List.getD_cons_zero, List.getD_cons_succ, Option.getD_some, Option.isSome_some, if_true, if_pos, xcont, Option.toList_none, Option.toList_some, List.nil_append, List.cons_append]
      | inr z =>
        obtain ⟨a', tg, kd, nu, tk⟩ := z
        obtain ⟨g', w1, w2, w3, w4⟩ := hor
        have hb := hend a' tg kd nu tk rfl
        have hb2 := hge a' tg kd nu tk rfl hC ha
        obtain ⟨g2, v1, v2⟩ := ih (i + 1) a' g' (FrO_PcI w1 hC) (by omega) (by omega) hb2 (by rw [FrO_1 w1]; exact hb.1)
        rw [FrO_pch w1, FrO_1 w1] at v2
        refine ⟨g2, FrO_trans w1 v1, fun Q => ?_⟩
        dsimp only at w4 ⊢
        rw [← v2 Q, w_iload_n1 (pc' := 7) q143 d143_6 rfl]
        simp (config := { decide := true }) only [w_bipush (z' := (60)) (pc' := 9) q143 d143_7 rfl (by decide), w_icmp_ge (tg := 41) (pc' := 12) q143 d143_9 (by decide) rfl, w_aload_n0 (pc' := 13) q143 d143_12 rfl, w_getI (pc' := 16) q143 d143_13 rfl f143_33, w_aload_n0 (pc' := 17) q143 d143_16 rfl, w_getI (pc' := 20) q143 d143_17 rfl f143_29, w_icmp_ge (tg := 41) (pc' := 23) q143 d143_20 (by decide) rfl, w_aload_n0 (pc' := 24) q143 d143_23 rfl, w_invv0 (ci := 8) (pc' := 27) q143 d143_24 rfl n143_43 k143_43_8 m144.1, w_if_ne (tg := 35) (pc' := 30) q143 d143_27 (by decide) rfl, w_aload_n0 (pc' := 31) q143 d143_30 rfl, w_getI (pc' := 34) q143 d143_31 rfl f143_33, w_ireturn q143 d143_34 m143.2.1, w_iinc1 (z := (1)) (pc' := 38) q143 d143_35 rfl, w_goto (tg := 6) q143 d143_38 (by decide), gs_off, gs_off0, gs_0off, gs_2, xN_0, xN_2, xN_3, xN_6, xN_7, xN_8, xN_9, xN_10, xN_11, xN_12, xN_13, xN_14, xN_15, xN_16, xN_17, xN_18, xN_19, xN_20, xN_21, xN_22, xN_23, xN_24, xN_25, xN_26, xN_27, xN_28, xN_29, xN_30, xN_31, xN_32, xN_33, xN_34, xN_35, xN_36, xN_37, xN_38, xN_39, xN_40, xN_41, xN_42, xN_43, xN_44, xN_45, xN_46, xN_47, xN_48, xN_49, xN_50, xN_51, xN_52, xN_53, xN_54, xN_55, ti_0, ti_1, ti_2, ti_3, ti_4, ti_5, ti_6, ti_7, ti_8, ti_9, ti_10, ti_16, ti_19, ti_20, ti_29, ti_30, ti_31, ti_32, ti_35, ti_36, ti_38, ti_39, ti_40, ti_41, ti_42, ti_43, ti_44, ti_45, ti_46, ti_47, ti_48, ti_49, ti_50, ti_51, ti_52, ti_53, ti_54, ti_55, ti_56, ti_57, ti_58, ti_59, ti_60, ti_61, ti_62, ti_63, ti_64, ti_65, ti_74, ti_77, ti_126, ti_200, ti_201, ti_202, ti_203, ti_204, ti_205, ti_210, ti_255, ti_256, ti_400, ti_512, ti_600, ti_601, ti_602, ti_1000, ti_1023, ti_1024, ti_2000, ti_10000, ti_12602, ti_999999, ti_m999999, ti_m1, ti_2000000, ti_3000000, xN_1, xN_4, xN_5, xN_60, xN_61, xN_64, xN_200, xN_800, xN_12000, xN_12602, eq_self, and_self, and_true, true_and, if_true, if_false, decide_true, Nat.reduceLeDiff, xc2_int, xc2_ref, xc2_ra, xc2_null, xc2_long, xc2_none, xisaT_ref, xisaT_ra, xisaT_null, xc1T_int, xc1T_ref, xc1T_ra, xc1T_null, xsum_nil, xsum_int, xsum_ref, xsum_ra, xsum_long, xsum_double, xsum_null, xfl_nil, xfl_int, xfl_ref, xfl_ra, xfl_null, xfl_long, xfl_double, List.length_cons, List.length_nil, p0, ti', hlt, gAt_a, e1, ta, tn, hna, w4, not_false_eq_true, xfk, xfv, xak, xan, xcls, xsv', List.getElem?_cons_zero, List.getElem?_cons_succ, List.getD_cons_zero, List.getD_cons_succ, Option.getD_some, Option.isSome_some, if_true, if_pos, xcont, Option.toList_none, Option.toList_some, List.nil_append, List.cons_append]
theorem c_faultAsOrders {p : Nat} (hS : PdS S p) (hC : PcI g p) : ∃ g', FrO g g' p ∧ ∀ Q, Cw X (d + 10) 143 [.ref p] (hp S g) Q = Q (.inl (some (.int (iI (osF (pch g p) (g p 1) 60 0))))) (hp S g') := by
  have p0 := hS.1
  have hsr : ∀ Q, Cw X (d + 9) 123 [.ref p] (hp S g) Q = Q (.inl none) (hp S (gAt g p 0)) := fun Q => by
    rw [e123]
    unfold gAt
    simp (config := { decide := true }) only [w_aload_n0 (pc' := 1) q123 d123_0 rfl, w_iconst (pc' := 2) q123 d123_1 rfl, w_putI (pc' := 5) q123 d123_2 rfl f123_33 rfl (by decide +kernel), w_return q123 d123_5 m123.2.1, gs_off, gs_off0, gs_0off, gs_2, xN_0, xN_2, xN_3, xN_6, xN_7, xN_8, xN_9, xN_10, xN_11, xN_12, xN_13, xN_14, xN_15, xN_16, xN_17, xN_18, xN_19, xN_20, xN_21, xN_22, xN_23, xN_24, xN_25, xN_26, xN_27, xN_28, xN_29, xN_30, xN_31, xN_32, xN_33, xN_34, xN_35, xN_36, xN_37, xN_38, xN_39, xN_40, xN_41, xN_42, xN_43, xN_44, xN_45, xN_46, xN_47, xN_48, xN_49, xN_50, xN_51, xN_52, xN_53, xN_54, xN_55, ti_0, ti_1, ti_2, ti_3, ti_4, ti_5, ti_6, ti_7, ti_8, ti_9, ti_10, ti_16, ti_19, ti_20, ti_29, ti_30, ti_31, ti_32, ti_35, ti_36, ti_38, ti_39, ti_40, ti_41, ti_42, ti_43, ti_44, ti_45, ti_46, ti_47, ti_48, ti_49, ti_50, ti_51, ti_52, ti_53, ti_54, ti_55, ti_56, ti_57, ti_58, ti_59, ti_60, ti_61, ti_62, ti_63, ti_64, ti_65, ti_74, ti_77, ti_126, ti_200, ti_201, ti_202, ti_203, ti_204, ti_205, ti_210, ti_255, ti_256, ti_400, ti_512, ti_600, ti_601, ti_602, ti_1000, ti_1023, ti_1024, ti_2000, ti_10000, ti_12602, ti_999999, ti_m999999, ti_m1, ti_2000000, ti_3000000, xN_1, xN_4, xN_5, xN_60, xN_61, xN_64, xN_200, xN_800, xN_12000, xN_12602, eq_self, and_self, and_true, true_and, if_true, if_false, decide_true, Nat.reduceLeDiff, xc2_int, xc2_ref, xc2_ra, xc2_null, xc2_long, xc2_none, xisaT_ref, xisaT_ra, xisaT_null, xc1T_int, xc1T_ref, xc1T_ra, xc1T_null, xsum_nil, xsum_int, xsum_ref, xsum_ra, xsum_long, xsum_double, xsum_null, xfl_nil, xfl_int, xfl_ref, xfl_ra, xfl_null, xfl_long, xfl_double, List.length_cons, List.length_nil, p0, xfk, xfv, xak, xan, xcls, xsv', List.getElem?_cons_zero, List.getElem?_cons_succ, List.getD_cons_zero, List.getD_cons_succ, Option.getD_some, Option.isSome_some, if_true, if_pos, xcont, Option.toList_none, Option.toList_some, List.nil_append, List.cons_append]
  obtain ⟨g', h1, h2⟩ := l_orders (X := X) (d := d) hS 60 0 0 g hC (by decide) (by decide) (by decide) hC.1
  refine ⟨g', h1, fun Q => ?_⟩
  rw [← h2 Q, e143]
  simp (config := { decide := true }) only [w_aload_n0 (pc' := 1) q143 d143_0 rfl, w_invv0 (ci := 8) (pc' := 4) q143 d143_1 rfl n143_36 k143_36_8 m123.1, w_iconst (pc' := 5) q143 d143_4 rfl, w_istore_n1 (pc' := 6) q143 d143_5 rfl, gs_off, gs_off0, gs_0off, gs_2, xN_0, xN_2, xN_3, xN_6, xN_7, xN_8, xN_9, xN_10, xN_11, xN_12, xN_13, xN_14, xN_15, xN_16, xN_17, xN_18, xN_19, xN_20, xN_21, xN_22, xN_23, xN_24, xN_25, xN_26, xN_27, xN_28, xN_29, xN_30, xN_31, xN_32, xN_33, xN_34, xN_35, xN_36, xN_37, xN_38, xN_39, xN_40, xN_41, xN_42, xN_43, xN_44, xN_45, xN_46, xN_47, xN_48, xN_49, xN_50, xN_51, xN_52, xN_53, xN_54, xN_55, ti_0, ti_1, ti_2, ti_3, ti_4, ti_5, ti_6, ti_7, ti_8, ti_9, ti_10, ti_16, ti_19, ti_20, ti_29, ti_30, ti_31, ti_32, ti_35, ti_36, ti_38, ti_39, ti_40, ti_41, ti_42, ti_43, ti_44, ti_45, ti_46, ti_47, ti_48, ti_49, ti_50, ti_51, ti_52, ti_53, ti_54, ti_55, ti_56, ti_57, ti_58, ti_59, ti_60, ti_61, ti_62, ti_63, ti_64, ti_65, ti_74, ti_77, ti_126, ti_200, ti_201, ti_202, ti_203, ti_204, ti_205, ti_210, ti_255, ti_256, ti_400, ti_512, ti_600, ti_601, ti_602, ti_1000, ti_1023, ti_1024, ti_2000, ti_10000, ti_12602, ti_999999, ti_m999999, ti_m1, ti_2000000, ti_3000000, xN_1, xN_4, xN_5, xN_60, xN_61, xN_64, xN_200, xN_800, xN_12000, xN_12602, eq_self, and_self, and_true, true_and, if_true, if_false, decide_true, Nat.reduceLeDiff, xc2_int, xc2_ref, xc2_ra, xc2_null, xc2_long, xc2_none, xisaT_ref, xisaT_ra, xisaT_null, xc1T_int, xc1T_ref, xc1T_ra, xc1T_null, xsum_nil, xsum_int, xsum_ref, xsum_ra, xsum_long, xsum_double, xsum_null, xfl_nil, xfl_int, xfl_ref, xfl_ra, xfl_null, xfl_long, xfl_double, List.length_cons, List.length_nil, p0, hsr, xfk, xfv, xak, xan, xcls, xsv', List.getElem?_cons_zero, List.getElem?_cons_succ, List.getD_cons_zero, List.getD_cons_succ, Option.getD_some, Option.isSome_some, if_true, if_pos, xcont, Option.toList_none, Option.toList_some, List.nil_append, List.cons_append]
theorem c_append {p : Nat} {n c : Int} (hS : PdS S p) (hn : g p 1 = n) (hn0 : 0 ≤ n) (hn2 : n < 60) (hc : 0 ≤ c ∧ c ≤ 127) : Cw X d 145 [.ref p, .int (iI c)] (hp S g) Q = Q (.inl none) (hp S (gs (gs g (p + 1) n c) p 1 (n + 1))) := by
  obtain ⟨p0, p1, -⟩ := hS
  have tn : ti n = n := ti_eq (by omega) (by omega)
  have hlt : ¬ 60 ≤ n := by omega
  have e1 : gs g (p + 1) n c p 1 = n := by rw [gs_row _ _ _ (by omega)]; exact hn
  have ec : xnc c = c := by rw [xnc_pos hc.1 (by omega)]; omega
  rw [e145]
  simp (config := { decide := true }) only [w_aload_n0 (pc' := 1) q145 d145_0 rfl, w_getI (pc' := 4) q145 d145_1 rfl f145_29, w_bipush (z' := (60)) (pc' := 6) q145 d145_4 rfl (by decide), w_icmp_ge (tg := 29) (pc' := 9) q145 d145_6 (by decide) rfl, w_aload_n0 (pc' := 10) q145 d145_9 rfl, w_getV (pc' := 13) q145 d145_10 rfl f145_9, w_aload_n0 (pc' := 14) q145 d145_13 rfl, w_getI (pc' := 17) q145 d145_14 rfl f145_29, w_iload_n1 (pc' := 18) q145 d145_17 rfl, w_castore (pc' := 19) q145 d145_18 rfl, w_aload_n0 (pc' := 20) q145 d145_19 rfl, w_dup (pc' := 21) q145 d145_20 rfl, w_getI (pc' := 24) q145 d145_21 rfl f145_29, w_iconst (pc' := 25) q145 d145_24 rfl, w_iadd (pc' := 26) q145 d145_25 rfl, w_putI (pc' := 29) q145 d145_26 rfl f145_29 rfl (by decide +kernel), w_return q145 d145_29 m145.2.1, gs_off, gs_off0, gs_0off, gs_2, xN_0, xN_2, xN_3, xN_6, xN_7, xN_8, xN_9, xN_10, xN_11, xN_12, xN_13, xN_14, xN_15, xN_16, xN_17, xN_18, xN_19, xN_20, xN_21, xN_22, xN_23, xN_24, xN_25, xN_26, xN_27, xN_28, xN_29, xN_30, xN_31, xN_32, xN_33, xN_34, xN_35, xN_36, xN_37, xN_38, xN_39, xN_40, xN_41, xN_42, xN_43, xN_44, xN_45, xN_46, xN_47, xN_48, xN_49, xN_50, xN_51, xN_52, xN_53, xN_54, xN_55, ti_0, ti_1, ti_2, ti_3, ti_4, ti_5, ti_6, ti_7, ti_8, ti_9, ti_10, ti_16, ti_19, ti_20, ti_29, ti_30, ti_31, ti_32, ti_35, ti_36, ti_38, ti_39, ti_40, ti_41, ti_42, ti_43, ti_44, ti_45, ti_46, ti_47, ti_48, ti_49, ti_50, ti_51, ti_52, ti_53, ti_54, ti_55, ti_56, ti_57, ti_58, ti_59, ti_60, ti_61, ti_62, ti_63, ti_64, ti_65, ti_74, ti_77, ti_126, ti_200, ti_201, ti_202, ti_203, ti_204, ti_205, ti_210, ti_255, ti_256, ti_400, ti_512, ti_600, ti_601, ti_602, ti_1000, ti_1023, ti_1024, ti_2000, ti_10000, ti_12602, ti_999999, ti_m999999, ti_m1, ti_2000000, ti_3000000, xN_1, xN_4, xN_5, xN_60, xN_61, xN_64, xN_200, xN_800, xN_12000, xN_12602, eq_self, and_self, and_true, true_and, if_true, if_false, decide_true, Nat.reduceLeDiff, xc2_int, xc2_ref, xc2_ra, xc2_null, xc2_long, xc2_none, xisaT_ref, xisaT_ra, xisaT_null, xc1T_int, xc1T_ref, xc1T_ra, xc1T_null, xsum_nil, xsum_int, xsum_ref, xsum_ra, xsum_long, xsum_double, xsum_null, xfl_nil, xfl_int, xfl_ref, xfl_ra, xfl_null, xfl_long, xfl_double, List.length_cons, List.length_nil, p0, p1, hn, e1, tn, hlt, hn0, hn2, ec, xfk, xfv, xak, xan, xcls, xsv', List.getElem?_cons_zero, List.getElem?_cons_succ, List.getD_cons_zero, List.getD_cons_succ, Option.getD_some, Option.isSome_some, if_true, if_pos, xcont, Option.toList_none, Option.toList_some, List.nil_append, List.cons_append]
end
