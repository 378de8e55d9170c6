/-! The model: computesAll; what is reached -/
section
/-- the model between its calls: cells, results, order, places, chains, bits -/
def MoI (g : xGm) (m : Nat) (T : Int → List Int) : Prop :=
  CeM g m T ∧ MoR g m ∧ Sol (g (m + 1)) T (g (m + 13)) (g (m + 12)) (g (m + 18)) (g m 30) ∧ ChS (RfA (g (m + 1)) T) (g (m + 18)) (g (m + 20)) (g m 30) ∧
  ((∀ i, 0 ≤ i → i < g m 30 → g (m + 19) (g (m + 18) i) = i) ∧ ∀ c, 0 ≤ c → c < 200 → ¬ oin (g (m + 18)) (g m 30) c → g (m + 19) c = -1 ∧ g (m + 20) c = 0) ∧
  (∀ c o, 0 ≤ c → c < 200 → 0 ≤ o → o < 256 → (bt (g (m + 8)) c o = true ↔ RfA (g (m + 1)) T c o)) ∧ ∀ c, 0 ≤ c → c < 200 → ¬ g (m + 1) c = 2 → g (m + 12) c = nvM g m c
variable {X : xX} {S : xLm} {g : xGm} {d : Nat} {w : xH} {Q : xO → xH → Prop}
theorem m_computesAll {m : Nat} {T : Int → List Int} (hS : MdS S m) (hC : CeM g m T) (hR : MoR g m) : ∃ g', FxC g g' m ∧ MoI g' m T ∧ ∀ Q, Cw X (d + 6) 271 [.ref m] (hp S g) Q = Q (.inl none) (hp S g') := by
  have s0 := hS.1
  obtain ⟨g1, p1, p2, p3, p4, p5, p6, p7, p8⟩ := m_prepares (X := X) (d := d + 2) hS hC hR
  have no0 : ∀ r c, ¬ oin r 0 c := fun r c ⟨i, i1, i2, _⟩ => by omega
  have h1 : CaI g g1 m T 0 := by
    refine ⟨⟨Fx_mono p1 (by decide) (by decide), p2, p3, by decide⟩, ⟨fun i i1 i2 => by omega, fun i i1 i2 => by omega⟩, ⟨fun i i1 i2 => by omega, fun c c1 c2 _ => ?_⟩, ⟨p5, p6, fun o o1 o2 => ?_⟩, fun c c1 c2 => ?_⟩
    · exact ⟨(p4 c c1 c2).1, (p4 c c1 c2).2.1⟩
    · rw [p7 o o1 o2]
      exact ⟨fun h => absurd h (by decide), fun h => absurd h (no0 _ _)⟩
    · obtain ⟨-, -, a, b⟩ := p4 c c1 c2
      refine ⟨fun h => ⟨?_, a⟩, fun h _ => ⟨?_, ?_⟩, fun h => absurd h (no0 _ _)⟩
      · rw [b]; unfold nfM; rw [if_neg h]
      · rw [b]; unfold nfM; rw [if_pos h]
      · rw [a]; unfold nvM; rw [if_neg (by omega)]
  obtain ⟨g2, p, h2, h3, h4⟩ := l_cAll (X := X) (d := d) hS hC 201 0 g1 h1 (by decide)
  have hnx := CaI_next (X := X) (d := d + 3) hS hC h1
  obtain ⟨⟨f1, mr, h30, hp0⟩, ⟨hO, hCh⟩, ⟨hp1, hp2⟩, ⟨hb1, hb2, hb3⟩, hv⟩ := h2
  have eK : g2 (m + 1) = g (m + 1) := Fx_at f1 (by decide) (by decide)
  refine ⟨g2, f1, ⟨CeM_congr eK hC, mr, ?_, ?_, ?_, ?_, ?_⟩, fun Q => ?_⟩
  · rw [eK, h30]
    refine ⟨hO, hp0, h3, fun c c1 c2 => ?_⟩
    obtain ⟨v1, v2, v3⟩ := hv c c1 c2
    refine ⟨fun _ h => v3 h, v2, fun h => (v1 h).1, fun h => ?_⟩
    rw [(v1 (by omega)).2]; unfold nvM; rw [if_neg (by omega)]
  · rw [eK, h30]; exact hCh
  · rw [h30]; exact ⟨hp1, hp2⟩
  · rw [eK]; exact hb1
  · intro c c1 c2 hk
    rw [eK] at hk
    rw [((hv c c1 c2).1 hk).2]
    unfold nvM
    rw [eK]
  · rw [← h4 Q, e271]
    simp (config := { decide := true }) only [w_aload_n0 (pc' := 1) q271 d271_0 rfl, w_invv0 (ci := 11) (pc' := 4) q271 d271_1 rfl n271_84 k271_84_11 m218.1, w_aload_n0 (pc' := 5) q271 d271_4 rfl, w_invv0 (ci := 11) (pc' := 8) q271 d271_5 rfl n271_247 k271_247_11 m272.1, w_istore_n1 (pc' := 9) q271 d271_8 rfl, gs_off, gs_off0, gs_0off, gs_2, xN_0, xN_2, xN_3, xN_6, xN_7, xN_8, xN_9, xN_10, xN_11, xN_12, xN_13, xN_14, xN_15, xN_16, xN_17, xN_18, xN_19, xN_20, xN_21, xN_22, xN_23, xN_24, xN_25, xN_26, xN_27, xN_28, xN_29, xN_30, xN_31, xN_32, xN_33, xN_34, xN_35, xN_36, xN_37, xN_38, xN_39, xN_40, xN_41, xN_42, xN_43, xN_44, xN_45, xN_46, xN_47, xN_48, xN_49, xN_50, xN_51, xN_52, xN_53, xN_54, xN_55, ti_0, ti_1, ti_2, ti_3, ti_4, ti_5, ti_6, ti_7, ti_8, ti_9, ti_10, ti_16, ti_19, ti_20, ti_29, ti_30, ti_31, ti_32, ti_35, ti_36, ti_38, ti_39, ti_40, ti_41, ti_42, ti_43, ti_44, ti_45, ti_46, ti_47, ti_48, ti_49, ti_50, ti_51, ti_52, ti_53, ti_54, ti_55, ti_56, ti_57, ti_58, ti_59, ti_60, ti_61, ti_62, ti_63, ti_64, ti_65, ti_74, ti_77, ti_126, ti_200, ti_201, ti_202, ti_203, ti_204, ti_205, ti_210, ti_255, ti_256, ti_400, ti_512, ti_600, ti_601, ti_602, ti_1000, ti_1023, ti_1024, ti_2000, ti_10000, ti_12602, ti_999999, ti_m999999, ti_m1, ti_2000000, ti_3000000, xN_1, xN_4, xN_5, xN_60, xN_61, xN_64, xN_200, xN_800, xN_12000, xN_12602, eq_self, and_self, and_true, true_and, if_true, if_false, decide_true, Nat.reduceLeDiff, xc2_int, xc2_ref, xc2_ra, xc2_null, xc2_long, xc2_none, xisaT_ref, xisaT_ra, xisaT_null, xc1T_int, xc1T_ref, xc1T_ra, xc1T_null, xsum_nil, xsum_int, xsum_ref, xsum_ra, xsum_long, xsum_double, xsum_null, xfl_nil, xfl_int, xfl_ref, xfl_ra, xfl_null, xfl_long, xfl_double, List.length_cons, List.length_nil, s0, p8, hnx, xfk, xfv, xak, xan, xcls, xsv', List.getElem?_cons_zero, List.getElem?_cons_succ, List.getD_cons_zero, List.getD_cons_succ, Option.getD_some, Option.isSome_some, if_true, if_pos, xcont, Option.toList_none, Option.toList_some, List.nil_append, List.cons_append]
/-! what depends on a cell -/
def rcb (g : xGm) (m : Nat) (c : Int) : Bool := bt (g (m + 11)) 0 c
theorem l_hits {m : Nat} {f y2 : Int} {c : Int} (hS : MdS S m) (hc : 0 ≤ c) (hc2 : c < 200) : ∀ (n : Nat) (p b : Int), p + n = 4 → 0 ≤ p → (b = 0 ∨ b = 1) →
    ∃ z, (z = 0 ∨ z = 1) ∧ (z = 1 ↔ b = 1 ∨ ∃ o, p * 64 ≤ o ∧ o < 256 ∧ bt (g (m + 8)) c o = true ∧ rcb g m o = true) ∧ ∀ Q, Wx X d 296 48 [some (.ref m), some (.int (iI f)), some (.int (iI y2)), some (.int (iI c)), some (.int (iI b)), some (.int (iI p))] [] (hp S g) Q = Wx X d 296 96 [some (.ref m), some (.int (iI f)), some (.int (iI y2)), some (.int (iI c)), some (.int (iI z)), some (.int (iI 4))] [] (hp S g) Q := by
  have s0 := hS.1
  have s8 := MdS_8 hS
  have s11 := MdS_11 hS
  intro n
  induction n with
  | zero =>
    intro p b hn hp0 hb
    obtain rfl : p = 4 := by omega
    refine ⟨b, hb, ⟨.inl, fun h => ?_⟩, fun Q => ?_⟩
    · rcases h with h | ⟨o, h1, h2, _⟩
      · exact h
      · omega
    · rw [w_iload5 (pc' := 50) q296 d296_48 rfl]
      simp (config := { decide := true }) only [w_iconst (pc' := 51) q296 d296_50 rfl, w_icmp_ge (tg := 96) (pc' := 54) q296 d296_51 (by decide) rfl, gs_off, gs_off0, gs_0off, gs_2, xN_0, xN_2, xN_3, xN_6, xN_7, xN_8, xN_9, xN_10, xN_11, xN_12, xN_13, xN_14, xN_15, xN_16, xN_17, xN_18, xN_19, xN_20, xN_21, xN_22, xN_23, xN_24, xN_25, xN_26, xN_27, xN_28, xN_29, xN_30, xN_31, xN_32, xN_33, xN_34, xN_35, xN_36, xN_37, xN_38, xN_39, xN_40, xN_41, xN_42, xN_43, xN_44, xN_45, xN_46, xN_47, xN_48, xN_49, xN_50, xN_51, xN_52, xN_53, xN_54, xN_55, ti_0, ti_1, ti_2, ti_3, ti_4, ti_5, ti_6, ti_7, ti_8, ti_9, ti_10, ti_16, ti_19, ti_20, ti_29, ti_30, ti_31, ti_32, ti_35, ti_36, ti_38, ti_39, ti_40, ti_41, ti_42, ti_43, ti_44, ti_45, ti_46, ti_47, ti_48, ti_49, ti_50, ti_51, ti_52, ti_53, ti_54, ti_55, ti_56, ti_57, ti_58, ti_59, ti_60, ti_61, ti_62, ti_63, ti_64, ti_65, ti_74, ti_77, ti_126, ti_200, ti_201, ti_202, ti_203, ti_204, ti_205, ti_210, ti_255, ti_256, ti_400, ti_512, ti_600, ti_601, ti_602, ti_1000, ti_1023, ti_1024, ti_2000, ti_10000, ti_12602, ti_999999, ti_m999999, ti_m1, ti_2000000, ti_3000000, xN_1, xN_4, xN_5, xN_60, xN_61, xN_64, xN_200, xN_800, xN_12000, xN_12602, eq_self, and_self, and_true, true_and, if_true, if_false, decide_true, Nat.reduceLeDiff, xc2_int, xc2_ref, xc2_ra, xc2_null, xc2_long, xc2_none, xisaT_ref, xisaT_ra, xisaT_null, xc1T_int, xc1T_ref, xc1T_ra, xc1T_null, xsum_nil, xsum_int, xsum_ref, xsum_ra, xsum_long, xsum_double, xsum_null, xfl_nil, xfl_int, xfl_ref, xfl_ra, xfl_null, xfl_long, xfl_double, List.length_cons, List.length_nil, xfk, xfv, xak, xan, xcls, xsv', List.getElem?_cons_zero, List.getElem?_cons_succ, List.getD_cons_zero, List.getD_cons_succ, Option.getD_some, Option.isSome_some, if_true, if_pos, xcont, Option.toList_none, Option.toList_some, List.nil_append, List.cons_append]
  | succ n ih =>
    intro p b hn hp0 hb
    have tp : ti p = p := ti_eq (by omega) (by omega)
    have hlt : ¬ 4 ≤ p := by omega
    have b2 : p < 4 := by omega
    have e4 : 4 * c + p = c * 4 + p := by omega
    have t2 : ti (c * 4 + p) = c * 4 + p := ti_eq (by omega) (by omega)
    have b3 : 0 ≤ c * 4 + p := by omega
    have b4 : c * 4 + p < 800 := by omega
    have lz := long_zero2 (r := g (m + 8)) (t := g (m + 11)) (c := c) hp0
    by_cases h0 : b = 0 ∧ tl (lan (g (m + 8) (c * 4 + p)) (g (m + 11) p)) = 0
    · obtain ⟨z, h1, h2, h3⟩ := ih (p + 1) 0 (by omega) (by omega) (.inl rfl)
      obtain ⟨rfl, hz⟩ := h0
      have hz' := lz.mp hz
      refine ⟨z, h1, h2.trans ⟨fun h => ?_, fun h => ?_⟩, fun Q => ?_⟩
      · rcases h with h | ⟨o, o1, o2, o3, o4⟩
        · exact absurd h (by decide)
        · exact .inr ⟨o, by omega, o2, o3, o4⟩
      · rcases h with h | ⟨o, o1, o2, o3, o4⟩
        · exact absurd h (by decide)
        · by_cases e : o < p * 64 + 64
          · exact absurd o4 (hz' o o1 e o3)
          · exact .inr ⟨o, by omega, o2, o3, o4⟩
      · rw [← h3 Q, w_iload5 (pc' := 50) q296 d296_48 rfl]
        simp (config := { decide := true }) only [w_iconst (pc' := 51) q296 d296_50 rfl, w_icmp_ge (tg := 96) (pc' := 54) q296 d296_51 (by decide) rfl, w_iload4 (pc' := 56) q296 d296_54 rfl, w_if_ne (tg := 83) (pc' := 59) q296 d296_56 (by decide) rfl, w_aload_n0 (pc' := 60) q296 d296_59 rfl, w_getV (pc' := 63) q296 d296_60 rfl f296_31, w_iconst (pc' := 64) q296 d296_63 rfl, w_iload_n3 (pc' := 65) q296 d296_64 rfl, w_imul (pc' := 66) q296 d296_65 rfl, w_iload5 (pc' := 68) q296 d296_66 rfl, w_iadd (pc' := 69) q296 d296_68 rfl, w_laload (pc' := 70) q296 d296_69 rfl, w_aload_n0 (pc' := 71) q296 d296_70 rfl, w_getV (pc' := 74) q296 d296_71 rfl f296_41, w_iload5 (pc' := 76) q296 d296_74 rfl, w_laload (pc' := 77) q296 d296_76 rfl, w_land (pc' := 78) q296 d296_77 rfl, w_lconst0 (pc' := 79) q296 d296_78 rfl, w_lcmp (pc' := 80) q296 d296_79 rfl, w_if_eq (tg := 87) (pc' := 83) q296 d296_80 (by decide) rfl, w_iconst (pc' := 84) q296 d296_83 rfl, w_goto (tg := 88) q296 d296_84 (by decide), w_iconst (pc' := 88) q296 d296_87 rfl, w_istore4 (pc' := 90) q296 d296_88 rfl, w_iinc5 (z := (1)) (pc' := 93) q296 d296_90 rfl, w_goto (tg := 48) q296 d296_93 (by decide), gs_off, gs_off0, gs_0off, gs_2, xN_0, xN_2, xN_3, xN_6, xN_7, xN_8, xN_9, xN_10, xN_11, xN_12, xN_13, xN_14, xN_15, xN_16, xN_17, xN_18, xN_19, xN_20, xN_21, xN_22, xN_23, xN_24, xN_25, xN_26, xN_27, xN_28, xN_29, xN_30, xN_31, xN_32, xN_33, xN_34, xN_35, xN_36, xN_37, xN_38, xN_39, xN_40, xN_41, xN_42, xN_43, xN_44, xN_45, xN_46, xN_47, xN_48, xN_49, xN_50, xN_51, xN_52, xN_53, xN_54, xN_55, ti_0, ti_1, ti_2, ti_3, ti_4, ti_5, ti_6, ti_7, ti_8, ti_9, ti_10, ti_16, ti_19, ti_20, ti_29, ti_30, ti_31, ti_32, ti_35, ti_36, ti_38, ti_39, ti_40, ti_41, ti_42, ti_43, ti_44, ti_45, ti_46, ti_47, ti_48, ti_49, ti_50, ti_51, ti_52, ti_53, ti_54, ti_55, ti_56, ti_57, ti_58, ti_59, ti_60, ti_61, ti_62, ti_63, ti_64, ti_65, ti_74, ti_77, ti_126, ti_200, ti_201, ti_202, ti_203, ti_204, ti_205, ti_210, ti_255, ti_256, ti_400, ti_512, ti_600, ti_601, ti_602, ti_1000, ti_1023, ti_1024, ti_2000, ti_10000, ti_12602, ti_999999, ti_m999999, ti_m1, ti_2000000, ti_3000000, xN_1, xN_4, xN_5, xN_60, xN_61, xN_64, xN_200, xN_800, xN_12000, xN_12602, eq_self, and_self, and_true, true_and, if_true, if_false, decide_true, Nat.reduceLeDiff, xc2_int, xc2_ref, xc2_ra, xc2_null, xc2_long, xc2_none, xisaT_ref, xisaT_ra, xisaT_null, xc1T_int, xc1T_ref, xc1T_ra, xc1T_null, xsum_nil, xsum_int, xsum_ref, xsum_ra, xsum_long, xsum_double, xsum_null, xfl_nil, xfl_int, xfl_ref, xfl_ra, xfl_null, xfl_long, xfl_double, List.length_cons, List.length_nil, s0, s8, s11, tp, hlt, hp0, b2, e4, t2, b3, b4, lcm_eq, hz, tl_0, not_true_eq_false, xfk, xfv, xak, xan, xcls, xsv', List.getElem?_cons_zero, List.getElem?_cons_succ, List.getD_cons_zero, List.getD_cons_succ, Option.getD_some, Option.isSome_some, if_true, if_pos, xcont, Option.toList_none, Option.toList_some, List.nil_append, List.cons_append]
    · obtain ⟨z, h1, h2, h3⟩ := ih (p + 1) 1 (by omega) (by omega) (.inr rfl)
      have hex : b = 1 ∨ ∃ o, p * 64 ≤ o ∧ o < 256 ∧ bt (g (m + 8)) c o = true ∧ rcb g m o = true := by
        by_cases e : b = 1
        · exact .inl e
        · refine .inr (Classical.byContradiction fun hno => h0 ⟨hb.resolve_right e, lz.mpr (fun o o1 o2 o3 o4 => hno ⟨o, o1, by omega, o3, o4⟩)⟩)
      refine ⟨z, h1, ⟨fun _ => hex, fun _ => h2.mpr (.inl rfl)⟩, fun Q => ?_⟩
      rw [← h3 Q, w_iload5 (pc' := 50) q296 d296_48 rfl]
      rcases hb with rfl | rfl
      · have hz : ¬ tl (lan (g (m + 8) (c * 4 + p)) (g (m + 11) p)) = 0 := fun h => h0 ⟨rfl, h⟩
        simp (config := { decide := true }) only [w_iconst (pc' := 51) q296 d296_50 rfl, w_icmp_ge (tg := 96) (pc' := 54) q296 d296_51 (by decide) rfl, w_iload4 (pc' := 56) q296 d296_54 rfl, w_if_ne (tg := 83) (pc' := 59) q296 d296_56 (by decide) rfl, w_aload_n0 (pc' := 60) q296 d296_59 rfl, w_getV (pc' := 63) q296 d296_60 rfl f296_31, w_iconst (pc' := 64) q296 d296_63 rfl, w_iload_n3 (pc' := 65) q296 d296_64 rfl, w_imul (pc' := 66) q296 d296_65 rfl, w_iload5 (pc' := 68) q296 d296_66 rfl, w_iadd (pc' := 69) q296 d296_68 rfl, w_laload (pc' := 70) q296 d296_69 rfl, w_aload_n0 (pc' := 71) q296 d296_70 rfl, w_getV (pc' := 74) q296 d296_71 rfl f296_41, w_iload5 (pc' := 76) q296 d296_74 rfl, w_laload (pc' := 77) q296 d296_76 rfl, w_land (pc' := 78) q296 d296_77 rfl, w_lconst0 (pc' := 79) q296 d296_78 rfl, w_lcmp (pc' := 80) q296 d296_79 rfl, w_if_eq (tg := 87) (pc' := 83) q296 d296_80 (by decide) rfl, w_iconst (pc' := 84) q296 d296_83 rfl, w_goto (tg := 88) q296 d296_84 (by decide), w_iconst (pc' := 88) q296 d296_87 rfl, w_istore4 (pc' := 90) q296 d296_88 rfl, w_iinc5 (z := (1)) (pc' := 93) q296 d296_90 rfl, w_goto (tg := 48) q296 d296_93 (by decide), gs_off, gs_off0, gs_0off, gs_2, xN_0, xN_2, xN_3, xN_6, xN_7, xN_8, xN_9, xN_10, xN_11, xN_12, xN_13, xN_14, xN_15, xN_16, xN_17, xN_18, xN_19, xN_20, xN_21, xN_22, xN_23, xN_24, xN_25, xN_26, xN_27, xN_28, xN_29, xN_30, xN_31, xN_32, xN_33, xN_34, xN_35, xN_36, xN_37, xN_38, xN_39, xN_40, xN_41, xN_42, xN_43, xN_44, xN_45, xN_46, xN_47, xN_48, xN_49, xN_50, xN_51, xN_52, xN_53, xN_54, xN_55, ti_0, ti_1, ti_2, ti_3, ti_4, ti_5, ti_6, ti_7, ti_8, ti_9, ti_10, ti_16, ti_19, ti_20, ti_29, ti_30, ti_31, ti_32, ti_35, ti_36, ti_38, ti_39, ti_40, ti_41, ti_42, ti_43, ti_44, ti_45, ti_46, ti_47, ti_48, ti_49, ti_50, ti_51, ti_52, ti_53, ti_54, ti_55, ti_56, ti_57, ti_58, ti_59, ti_60, ti_61, ti_62, ti_63, ti_64, ti_65, ti_74, ti_77, ti_126, ti_200, ti_201, ti_202, ti_203, ti_204, ti_205, ti_210, ti_255, ti_256, ti_400, ti_512, ti_600, ti_601, ti_602, ti_1000, ti_1023, ti_1024, ti_2000, ti_10000, ti_12602, ti_999999, ti_m999999, ti_m1, ti_2000000, ti_3000000, xN_1, xN_4, xN_5, xN_60, xN_61, xN_64, xN_200, xN_800, xN_12000, xN_12602, eq_self, and_self, and_true, true_and, if_true, if_false, decide_true, Nat.reduceLeDiff, xc2_int, xc2_ref, xc2_ra, xc2_null, xc2_long, xc2_none, xisaT_ref, xisaT_ra, xisaT_null, xc1T_int, xc1T_ref, xc1T_ra, xc1T_null, xsum_nil, xsum_int, xsum_ref, xsum_ra, xsum_long, xsum_double, xsum_null, xfl_nil, xfl_int, xfl_ref, xfl_ra, xfl_null, xfl_long, xfl_double, List.length_cons, List.length_nil, s0, s8, s11, tp, hlt, hp0, b2, e4, t2, b3, b4, lcm_eq, hz, tl_0, not_true_eq_false, not_false_eq_true, xfk, xfv, xak, xan, xcls, xsv', List.getElem?_cons_zero, List.getElem?_cons_succ, List.getD_cons_zero, List.getD_cons_succ, Option.getD_some, Option.isSome_some, if_true, if_pos, xcont, Option.toList_none, Option.toList_some, List.nil_append, List.cons_append]
      · simp (config := { decide := true }) only [w_iconst (pc' := 51) q296 d296_50 rfl, w_icmp_ge (tg := 96) (pc' := 54) q296 d296_51 (by decide) rfl, w_iload4 (pc' := 56) q296 d296_54 rfl, w_if_ne (tg := 83) (pc' := 59) q296 d296_56 (by decide) rfl, w_aload_n0 (pc' := 60) q296 d296_59 rfl, w_getV (pc' := 63) q296 d296_60 rfl f296_31, w_iconst (pc' := 64) q296 d296_63 rfl, w_iload_n3 (pc' := 65) q296 d296_64 rfl, w_imul (pc' := 66) q296 d296_65 rfl, w_iload5 (pc' := 68) q296 d296_66 rfl, w_iadd (pc' := 69) q296 d296_68 rfl, w_laload (pc' := 70) q296 d296_69 rfl, w_aload_n0 (pc' := 71) q296 d296_70 rfl, w_getV (pc' := 74) q296 d296_71 rfl f296_41, w_iload5 (pc' := 76) q296 d296_74 rfl, w_laload (pc' := 77) q296 d296_76 rfl, w_land (pc' := 78) q296 d296_77 rfl, w_lconst0 (pc' := 79) q296 d296_78 rfl, w_lcmp (pc' := 80) q296 d296_79 rfl, w_if_eq (tg := 87) (pc' := 83) q296 d296_80 (by decide) rfl, w_iconst (pc' := 84) q296 d296_83 rfl, w_goto (tg := 88) q296 d296_84 (by decide), w_iconst (pc' := 88) q296 d296_87 rfl, w_istore4 (pc' := 90) q296 d296_88 rfl, w_iinc5 (z := (1)) (pc' := 93) q296 d296_90 rfl, w_goto (tg := 48) q296 d296_93 (by decide), gs_off, gs_off0, gs_0off, gs_2, xN_0, xN_2, xN_3, xN_6, xN_7, xN_8, xN_9, xN_10, xN_11, xN_12, xN_13, xN_14, xN_15, xN_16, xN_17, xN_18, xN_19, xN_20, xN_21, xN_22, xN_23, xN_24, xN_25, xN_26, xN_27, xN_28, xN_29, xN_30, xN_31, xN_32, xN_33, xN_34, xN_35, xN_36, xN_37, xN_38, xN_39, xN_40, xN_41, xN_42, xN_43, xN_44, xN_45, xN_46, xN_47, xN_48, xN_49, xN_50, xN_51, xN_52, xN_53, xN_54, xN_55, ti_0, ti_1, ti_2, ti_3, ti_4, ti_5, ti_6, ti_7, ti_8, ti_9, ti_10, ti_16, ti_19, ti_20, ti_29, ti_30, ti_31, ti_32, ti_35, ti_36, ti_38, ti_39, ti_40, ti_41, ti_42, ti_43, ti_44, ti_45, ti_46, ti_47, ti_48, ti_49, ti_50, ti_51, ti_52, ti_53, ti_54, ti_55, ti_56, ti_57, ti_58, ti_59, ti_60, ti_61, ti_62, ti_63, ti_64, ti_65, ti_74, ti_77, ti_126, ti_200, ti_201, ti_202, ti_203, ti_204, ti_205, ti_210, ti_255, ti_256, ti_400, ti_512, ti_600, ti_601, ti_602, ti_1000, ti_1023, ti_1024, ti_2000, ti_10000, ti_12602, ti_999999, ti_m999999, ti_m1, ti_2000000, ti_3000000, xN_1, xN_4, xN_5, xN_60, xN_61, xN_64, xN_200, xN_800, xN_12000, xN_12602, eq_self, and_self, and_true, true_and, if_true, if_false, decide_true, Nat.reduceLeDiff, xc2_int, xc2_ref, xc2_ra, xc2_null, xc2_long, xc2_none, xisaT_ref, xisaT_ra, xisaT_null, xc1T_int, xc1T_ref, xc1T_ra, xc1T_null, xsum_nil, xsum_int, xsum_ref, xsum_ra, xsum_long, xsum_double, xsum_null, xfl_nil, xfl_int, xfl_ref, xfl_ra, xfl_null, xfl_long, xfl_double, List.length_cons, List.length_nil, s0, s8, s11, tp, hlt, hp0, b2, not_true_eq_false, not_false_eq_true, xfk, xfv, xak, xan, xcls, xsv', List.getElem?_cons_zero, List.getElem?_cons_succ, List.getD_cons_zero, List.getD_cons_succ, Option.getD_some, Option.isSome_some, if_true, if_pos, xcont, Option.toList_none, Option.toList_some, List.nil_append, List.cons_append]
def cnR (g : xGm) (m : Nat) : Int := sumf (ind (rcb g m)) 0 200
/-- what a pass over the cells does -/
def ReP (E : Int → Int → Prop) (f : Int) (g0 g : xGm) (m : Nat) : Prop := (∀ h, ¬ h = m + 11 → g h = g0 h) ∧ (∀ o, 0 ≤ o → o < 256 → rcb g m o = true → Rc E f o) ∧ ∀ o, 200 ≤ o → o < 256 → rcb g m o = false
theorem cnR_put {m : Nat} {c : Int} (hc : 0 ≤ c) (hc2 : c < 200) (h : ¬ rcb g m c = true) : cnR (gB g (m + 11) 0 c) m = cnR g m + 1 := by
  unfold cnR
  have e : sumf (ind (rcb (gB g (m + 11) 0 c) m)) 0 200 = sumf (fun j => if j = c then 1 else ind (rcb g m) j) 0 200 := by
    refine sumf_congr 200 0 (fun j j1 j2 => ?_)
    unfold ind rcb
    rw [gB_bt hc (by omega) j1 (by omega)]
    by_cases e : j = c
    · subst e; simp
    · simp [e]
  have u := sumf_upd (f := ind (rcb g m)) (f' := fun j => if j = c then 1 else ind (rcb g m) j) (c := c) (z := 1) 200 0 hc (by omega) (fun j hj => if_neg hj) (if_pos rfl)
  have z : ind (rcb g m) c = 0 := by unfold ind; rw [if_neg h]
  rw [e, u, z]
  omega
theorem l_pass {m : Nat} {f : Int} {R : Int → Int → Prop} {g0 : xGm} (hS : MdS S m) (hf : 0 ≤ f ∧ f < 200) (hR : ∀ c o, 0 ≤ c → c < 200 → 0 ≤ o → o < 256 → (bt (g0 (m + 8)) c o = true ↔ R c o)) {E : Int → Int → Prop} (hE : ∀ b c, E b c ↔ (0 ≤ b ∧ b < 200 ∧ 0 ≤ c ∧ c < 200 ∧ R c b)) : ∀ (n : Nat) (c b : Int) (g : xGm) (y4 y5 : Option Value), c + n = 200 → 0 ≤ c → (b = 0 ∨ b = 1) → ReP E f g0 g m →
    ∃ g' b' y4' y5', ReP E f g0 g' m ∧ ((b' = 0 ∧ b = 0 ∧ g' = g ∧ ∀ q, c ≤ q → q < 200 → (R q f ∨ ∃ o, 0 ≤ o ∧ o < 256 ∧ R q o ∧ rcb g m o = true) → rcb g m q = true) ∨ (b' = 1 ∧ cnR g m + (1 - b) ≤ cnR g' m)) ∧
      ∀ Q, Wx X (d + 1) 296 30 [some (.ref m), some (.int (iI f)), some (.int (iI b)), some (.int (iI c)), y4, y5] [] (hp S g) Q = Wx X (d + 1) 296 22 [some (.ref m), some (.int (iI f)), some (.int (iI b')), some (.int (iI 200)), y4', y5'] [] (hp S g') Q := by
  have s0 := hS.1
  have s11 := MdS_11 hS
  intro n
  induction n with
  | zero =>
    intro c b g y4 y5 hn hc hb hP
    obtain rfl : c = 200 := by omega
    refine ⟨g, b, y4, y5, hP, ?_, fun Q => ?_⟩
    · rcases hb with rfl | rfl
      · exact .inl ⟨rfl, rfl, rfl, fun q _ _ => by omega⟩
      · exact .inr ⟨rfl, by omega⟩
    · rw [w_iload_n3 (pc' := 31) q296 d296_30 rfl]
      simp (config := { decide := true }) only [w_sipush (z' := (200)) (pc' := 34) q296 d296_31 rfl (by decide), w_icmp_ge (tg := 128) (pc' := 37) q296 d296_34 (by decide) rfl, w_goto (tg := 22) q296 d296_128 (by decide), gs_off, gs_off0, gs_0off, gs_2, xN_0, xN_2, xN_3, xN_6, xN_7, xN_8, xN_9, xN_10, xN_11, xN_12, xN_13, xN_14, xN_15, xN_16, xN_17, xN_18, xN_19, xN_20, xN_21, xN_22, xN_23, xN_24, xN_25, xN_26, xN_27, xN_28, xN_29, xN_30, xN_31, xN_32, xN_33, xN_34, xN_35, xN_36, xN_37, xN_38, xN_39, xN_40, xN_41, xN_42, xN_43, xN_44, xN_45, xN_46, xN_47, xN_48, xN_49, xN_50, xN_51, xN_52, xN_53, xN_54, xN_55, ti_0, ti_1, ti_2, ti_3, ti_4, ti_5, ti_6, ti_7, ti_8, ti_9, ti_10, ti_16, ti_19, ti_20, ti_29, ti_30, ti_31, ti_32, ti_35, ti_36, ti_38, ti_39, ti_40, ti_41, ti_42, ti_43, ti_44, ti_45, ti_46, ti_47, ti_48, ti_49, ti_50, ti_51, ti_52, ti_53, ti_54, ti_55, ti_56, ti_57, ti_58, ti_59, ti_60, ti_61, ti_62, ti_63, ti_64, ti_65, ti_74, ti_77, ti_126, ti_200, ti_201, ti_202, ti_203, ti_204, ti_205, ti_210, ti_255, ti_256, ti_400, ti_512, ti_600, ti_601, ti_602, ti_1000, ti_1023, ti_1024, ti_2000, ti_10000, ti_12602, ti_999999, ti_m999999, ti_m1, ti_2000000, ti_3000000, xN_1, xN_4, xN_5, xN_60, xN_61, xN_64, xN_200, xN_800, xN_12000, xN_12602, eq_self, and_self, and_true, true_and, if_true, if_false, decide_true, Nat.reduceLeDiff, xc2_int, xc2_ref, xc2_ra, xc2_null, xc2_long, xc2_none, xisaT_ref, xisaT_ra, xisaT_null, xc1T_int, xc1T_ref, xc1T_ra, xc1T_null, xsum_nil, xsum_int, xsum_ref, xsum_ra, xsum_long, xsum_double, xsum_null, xfl_nil, xfl_int, xfl_ref, xfl_ra, xfl_null, xfl_long, xfl_double, List.length_cons, List.length_nil, xfk, xfv, xak, xan, xcls, xsv', List.getElem?_cons_zero, List.getElem?_cons_succ, List.getD_cons_zero, List.getD_cons_succ, Option.getD_some, Option.isSome_some, if_true, if_pos, xcont, Option.toList_none, Option.toList_some, List.nil_append, List.cons_append]
  | succ n ih =>
    intro c b g y4 y5 hn hc hb hP
    have tc : ti c = c := ti_eq (by omega) (by omega)
    have hlt : ¬ 200 ≤ c := by omega
    have hc2 : c < 200 := by omega
    obtain ⟨q1, q2, q3⟩ := id hP
    have e8 : g (m + 8) = g0 (m + 8) := q1 _ (by omega)
    have hrf := fun Q => m_doesRefer (X := X) (d := d) (g := g) (c := c) (o := f) (Q := Q) hS hc hc2 hf.1 hf.2
    obtain ⟨z0, ez0⟩ : ∃ z0 : Int, (if bt (g (m + 8)) c f = true then 1 else 0) = z0 := ⟨_, rfl⟩
    have hz0 : (z0 = 0 ∨ z0 = 1) ∧ (z0 = 1 ↔ R c f) := by
      rw [← hR c f hc hc2 hf.1 (by omega), ← e8, ← ez0]
      split
      · next h => exact ⟨.inr rfl, fun _ => h, fun _ => rfl⟩
      · next h => exact ⟨.inl rfl, fun e => absurd e (by decide), fun e => absurd e h⟩
    rw [ez0] at hrf
    obtain ⟨z, z1, z2, z3⟩ := l_hits (X := X) (d := d + 1) (g := g) (f := f) (y2 := b) hS hc hc2 4 0 z0 (by decide) (by decide) hz0.1
    have hz : z = 1 ↔ R c f ∨ ∃ o, 0 ≤ o ∧ o < 256 ∧ R c o ∧ rcb g m o = true := by
      rw [z2, hz0.2]
      constructor
      · rintro (h | ⟨o, o1, o2, o3, o4⟩)
        · exact .inl h
        · exact .inr ⟨o, by omega, o2, (hR c o hc hc2 (by omega) o2).mp (by rw [← e8]; exact o3), o4⟩
      · rintro (h | ⟨o, o1, o2, o3, o4⟩)
        · exact .inl h
        · exact .inr ⟨o, by omega, o2, by rw [e8]; exact (hR c o hc hc2 (by omega) o2).mpr o3, o4⟩
    have head : ∀ Q, Wx X (d + 1) 296 30 [some (.ref m), some (.int (iI f)), some (.int (iI b)), some (.int (iI c)), y4, y5] [] (hp S g) Q = Wx X (d + 1) 296 96 [some (.ref m), some (.int (iI f)), some (.int (iI b)), some (.int (iI c)), some (.int (iI z)), some (.int (iI 4))] [] (hp S g) Q := fun Q => by
      rw [← z3 Q, w_iload_n3 (pc' := 31) q296 d296_30 rfl]
      simp (config := { decide := true }) only [w_sipush (z' := (200)) (pc' := 34) q296 d296_31 rfl (by decide), w_icmp_ge (tg := 128) (pc' := 37) q296 d296_34 (by decide) rfl, w_aload_n0 (pc' := 38) q296 d296_37 rfl, w_iload_n3 (pc' := 39) q296 d296_38 rfl, w_iload_n1 (pc' := 40) q296 d296_39 rfl, w_invv2 (ci := 11) (pc' := 43) q296 d296_40 rfl n296_234 k296_234_11 m275.1, w_istore4 (pc' := 45) q296 d296_43 rfl, w_iconst (pc' := 46) q296 d296_45 rfl, w_istore5 (pc' := 48) q296 d296_46 rfl, gs_off, gs_off0, gs_0off, gs_2, xN_0, xN_2, xN_3, xN_6, xN_7, xN_8, xN_9, xN_10, xN_11, xN_12, xN_13, xN_14, xN_15, xN_16, xN_17, xN_18, xN_19, xN_20, xN_21, xN_22, xN_23, xN_24, xN_25, xN_26, xN_27, xN_28, xN_29, xN_30, xN_31, xN_32, xN_33, xN_34, xN_35, xN_36, xN_37, xN_38, xN_39, xN_40, xN_41, xN_42, xN_43, xN_44, xN_45, xN_46, xN_47, xN_48, xN_49, xN_50, xN_51, xN_52, xN_53, xN_54, xN_55, ti_0, ti_1, ti_2, ti_3, ti_4, ti_5, ti_6, ti_7, ti_8, ti_9, ti_10, ti_16, ti_19, ti_20, ti_29, ti_30, ti_31, ti_32, ti_35, ti_36, ti_38, ti_39, ti_40, ti_41, ti_42, ti_43, ti_44, ti_45, ti_46, ti_47, ti_48, ti_49, ti_50, ti_51, ti_52, ti_53, ti_54, ti_55, ti_56, ti_57, ti_58, ti_59, ti_60, ti_61, ti_62, ti_63, ti_64, ti_65, ti_74, ti_77, ti_126, ti_200, ti_201, ti_202, ti_203, ti_204, ti_205, ti_210, ti_255, ti_256, ti_400, ti_512, ti_600, ti_601, ti_602, ti_1000, ti_1023, ti_1024, ti_2000, ti_10000, ti_12602, ti_999999, ti_m999999, ti_m1, ti_2000000, ti_3000000, xN_1, xN_4, xN_5, xN_60, xN_61, xN_64, xN_200, xN_800, xN_12000, xN_12602, eq_self, and_self, and_true, true_and, if_true, if_false, decide_true, Nat.reduceLeDiff, xc2_int, xc2_ref, xc2_ra, xc2_null, xc2_long, xc2_none, xisaT_ref, xisaT_ra, xisaT_null, xc1T_int, xc1T_ref, xc1T_ra, xc1T_null, xsum_nil, xsum_int, xsum_ref, xsum_ra, xsum_long, xsum_double, xsum_null, xfl_nil, xfl_int, xfl_ref, xfl_ra, xfl_null, xfl_long, xfl_double, List.length_cons, List.length_nil, s0, tc, hlt, hrf, xfk, xfv, xak, xan, xcls, xsv', List.getElem?_cons_zero, List.getElem?_cons_succ, List.getD_cons_zero, List.getD_cons_succ, Option.getD_some, Option.isSome_some, if_true, if_pos, xcont, Option.toList_none, Option.toList_some, List.nil_append, List.cons_append]
    have hha := fun Q => m_has (X := X) (d := d) (g := g) (o := c) (Q := Q) s11 hc hc2
    by_cases hgo : z = 1 ∧ ¬ rcb g m c = true
    · obtain ⟨rfl, hno⟩ := hgo
      have hno' := hno
      unfold rcb at hno'
      rw [if_neg hno'] at hha
      have hpu := fun Q => m_puts (X := X) (d := d) (g := g) (o := c) (Q := Q) s11 hc hc2
      have hbt : ∀ o, 0 ≤ o → o < 256 → rcb (gB g (m + 11) 0 c) m o = (rcb g m o || decide ((0 : Int) = 0 ∧ o = c)) := fun o o1 o2 => gB_bt hc (by omega) o1 o2
      have hP1 : ReP E f g0 (gB g (m + 11) 0 c) m := by
        refine ⟨fun h hh => (gB_row hh).trans (q1 h hh), fun o o1 o2 ho => ?_, fun o o1 o2 => ?_⟩
        · rw [hbt o o1 o2, Bool.or_eq_true, decide_eq_true_eq] at ho
          rcases ho with ho | ⟨-, rfl⟩
          · exact q2 o o1 o2 ho
          · rcases hz.mp rfl with h | ⟨o', k1, k2, k3, k4⟩
            · exact Rc_one ((hE _ _).mpr ⟨hf.1, hf.2, hc, hc2, h⟩)
            · have : o' < 200 := by
                by_cases h : o' < 200
                · exact h
                · have := q3 o' (by omega) k2; rw [k4] at this; cases this
              exact Rc_step (q2 o' k1 k2 k4) ((hE _ _).mpr ⟨k1, this, hc, hc2, k3⟩)
        · rw [hbt o (by omega) o2, q3 o o1 o2]
          simp only [Bool.false_or, decide_eq_false_iff_not]
          omega
      obtain ⟨g', b', y4', y5', k1, k2, k3⟩ := ih (c + 1) 1 (gB g (m + 11) 0 c) (some (.int (iI 1))) (some (.int (iI 4))) (by omega) (by omega) (.inr rfl) hP1
      refine ⟨g', b', y4', y5', k1, ?_, fun Q => (head Q).trans ?_⟩
      · rcases k2 with ⟨-, h, -⟩ | ⟨h, h2⟩
        · exact absurd h (by decide)
        · refine .inr ⟨h, ?_⟩
          rw [cnR_put hc hc2 hno] at h2
          omega
      · rw [← k3 Q]
        simp (config := { decide := true }) only [w_iload4 (pc' := 98) q296 d296_96 rfl, w_if_eq (tg := 122) (pc' := 101) q296 d296_98 (by decide) rfl, w_aload_n0 (pc' := 102) q296 d296_101 rfl, w_getV (pc' := 105) q296 d296_102 rfl f296_41, w_iload_n3 (pc' := 106) q296 d296_105 rfl, w_invs2 (pc' := 109) q296 d296_106 rfl (by decide +kernel) k296_257_99 m297.1, w_if_ne (tg := 122) (pc' := 112) q296 d296_109 (by decide) rfl, w_aload_n0 (pc' := 113) q296 d296_112 rfl, w_getV (pc' := 116) q296 d296_113 rfl f296_41, w_iload_n3 (pc' := 117) q296 d296_116 rfl, w_invs2 (pc' := 120) q296 d296_117 rfl (by decide +kernel) k296_243_99 m229.1, w_iconst (pc' := 121) q296 d296_120 rfl, w_istore_n2 (pc' := 122) q296 d296_121 rfl, w_iinc3 (z := (1)) (pc' := 125) q296 d296_122 rfl, w_goto (tg := 30) q296 d296_125 (by decide), gs_off, gs_off0, gs_0off, gs_2, xN_0, xN_2, xN_3, xN_6, xN_7, xN_8, xN_9, xN_10, xN_11, xN_12, xN_13, xN_14, xN_15, xN_16, xN_17, xN_18, xN_19, xN_20, xN_21, xN_22, xN_23, xN_24, xN_25, xN_26, xN_27, xN_28, xN_29, xN_30, xN_31, xN_32, xN_33, xN_34, xN_35, xN_36, xN_37, xN_38, xN_39, xN_40, xN_41, xN_42, xN_43, xN_44, xN_45, xN_46, xN_47, xN_48, xN_49, xN_50, xN_51, xN_52, xN_53, xN_54, xN_55, ti_0, ti_1, ti_2, ti_3, ti_4, ti_5, ti_6, ti_7, ti_8, ti_9, ti_10, ti_16, ti_19, ti_20, ti_29, ti_30, ti_31, ti_32, ti_35, ti_36, ti_38, ti_39, ti_40, ti_41, ti_42, ti_43, ti_44, ti_45, ti_46, ti_47, ti_48, ti_49, ti_50, ti_51, ti_52, ti_53, ti_54, ti_55, ti_56, ti_57, ti_58, ti_59, ti_60, ti_61, ti_62, ti_63, ti_64, ti_65, ti_74, ti_77, ti_126, ti_200, ti_201, ti_202, ti_203, ti_204, ti_205, ti_210, ti_255, ti_256, ti_400, ti_512, ti_600, ti_601, ti_602, ti_1000, ti_1023, ti_1024, ti_2000, ti_10000, ti_12602, ti_999999, ti_m999999, ti_m1, ti_2000000, ti_3000000, xN_1, xN_4, xN_5, xN_60, xN_61, xN_64, xN_200, xN_800, xN_12000, xN_12602, eq_self, and_self, and_true, true_and, if_true, if_false, decide_true, Nat.reduceLeDiff, xc2_int, xc2_ref, xc2_ra, xc2_null, xc2_long, xc2_none, xisaT_ref, xisaT_ra, xisaT_null, xc1T_int, xc1T_ref, xc1T_ra, xc1T_null, xsum_nil, xsum_int, xsum_ref, xsum_ra, xsum_long, xsum_double, xsum_null, xfl_nil, xfl_int, xfl_ref, xfl_ra, xfl_null, xfl_long, xfl_double, List.length_cons, List.length_nil, s0, hha, hpu, not_false_eq_true, xfk, xfv, xak, xan, xcls, xsv', List.getElem?_cons_zero, List.getElem?_cons_succ, List.getD_cons_zero, List.getD_cons_succ, Option.getD_some, Option.isSome_some, if_true, if_pos, xcont, Option.toList_none, Option.toList_some, List.nil_append, List.cons_append]
    · obtain ⟨g', b', y4', y5', k1, k2, k3⟩ := ih (c + 1) b g (some (.int (iI z))) (some (.int (iI 4))) (by omega) (by omega) hb hP
      refine ⟨g', b', y4', y5', k1, ?_, fun Q => (head Q).trans ?_⟩
      · rcases k2 with ⟨h1, h2, h3, h4⟩ | h
        · refine .inl ⟨h1, h2, h3, fun q q1' q2' hq => ?_⟩
          by_cases e : q = c
          · subst e
            exact Classical.byContradiction fun hn' => hgo ⟨hz.mpr hq, hn'⟩
          · exact h4 q (by omega) q2' hq
        · exact .inr h
      · rw [← k3 Q]
        rcases z1 with rfl | rfl
        · simp (config := { decide := true }) only [w_iload4 (pc' := 98) q296 d296_96 rfl, w_if_eq (tg := 122) (pc' := 101) q296 d296_98 (by decide) rfl, w_aload_n0 (pc' := 102) q296 d296_101 rfl, w_getV (pc' := 105) q296 d296_102 rfl f296_41, w_iload_n3 (pc' := 106) q296 d296_105 rfl, w_invs2 (pc' := 109) q296 d296_106 rfl (by decide +kernel) k296_257_99 m297.1, w_if_ne (tg := 122) (pc' := 112) q296 d296_109 (by decide) rfl, w_aload_n0 (pc' := 113) q296 d296_112 rfl, w_getV (pc' := 116) q296 d296_113 rfl f296_41, w_iload_n3 (pc' := 117) q296 d296_116 rfl, w_invs2 (pc' := 120) q296 d296_117 rfl (by decide +kernel) k296_243_99 m229.1, w_iconst (pc' := 121) q296 d296_120 rfl, w_istore_n2 (pc' := 122) q296 d296_121 rfl, w_iinc3 (z := (1)) (pc' := 125) q296 d296_122 rfl, w_goto (tg := 30) q296 d296_125 (by decide), gs_off, gs_off0, gs_0off, gs_2, xN_0, xN_2, xN_3, xN_6, xN_7, xN_8, xN_9, xN_10, xN_11, xN_12, xN_13, xN_14, xN_15, xN_16, xN_17, xN_18, xN_19, xN_20, xN_21, xN_22, xN_23, xN_24, xN_25, xN_26, xN_27, xN_28, xN_29, xN_30, xN_31, xN_32, xN_33, xN_34, xN_35, xN_36, xN_37, xN_38, xN_39, xN_40, xN_41, xN_42, xN_43, xN_44, xN_45, xN_46, xN_47, xN_48, xN_49, xN_50, xN_51, xN_52, xN_53, xN_54, xN_55, ti_0, ti_1, ti_2, ti_3, ti_4, ti_5, ti_6, ti_7, ti_8, ti_9, ti_10, ti_16, ti_19, ti_20, ti_29, ti_30, ti_31, ti_32, ti_35, ti_36, ti_38, ti_39, ti_40, ti_41, ti_42, ti_43, ti_44, ti_45, ti_46, ti_47, ti_48, ti_49, ti_50, ti_51, ti_52, ti_53, ti_54, ti_55, ti_56, ti_57, ti_58, ti_59, ti_60, ti_61, ti_62, ti_63, ti_64, ti_65, ti_74, ti_77, ti_126, ti_200, ti_201, ti_202, ti_203, ti_204, ti_205, ti_210, ti_255, ti_256, ti_400, ti_512, ti_600, ti_601, ti_602, ti_1000, ti_1023, ti_1024, ti_2000, ti_10000, ti_12602, ti_999999, ti_m999999, ti_m1, ti_2000000, ti_3000000, xN_1, xN_4, xN_5, xN_60, xN_61, xN_64, xN_200, xN_800, xN_12000, xN_12602, eq_self, and_self, and_true, true_and, if_true, if_false, decide_true, Nat.reduceLeDiff, xc2_int, xc2_ref, xc2_ra, xc2_null, xc2_long, xc2_none, xisaT_ref, xisaT_ra, xisaT_null, xc1T_int, xc1T_ref, xc1T_ra, xc1T_null, xsum_nil, xsum_int, xsum_ref, xsum_ra, xsum_long, xsum_double, xsum_null, xfl_nil, xfl_int, xfl_ref, xfl_ra, xfl_null, xfl_long, xfl_double, List.length_cons, List.length_nil, xfk, xfv, xak, xan, xcls, xsv', List.getElem?_cons_zero, List.getElem?_cons_succ, List.getD_cons_zero, List.getD_cons_succ, Option.getD_some, Option.isSome_some, if_true, if_pos, xcont, Option.toList_none, Option.toList_some, List.nil_append, List.cons_append]
        · have hy : rcb g m c = true := Classical.byContradiction fun hn' => hgo ⟨rfl, hn'⟩
          unfold rcb at hy
          rw [if_pos hy] at hha
          simp (config := { decide := true }) only [w_iload4 (pc' := 98) q296 d296_96 rfl, w_if_eq (tg := 122) (pc' := 101) q296 d296_98 (by decide) rfl, w_aload_n0 (pc' := 102) q296 d296_101 rfl, w_getV (pc' := 105) q296 d296_102 rfl f296_41, w_iload_n3 (pc' := 106) q296 d296_105 rfl, w_invs2 (pc' := 109) q296 d296_106 rfl (by decide +kernel) k296_257_99 m297.1, w_if_ne (tg := 122) (pc' := 112) q296 d296_109 (by decide) rfl, w_aload_n0 (pc' := 113) q296 d296_112 rfl, w_getV (pc' := 116) q296 d296_113 rfl f296_41, w_iload_n3 (pc' := 117) q296 d296_116 rfl, w_invs2 (pc' := 120) q296 d296_117 rfl (by decide +kernel) k296_243_99 m229.1, w_iconst (pc' := 121) q296 d296_120 rfl, w_istore_n2 (pc' := 122) q296 d296_121 rfl, w_iinc3 (z := (1)) (pc' := 125) q296 d296_122 rfl, w_goto (tg := 30) q296 d296_125 (by decide), gs_off, gs_off0, gs_0off, gs_2, xN_0, xN_2, xN_3, xN_6, xN_7, xN_8, xN_9, xN_10, xN_11, xN_12, xN_13, xN_14, xN_15, xN_16, xN_17, xN_18, xN_19, xN_20, xN_21, xN_22, xN_23, xN_24, xN_25, xN_26, xN_27, xN_28, xN_29, xN_30, xN_31, xN_32, xN_33, xN_34, xN_35, xN_36, xN_37, xN_38, xN_39, xN_40, xN_41, xN_42, xN_43, xN_44, xN_45, xN_46, xN_47, xN_48, xN_49, xN_50, xN_51, xN_52, xN_53, xN_54, xN_55, ti_0, ti_1, ti_2, ti_3, ti_4, ti_5, ti_6, ti_7, ti_8, ti_9, ti_10, ti_16, ti_19, ti_20, ti_29, ti_30, ti_31, ti_32, ti_35, ti_36, ti_38, ti_39, ti_40, ti_41, ti_42, ti_43, ti_44, ti_45, ti_46, ti_47, ti_48, ti_49, ti_50, ti_51, ti_52, ti_53, ti_54, ti_55, ti_56, ti_57, ti_58, ti_59, ti_60, ti_61, ti_62, ti_63, ti_64, ti_65, ti_74, ti_77, ti_126, ti_200, ti_201, ti_202, ti_203, ti_204, ti_205, ti_210, ti_255, ti_256, ti_400, ti_512, ti_600, ti_601, ti_602, ti_1000, ti_1023, ti_1024, ti_2000, ti_10000, ti_12602, ti_999999, ti_m999999, ti_m1, ti_2000000, ti_3000000, xN_1, xN_4, xN_5, xN_60, xN_61, xN_64, xN_200, xN_800, xN_12000, xN_12602, eq_self, and_self, and_true, true_and, if_true, if_false, decide_true, Nat.reduceLeDiff, xc2_int, xc2_ref, xc2_ra, xc2_null, xc2_long, xc2_none, xisaT_ref, xisaT_ra, xisaT_null, xc1T_int, xc1T_ref, xc1T_ra, xc1T_null, xsum_nil, xsum_int, xsum_ref, xsum_ra, xsum_long, xsum_double, xsum_null, xfl_nil, xfl_int, xfl_ref, xfl_ra, xfl_null, xfl_long, xfl_double, List.length_cons, List.length_nil, s0, hha, not_true_eq_false, xfk, xfv, xak, xan, xcls, xsv', List.getElem?_cons_zero, List.getElem?_cons_succ, List.getD_cons_zero, List.getD_cons_succ, Option.getD_some, Option.isSome_some, if_true, if_pos, xcont, Option.toList_none, Option.toList_some, List.nil_append, List.cons_append]
theorem l_rounds {m : Nat} {f : Int} {R : Int → Int → Prop} {g0 : xGm} (hS : MdS S m) (hf : 0 ≤ f ∧ f < 200) (hR : ∀ c o, 0 ≤ c → c < 200 → 0 ≤ o → o < 256 → (bt (g0 (m + 8)) c o = true ↔ R c o)) {E : Int → Int → Prop} (hE : ∀ b c, E b c ↔ (0 ≤ b ∧ b < 200 ∧ 0 ≤ c ∧ c < 200 ∧ R c b)) : ∀ (n : Nat) (g : xGm) (y3 y4 y5 : Option Value), 201 ≤ cnR g m + n → ReP E f g0 g m →
    ∃ g', ReP E f g0 g' m ∧ (∀ q, 0 ≤ q → q < 200 → (R q f ∨ ∃ o, 0 ≤ o ∧ o < 256 ∧ R q o ∧ rcb g' m o = true) → rcb g' m q = true) ∧
      ∀ Q, Wx X (d + 1) 296 22 [some (.ref m), some (.int (iI f)), some (.int (iI 1)), y3, y4, y5] [] (hp S g) Q = Q (.inl none) (hp S g') := by
  intro n
  induction n with
  | zero =>
    intro g y3 y4 y5 hn hP
    have := (ind_rng (rcb g m) 200 0).2
    unfold cnR at hn
    omega
  | succ n ih =>
    intro g y3 y4 y5 hn hP
    obtain ⟨g1, b1, y4', y5', k1, k2, k3⟩ := l_pass (X := X) (d := d) hS hf hR hE 200 0 0 g y4 y5 (by decide) (by decide) (.inl rfl) hP
    have head : ∀ Q, Wx X (d + 1) 296 22 [some (.ref m), some (.int (iI f)), some (.int (iI 1)), y3, y4, y5] [] (hp S g) Q = Wx X (d + 1) 296 22 [some (.ref m), some (.int (iI f)), some (.int (iI b1)), some (.int (iI 200)), y4', y5'] [] (hp S g1) Q := fun Q => by
      rw [← k3 Q, w_iload_n2 (pc' := 23) q296 d296_22 rfl]
      simp (config := { decide := true }) only [w_if_eq (tg := 131) (pc' := 26) q296 d296_23 (by decide) rfl, w_iconst (pc' := 27) q296 d296_26 rfl, w_istore_n2 (pc' := 28) q296 d296_27 rfl, w_iconst (pc' := 29) q296 d296_28 rfl, w_istore_n3 (pc' := 30) q296 d296_29 rfl, gs_off, gs_off0, gs_0off, gs_2, xN_0, xN_2, xN_3, xN_6, xN_7, xN_8, xN_9, xN_10, xN_11, xN_12, xN_13, xN_14, xN_15, xN_16, xN_17, xN_18, xN_19, xN_20, xN_21, xN_22, xN_23, xN_24, xN_25, xN_26, xN_27, xN_28, xN_29, xN_30, xN_31, xN_32, xN_33, xN_34, xN_35, xN_36, xN_37, xN_38, xN_39, xN_40, xN_41, xN_42, xN_43, xN_44, xN_45, xN_46, xN_47, xN_48, xN_49, xN_50, xN_51, xN_52, xN_53, xN_54, xN_55, ti_0, ti_1, ti_2, ti_3, ti_4, ti_5, ti_6, ti_7, ti_8, ti_9, ti_10, ti_16, ti_19, ti_20, ti_29, ti_30, ti_31, ti_32, ti_35, ti_36, ti_38, ti_39, ti_40, ti_41, ti_42, ti_43, ti_44, ti_45, ti_46, ti_47, ti_48, ti_49, ti_50, ti_51, ti_52, ti_53, ti_54, ti_55, ti_56, ti_57, ti_58, ti_59, ti_60, ti_61, ti_62, ti_63, ti_64, ti_65, ti_74, ti_77, ti_126, ti_200, ti_201, ti_202, ti_203, ti_204, ti_205, ti_210, ti_255, ti_256, ti_400, ti_512, ti_600, ti_601, ti_602, ti_1000, ti_1023, ti_1024, ti_2000, ti_10000, ti_12602, ti_999999, ti_m999999, ti_m1, ti_2000000, ti_3000000, xN_1, xN_4, xN_5, xN_60, xN_61, xN_64, xN_200, xN_800, xN_12000, xN_12602, eq_self, and_self, and_true, true_and, if_true, if_false, decide_true, Nat.reduceLeDiff, xc2_int, xc2_ref, xc2_ra, xc2_null, xc2_long, xc2_none, xisaT_ref, xisaT_ra, xisaT_null, xc1T_int, xc1T_ref, xc1T_ra, xc1T_null, xsum_nil, xsum_int, xsum_ref, xsum_ra, xsum_long, xsum_double, xsum_null, xfl_nil, xfl_int, xfl_ref, xfl_ra, xfl_null, xfl_long, xfl_double, List.length_cons, List.length_nil, xfk, xfv, xak, xan, xcls, xsv', List.getElem?_cons_zero, List.getElem?_cons_succ, List.getD_cons_zero, List.getD_cons_succ, Option.getD_some, Option.isSome_some, if_true, if_pos, xcont, Option.toList_none, Option.toList_some, List.nil_append, List.cons_append]
    rcases k2 with ⟨rfl, -, rfl, h⟩ | ⟨rfl, h⟩
    · refine ⟨g1, k1, fun q q1 q2 hq => h q q1 q2 hq, fun Q => (head Q).trans ?_⟩
      rw [w_iload_n2 (pc' := 23) q296 d296_22 rfl]
      simp (config := { decide := true }) only [w_if_eq (tg := 131) (pc' := 26) q296 d296_23 (by decide) rfl, w_return q296 d296_131 m296.2.1, gs_off, gs_off0, gs_0off, gs_2, xN_0, xN_2, xN_3, xN_6, xN_7, xN_8, xN_9, xN_10, xN_11, xN_12, xN_13, xN_14, xN_15, xN_16, xN_17, xN_18, xN_19, xN_20, xN_21, xN_22, xN_23, xN_24, xN_25, xN_26, xN_27, xN_28, xN_29, xN_30, xN_31, xN_32, xN_33, xN_34, xN_35, xN_36, xN_37, xN_38, xN_39, xN_40, xN_41, xN_42, xN_43, xN_44, xN_45, xN_46, xN_47, xN_48, xN_49, xN_50, xN_51, xN_52, xN_53, xN_54, xN_55, ti_0, ti_1, ti_2, ti_3, ti_4, ti_5, ti_6, ti_7, ti_8, ti_9, ti_10, ti_16, ti_19, ti_20, ti_29, ti_30, ti_31, ti_32, ti_35, ti_36, ti_38, ti_39, ti_40, ti_41, ti_42, ti_43, ti_44, ti_45, ti_46, ti_47, ti_48, ti_49, ti_50, ti_51, ti_52, ti_53, ti_54, ti_55, ti_56, ti_57, ti_58, ti_59, ti_60, ti_61, ti_62, ti_63, ti_64, ti_65, ti_74, ti_77, ti_126, ti_200, ti_201, ti_202, ti_203, ti_204, ti_205, ti_210, ti_255, ti_256, ti_400, ti_512, ti_600, ti_601, ti_602, ti_1000, ti_1023, ti_1024, ti_2000, ti_10000, ti_12602, ti_999999, ti_m999999, ti_m1, ti_2000000, ti_3000000, xN_1, xN_4, xN_5, xN_60, xN_61, xN_64, xN_200, xN_800, xN_12000, xN_12602, eq_self, and_self, and_true, true_and, if_true, if_false, decide_true, Nat.reduceLeDiff, xc2_int, xc2_ref, xc2_ra, xc2_null, xc2_long, xc2_none, xisaT_ref, xisaT_ra, xisaT_null, xc1T_int, xc1T_ref, xc1T_ra, xc1T_null, xsum_nil, xsum_int, xsum_ref, xsum_ra, xsum_long, xsum_double, xsum_null, xfl_nil, xfl_int, xfl_ref, xfl_ra, xfl_null, xfl_long, xfl_double, List.length_cons, List.length_nil, xfk, xfv, xak, xan, xcls, xsv', List.getElem?_cons_zero, List.getElem?_cons_succ, List.getD_cons_zero, List.getD_cons_succ, Option.getD_some, Option.isSome_some, if_true, if_pos, xcont, Option.toList_none, Option.toList_some, List.nil_append, List.cons_append]
    · obtain ⟨g', j1, j2, j3⟩ := ih g1 (some (.int (iI 200))) y4' y5' (by omega) k1
      exact ⟨g', j1, j2, fun Q => (head Q).trans (j3 Q)⟩
theorem l_rclear {m : Nat} {f : Int} (hS : MdS S m) : ∀ (n : Nat) (p : Int) (g : xGm), p + n = 4 → 0 ≤ p →
    ∃ g', (∀ h, ¬ h = m + 11 → g' h = g h) ∧ (∀ j, p ≤ j → j < 4 → g' (m + 11) j = 0) ∧ (∀ j, j < p → g' (m + 11) j = g (m + 11) j) ∧ ∀ Q, Wx X d 296 2 [some (.ref m), some (.int (iI f)), some (.int (iI p)), none, none, none] [] (hp S g) Q = Wx X d 296 22 [some (.ref m), some (.int (iI f)), some (.int (iI 1)), none, none, none] [] (hp S g') Q := by
  have s0 := hS.1
  have s11 := MdS_11 hS
  intro n
  induction n with
  | zero =>
    intro p g hn hp0
    obtain rfl : p = 4 := by omega
    refine ⟨g, fun _ _ => rfl, fun j h1 h2 => by omega, fun _ _ => rfl, fun Q => ?_⟩
    rw [w_iload_n2 (pc' := 3) q296 d296_2 rfl]
    simp (config := { decide := true }) only [w_iconst (pc' := 4) q296 d296_3 rfl, w_icmp_ge (tg := 20) (pc' := 7) q296 d296_4 (by decide) rfl, w_iconst (pc' := 21) q296 d296_20 rfl, w_istore_n2 (pc' := 22) q296 d296_21 rfl, gs_off, gs_off0, gs_0off, gs_2, xN_0, xN_2, xN_3, xN_6, xN_7, xN_8, xN_9, xN_10, xN_11, xN_12, xN_13, xN_14, xN_15, xN_16, xN_17, xN_18, xN_19, xN_20, xN_21, xN_22, xN_23, xN_24, xN_25, xN_26, xN_27, xN_28, xN_29, xN_30, xN_31, xN_32, xN_33, xN_34, xN_35, xN_36, xN_37, xN_38, xN_39, xN_40, xN_41, xN_42, xN_43, xN_44, xN_45, xN_46, xN_47, xN_48, xN_49, xN_50, xN_51, xN_52, xN_53, xN_54, xN_55, ti_0, ti_1, ti_2, ti_3, ti_4, ti_5, ti_6, ti_7, ti_8, ti_9, ti_10, ti_16, ti_19, ti_20, ti_29, ti_30, ti_31, ti_32, ti_35, ti_36, ti_38, ti_39, ti_40, ti_41, ti_42, ti_43, ti_44, ti_45, ti_46, ti_47, ti_48, ti_49, ti_50, ti_51, ti_52, ti_53, ti_54, ti_55, ti_56, ti_57, ti_58, ti_59, ti_60, ti_61, ti_62, ti_63, ti_64, ti_65, ti_74, ti_77, ti_126, ti_200, ti_201, ti_202, ti_203, ti_204, ti_205, ti_210, ti_255, ti_256, ti_400, ti_512, ti_600, ti_601, ti_602, ti_1000, ti_1023, ti_1024, ti_2000, ti_10000, ti_12602, ti_999999, ti_m999999, ti_m1, ti_2000000, ti_3000000, xN_1, xN_4, xN_5, xN_60, xN_61, xN_64, xN_200, xN_800, xN_12000, xN_12602, eq_self, and_self, and_true, true_and, if_true, if_false, decide_true, Nat.reduceLeDiff, xc2_int, xc2_ref, xc2_ra, xc2_null, xc2_long, xc2_none, xisaT_ref, xisaT_ra, xisaT_null, xc1T_int, xc1T_ref, xc1T_ra, xc1T_null, xsum_nil, xsum_int, xsum_ref, xsum_ra, xsum_long, xsum_double, xsum_null, xfl_nil, xfl_int, xfl_ref, xfl_ra, xfl_null, xfl_long, xfl_double, List.length_cons, List.length_nil, xfk, xfv, xak, xan, xcls, xsv', List.getElem?_cons_zero, List.getElem?_cons_succ, List.getD_cons_zero, List.getD_cons_succ, Option.getD_some, Option.isSome_some, if_true, if_pos, xcont, Option.toList_none, Option.toList_some, List.nil_append, List.cons_append]
  | succ n ih =>
    intro p g hn hp0
    have tp : ti p = p := ti_eq (by omega) (by omega)
    have hlt : ¬ 4 ≤ p := by omega
    have b2 : p < 4 := by omega
    obtain ⟨g', h1, h2, h3, h4⟩ := ih (p + 1) (gs g (m + 11) p 0) (by omega) (by omega)
    refine ⟨g', fun h a => ?_, fun j j1 j2 => ?_, fun j j1 => ?_, fun Q => ?_⟩
    · rw [h1 h a, gs_row _ _ _ a]
    · by_cases e : j = p
      · subst e
        rw [h3 j (by omega), gs_at, if_pos rfl]
      · exact h2 j (by omega) j2
    · rw [h3 j (by omega), gs_at, if_neg (by omega)]
    · rw [← h4 Q, w_iload_n2 (pc' := 3) q296 d296_2 rfl]
      simp (config := { decide := true }) only [w_iconst (pc' := 4) q296 d296_3 rfl, w_icmp_ge (tg := 20) (pc' := 7) q296 d296_4 (by decide) rfl, w_aload_n0 (pc' := 8) q296 d296_7 rfl, w_getV (pc' := 11) q296 d296_8 rfl f296_41, w_iload_n2 (pc' := 12) q296 d296_11 rfl, w_lconst0 (pc' := 13) q296 d296_12 rfl, w_lastore (pc' := 14) q296 d296_13 rfl, w_iinc2 (z := (1)) (pc' := 17) q296 d296_14 rfl, w_goto (tg := 2) q296 d296_17 (by decide), gs_off, gs_off0, gs_0off, gs_2, xN_0, xN_2, xN_3, xN_6, xN_7, xN_8, xN_9, xN_10, xN_11, xN_12, xN_13, xN_14, xN_15, xN_16, xN_17, xN_18, xN_19, xN_20, xN_21, xN_22, xN_23, xN_24, xN_25, xN_26, xN_27, xN_28, xN_29, xN_30, xN_31, xN_32, xN_33, xN_34, xN_35, xN_36, xN_37, xN_38, xN_39, xN_40, xN_41, xN_42, xN_43, xN_44, xN_45, xN_46, xN_47, xN_48, xN_49, xN_50, xN_51, xN_52, xN_53, xN_54, xN_55, ti_0, ti_1, ti_2, ti_3, ti_4, ti_5, ti_6, ti_7, ti_8, ti_9, ti_10, ti_16, ti_19, ti_20, ti_29, ti_30, ti_31, ti_32, ti_35, ti_36, ti_38, ti_39, ti_40, ti_41, ti_42, ti_43, ti_44, ti_45, ti_46, ti_47, ti_48, ti_49, ti_50, ti_51, ti_52, ti_53, ti_54, ti_55, ti_56, ti_57, ti_58, ti_59, ti_60, ti_61, ti_62, ti_63, ti_64, ti_65, ti_74, ti_77, ti_126, ti_200, ti_201, ti_202, ti_203, ti_204, ti_205, ti_210, ti_255, ti_256, ti_400, ti_512, ti_600, ti_601, ti_602, ti_1000, ti_1023, ti_1024, ti_2000, ti_10000, ti_12602, ti_999999, ti_m999999, ti_m1, ti_2000000, ti_3000000, xN_1, xN_4, xN_5, xN_60, xN_61, xN_64, xN_200, xN_800, xN_12000, xN_12602, eq_self, and_self, and_true, true_and, if_true, if_false, decide_true, Nat.reduceLeDiff, xc2_int, xc2_ref, xc2_ra, xc2_null, xc2_long, xc2_none, xisaT_ref, xisaT_ra, xisaT_null, xc1T_int, xc1T_ref, xc1T_ra, xc1T_null, xsum_nil, xsum_int, xsum_ref, xsum_ra, xsum_long, xsum_double, xsum_null, xfl_nil, xfl_int, xfl_ref, xfl_ra, xfl_null, xfl_long, xfl_double, List.length_cons, List.length_nil, s0, s11, tp, hlt, hp0, b2, xfk, xfv, xak, xan, xcls, xsv', List.getElem?_cons_zero, List.getElem?_cons_succ, List.getD_cons_zero, List.getD_cons_succ, Option.getD_some, Option.isSome_some, if_true, if_pos, xcont, Option.toList_none, Option.toList_some, List.nil_append, List.cons_append]
/-- what depends on f -/
theorem m_reaches {m : Nat} {f : Int} {T : Int → List Int} (hS : MdS S m) (hI : MoI g m T) (hf : 0 ≤ f ∧ f < 200) :
    ∃ g', (∀ h, ¬ h = m + 11 → g' h = g h) ∧ (∀ c, 0 ≤ c → c < 256 → (rcb g' m c = true ↔ c < 200 ∧ Rc (UsE (FmA (g (m + 1))) (RfA (g (m + 1)) T)) f c)) ∧ ∀ Q, Cw X (d + 1) 296 [.ref m, .int (iI f)] (hp S g) Q = Q (.inl none) (hp S g') := by
  obtain ⟨g1, h1, h2, -, h4⟩ := l_rclear (X := X) (d := d + 1) (f := f) hS 4 0 g (by decide) (by decide)
  have z : ∀ o, 0 ≤ o → o < 256 → rcb g1 m o = false := fun o o1 o2 => bt_0 (h2 _ (by omega) (by omega))
  have hE : ∀ b c, UsE (FmA (g (m + 1))) (RfA (g (m + 1)) T) b c ↔ (0 ≤ b ∧ b < 200 ∧ 0 ≤ c ∧ c < 200 ∧ RfA (g (m + 1)) T c b) := fun b c => by
    unfold UsE
    constructor
    · rintro ⟨a1, a2, a3, a4, -, a5⟩; exact ⟨a1, a2, a3, a4, a5⟩
    · rintro ⟨a1, a2, a3, a4, a5⟩; exact ⟨a1, a2, a3, a4, decide_eq_true a5.1, a5⟩
  obtain ⟨g2, ⟨k1, k2, k3⟩, j1, j2⟩ := l_rounds (X := X) (d := d) (R := RfA (g (m + 1)) T) (g0 := g) hS hf hI.2.2.2.2.2.1 hE 201 g1 none none none (by have := (ind_rng (rcb g1 m) 200 0).1; unfold cnR; omega) ⟨h1, fun o o1 o2 h => (by rw [z o o1 o2] at h; cases h), fun o o1 o2 => z o (by omega) o2⟩
  refine ⟨g2, k1, fun c c1 c2 => ⟨fun h => ⟨?_, k2 c c1 c2 h⟩, fun ⟨c3, h⟩ => ?_⟩, fun Q => ?_⟩
  · by_cases e : c < 200
    · exact e
    · have := k3 c (by omega) c2; rw [h] at this; cases this
  · refine (Rc_ind (P := fun c => 0 ≤ c ∧ c < 200 ∧ rcb g2 m c = true) (fun c hc => ?_) (fun b c _ hb hc => ?_) c h).2.2
    · obtain ⟨-, -, a3, a4, a5⟩ := (hE _ _).mp hc
      exact ⟨a3, a4, j1 c a3 a4 (.inl a5)⟩
    · obtain ⟨a1, a2, a3, a4, a5⟩ := (hE _ _).mp hc
      exact ⟨a3, a4, j1 c a3 a4 (.inr ⟨b, a1, by omega, a5, hb.2.2⟩)⟩
  · rw [← j2 Q, ← h4 Q, e296]
    simp (config := { decide := true }) only [w_iconst (pc' := 1) q296 d296_0 rfl, w_istore_n2 (pc' := 2) q296 d296_1 rfl, gs_off, gs_off0, gs_0off, gs_2, xN_0, xN_2, xN_3, xN_6, xN_7, xN_8, xN_9, xN_10, xN_11, xN_12, xN_13, xN_14, xN_15, xN_16, xN_17, xN_18, xN_19, xN_20, xN_21, xN_22, xN_23, xN_24, xN_25, xN_26, xN_27, xN_28, xN_29, xN_30, xN_31, xN_32, xN_33, xN_34, xN_35, xN_36, xN_37, xN_38, xN_39, xN_40, xN_41, xN_42, xN_43, xN_44, xN_45, xN_46, xN_47, xN_48, xN_49, xN_50, xN_51, xN_52, xN_53, xN_54, xN_55, ti_0, ti_1, ti_2, ti_3, ti_4, ti_5, ti_6, ti_7, ti_8, ti_9, ti_10, ti_16, ti_19, ti_20, ti_29, ti_30, ti_31, ti_32, ti_35, ti_36, ti_38, ti_39, ti_40, ti_41, ti_42, ti_43, ti_44, ti_45, ti_46, ti_47, ti_48, ti_49, ti_50, ti_51, ti_52, ti_53, ti_54, ti_55, ti_56, ti_57, ti_58, ti_59, ti_60, ti_61, ti_62, ti_63, ti_64, ti_65, ti_74, ti_77, ti_126, ti_200, ti_201, ti_202, ti_203, ti_204, ti_205, ti_210, ti_255, ti_256, ti_400, ti_512, ti_600, ti_601, ti_602, ti_1000, ti_1023, ti_1024, ti_2000, ti_10000, ti_12602, ti_999999, ti_m999999, ti_m1, ti_2000000, ti_3000000, xN_1, xN_4, xN_5, xN_60, xN_61, xN_64, xN_200, xN_800, xN_12000, xN_12602, eq_self, and_self, and_true, true_and, if_true, if_false, decide_true, Nat.reduceLeDiff, xc2_int, xc2_ref, xc2_ra, xc2_null, xc2_long, xc2_none, xisaT_ref, xisaT_ra, xisaT_null, xc1T_int, xc1T_ref, xc1T_ra, xc1T_null, xsum_nil, xsum_int, xsum_ref, xsum_ra, xsum_long, xsum_double, xsum_null, xfl_nil, xfl_int, xfl_ref, xfl_ra, xfl_null, xfl_long, xfl_double, List.length_cons, List.length_nil, xfk, xfv, xak, xan, xcls, xsv', List.getElem?_cons_zero, List.getElem?_cons_succ, List.getD_cons_zero, List.getD_cons_succ, Option.getD_some, Option.isSome_some, if_true, if_pos, xcont, Option.toList_none, Option.toList_some, List.nil_append, List.cons_append]
end
