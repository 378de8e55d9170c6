/-! The model: counts, what a change does behind -/
section
theorem OdF_congr {F F' : Int → Bool} {R R' : Int → Int → Prop} {r r' : Int → Int} {n : Int} (hF : ∀ c, 0 ≤ c → c < 200 → F c = F' c) (hR : ∀ c o, 0 ≤ c → c < 200 → 0 ≤ o → o < 200 → (R c o ↔ R' c o)) (hr : ∀ i, 0 ≤ i → i < n → r i = r' i) (h : OdF F R r n) : OdF F' R' r' n := by
  intro i i1 i2
  rw [← hr i i1 i2, ← onx_congr (r := r) (r' := r') (n := i) hF hR (fun j j1 j2 => hr j j1 (by omega))]
  exact h i i1 i2
theorem FmA_K {K K' : Int → Int} (hK : ∀ c, 0 ≤ c → c < 200 → K' c = K c) : ∀ c, 0 ≤ c → c < 200 → FmA K c = FmA K' c := fun c c1 c2 => by unfold FmA; rw [hK c c1 c2]
theorem RfA_K {K K' : Int → Int} {T : Int → List Int} (hK : ∀ c, 0 ≤ c → c < 200 → K' c = K c) : ∀ c o, 0 ≤ c → c < 200 → (RfA K T c o ↔ RfA K' T c o) := fun c o c1 c2 => by unfold RfA; rw [hK c c1 c2]
theorem Sol_K {K K' Er R r : Int → Int} {T : Int → List Int} {n : Int} (hV : VfA K T) (hK : ∀ c, 0 ≤ c → c < 200 → K' c = K c) (h : Sol K T Er R r n) : Sol K' T Er R r n := by
  obtain ⟨h1, h2, h3, h4⟩ := id h
  exact (Sol_copy h hV (fun c c1 c2 => ⟨hK c c1 c2, rfl, rfl, rfl⟩) (OdF_congr (FmA_K hK) (fun c o c1 c2 _ _ => RfA_K hK c o c1 c2) (fun _ _ _ => rfl) h1) h2 (by rw [← onx_congr (FmA_K hK) (fun c o c1 c2 _ _ => RfA_K hK c o c1 c2) (fun _ _ _ => rfl)]; exact h3)).1
theorem CeM_V {g : xGm} {m : Nat} {T : Int → List Int} (h : CeM g m T) : VfA (g (m + 1)) T := fun c c1 c2 hk => ((h.2 c c1 c2).2.1 hk).2
/-- the counts alone change -/
def KeC (g g' : xGm) (m : Nat) : Prop := ∀ i, ¬ i = 600 → ¬ i = 601 → g' (m + 1) i = g (m + 1) i
theorem CeM_cnt {g g' : xGm} {m : Nat} {T : Int → List Int} (h : KeC g g' m) (hG : GrS g' m) (hC : CeM g m T) : CeM g' m T := by
  refine ⟨hG, fun c c1 c2 => ?_⟩
  obtain ⟨h1, h2, h3⟩ := hC.2 c c1 c2
  rw [h c (by omega) (by omega), h (200 + c) (by omega) (by omega)]
  refine ⟨h1, fun e => ⟨?_, (h2 e).2⟩, h3⟩
  obtain ⟨m1, m2, m3⟩ := (h2 e).1
  exact ⟨by rw [h _ (by omega) (by omega)]; exact m1, m2, fun k k1 k2 => by rw [h _ (by omega) (by omega)]; exact m3 k k1 k2⟩
theorem MoI_cnt {g g' : xGm} {m : Nat} {T : Int → List Int} (h : KeC g g' m) (hG : GrS g' m) (hr : ∀ j, j = 8 ∨ j = 12 ∨ j = 13 ∨ j = 18 ∨ j = 19 ∨ j = 20 → g' (m + j) = g (m + j)) (h30 : g' m 30 = g m 30) (hI : MoI g m T) : MoI g' m T := by
  obtain ⟨i1, i2, i3, i4, i5, i6, i7⟩ := hI
  have hK : ∀ c, 0 ≤ c → c < 200 → g' (m + 1) c = g (m + 1) c := fun c c1 c2 => h c (by omega) (by omega)
  have e8 := hr 8 (by omega)
  have e12 := hr 12 (by omega)
  have e13 := hr 13 (by omega)
  have e18 := hr 18 (by omega)
  have e19 := hr 19 (by omega)
  have e20 := hr 20 (by omega)
  have hOr := i3.1
  refine ⟨CeM_cnt h hG i1, ⟨rg_off e12 i2.1, rg_off e13 i2.2.1, rg_off e18 i2.2.2.1, rg_off e19 i2.2.2.2.1, rg_off e20 i2.2.2.2.2⟩, ?_, ?_, ?_, ?_, ?_⟩
  · rw [e13, e12, e18, h30]; exact Sol_K (CeM_V i1) hK i3
  · rw [e18, e20, h30]
    intro i a b
    obtain ⟨c1, c2, -⟩ := OdF_at hOr a b
    obtain ⟨k1, k2, k3, k4⟩ := i4 i a b
    refine ⟨k1, k2, ?_, fun q q1 q2 hq => k4 q q1 q2 ((RfA_K hK _ _ c1 c2).mpr hq)⟩
    rcases k3 with k3 | ⟨q, q1, q2, q3, q4⟩
    · exact .inl k3
    · exact .inr ⟨q, q1, q2, (RfA_K hK _ _ c1 c2).mp q3, q4⟩
  · rw [e18, e19, e20, h30]; exact i5
  · intro c o c1 c2 o1 o2
    rw [e8, i6 c o c1 c2 o1 o2]
    exact RfA_K hK c o c1 c2
  · intro c c1 c2 hk
    rw [hK c c1 c2] at hk
    rw [e12, i7 c c1 c2 hk]
    unfold nvM
    rw [hK c c1 c2, h (200 + c) (by omega) (by omega)]
variable {X : xX} {S : xLm} {g : xGm} {d : Nat} {w : xH} {Q : xO → xH → Prop}
theorem l_size {h : Nat} (hS : S.1 h = .inl (1, 4)) : ∀ (n : Nat) (c z : Int), c + n = 200 → 0 ≤ c → ∀ Q,
    Wx X (d + 1) 298 4 [some (.ref h), some (.int (iI z)), some (.int (iI c))] [] (hp S g) Q = Q (.inl (some (.int (iI (z + sumf (ind (bt (g h) 0)) c n))))) (hp S g) := by
  intro n
  induction n with
  | zero =>
    intro c z hn hc Q
    obtain rfl : c = 200 := by omega
    rw [w_iload_n2 (pc' := 5) q298 d298_4 rfl, sumf, Int.add_zero]
    simp (config := { decide := true }) only [w_sipush (z' := (200)) (pc' := 8) q298 d298_5 rfl (by decide), w_icmp_ge (tg := 33) (pc' := 11) q298 d298_8 (by decide) rfl, w_iload_n1 (pc' := 34) q298 d298_33 rfl, w_ireturn q298 d298_34 m298.2.1, gs_off, gs_off0, gs_0off, gs_2, xN_0, xN_2, xN_3, xN_6, xN_7, xN_8, xN_9, xN_10, xN_11, xN_12, xN_13, xN_14, xN_15, xN_16, xN_17, xN_18, xN_19, xN_20, xN_21, xN_22, xN_23, xN_24, xN_25, xN_26, xN_27, xN_28, xN_29, xN_30, xN_31, xN_32, xN_33, xN_34, xN_35, xN_36, xN_37, xN_38, xN_39, xN_40, xN_41, xN_42, xN_43, xN_44, xN_45, xN_46, xN_47, xN_48, xN_49, xN_50, xN_51, xN_52, xN_53, xN_54, xN_55, ti_0, ti_1, ti_2, ti_3, ti_4, ti_5, ti_6, ti_7, ti_8, ti_9, ti_10, ti_16, ti_19, ti_20, ti_29, ti_30, ti_31, ti_32, ti_35, ti_36, ti_38, ti_39, ti_40, ti_41, ti_42, ti_43, ti_44, ti_45, ti_46, ti_47, ti_48, ti_49, ti_50, ti_51, ti_52, ti_53, ti_54, ti_55, ti_56, ti_57, ti_58, ti_59, ti_60, ti_61, ti_62, ti_63, ti_64, ti_65, ti_74, ti_77, ti_126, ti_200, ti_201, ti_202, ti_203, ti_204, ti_205, ti_210, ti_255, ti_256, ti_400, ti_512, ti_600, ti_601, ti_602, ti_1000, ti_1023, ti_1024, ti_2000, ti_10000, ti_12602, ti_999999, ti_m999999, ti_m1, ti_2000000, ti_3000000, xN_1, xN_4, xN_5, xN_60, xN_61, xN_64, xN_200, xN_800, xN_12000, xN_12602, eq_self, and_self, and_true, true_and, if_true, if_false, decide_true, Nat.reduceLeDiff, xc2_int, xc2_ref, xc2_ra, xc2_null, xc2_long, xc2_none, xisaT_ref, xisaT_ra, xisaT_null, xc1T_int, xc1T_ref, xc1T_ra, xc1T_null, xsum_nil, xsum_int, xsum_ref, xsum_ra, xsum_long, xsum_double, xsum_null, xfl_nil, xfl_int, xfl_ref, xfl_ra, xfl_null, xfl_long, xfl_double, List.length_cons, List.length_nil, xfk, xfv, xak, xan, xcls, xsv', List.getElem?_cons_zero, List.getElem?_cons_succ, List.getD_cons_zero, List.getD_cons_succ, Option.getD_some, Option.isSome_some, if_true, if_pos, xcont, Option.toList_none, Option.toList_some, List.nil_append, List.cons_append]
  | succ n ih =>
    intro c z hn hc Q
    have tc : ti c = c := ti_eq (by omega) (by omega)
    have hlt : ¬ 200 ≤ c := by omega
    have hha := fun Q => m_has (X := X) (d := d) (g := g) (o := c) (Q := Q) hS hc (show c < 200 by omega)
    obtain ⟨b, eb⟩ : ∃ b : Int, ind (bt (g h) 0) c = b := ⟨_, rfl⟩
    rw [sumf, eb, ← Int.add_assoc, ← ih (c + 1) (z + b) (by omega) (by omega) Q]
    unfold ind at eb
    by_cases e : bt (g h) 0 c = true
    · rw [if_pos e] at eb hha
      subst eb
      rw [w_iload_n2 (pc' := 5) q298 d298_4 rfl]
      simp (config := { decide := true }) only [w_sipush (z' := (200)) (pc' := 8) q298 d298_5 rfl (by decide), w_icmp_ge (tg := 33) (pc' := 11) q298 d298_8 (by decide) rfl, w_iload_n1 (pc' := 12) q298 d298_11 rfl, w_aload_n0 (pc' := 13) q298 d298_12 rfl, w_iload_n2 (pc' := 14) q298 d298_13 rfl, w_invs2 (pc' := 17) q298 d298_14 rfl (by decide +kernel) k298_257_99 m297.1, w_if_eq (tg := 24) (pc' := 20) q298 d298_17 (by decide) rfl, w_iconst (pc' := 21) q298 d298_20 rfl, w_goto (tg := 25) q298 d298_21 (by decide), w_iconst (pc' := 25) q298 d298_24 rfl, w_iadd (pc' := 26) q298 d298_25 rfl, w_istore_n1 (pc' := 27) q298 d298_26 rfl, w_iinc2 (z := (1)) (pc' := 30) q298 d298_27 rfl, w_goto (tg := 4) q298 d298_30 (by decide), gs_off, gs_off0, gs_0off, gs_2, xN_0, xN_2, xN_3, xN_6, xN_7, xN_8, xN_9, xN_10, xN_11, xN_12, xN_13, xN_14, xN_15, xN_16, xN_17, xN_18, xN_19, xN_20, xN_21, xN_22, xN_23, xN_24, xN_25, xN_26, xN_27, xN_28, xN_29, xN_30, xN_31, xN_32, xN_33, xN_34, xN_35, xN_36, xN_37, xN_38, xN_39, xN_40, xN_41, xN_42, xN_43, xN_44, xN_45, xN_46, xN_47, xN_48, xN_49, xN_50, xN_51, xN_52, xN_53, xN_54, xN_55, ti_0, ti_1, ti_2, ti_3, ti_4, ti_5, ti_6, ti_7, ti_8, ti_9, ti_10, ti_16, ti_19, ti_20, ti_29, ti_30, ti_31, ti_32, ti_35, ti_36, ti_38, ti_39, ti_40, ti_41, ti_42, ti_43, ti_44, ti_45, ti_46, ti_47, ti_48, ti_49, ti_50, ti_51, ti_52, ti_53, ti_54, ti_55, ti_56, ti_57, ti_58, ti_59, ti_60, ti_61, ti_62, ti_63, ti_64, ti_65, ti_74, ti_77, ti_126, ti_200, ti_201, ti_202, ti_203, ti_204, ti_205, ti_210, ti_255, ti_256, ti_400, ti_512, ti_600, ti_601, ti_602, ti_1000, ti_1023, ti_1024, ti_2000, ti_10000, ti_12602, ti_999999, ti_m999999, ti_m1, ti_2000000, ti_3000000, xN_1, xN_4, xN_5, xN_60, xN_61, xN_64, xN_200, xN_800, xN_12000, xN_12602, eq_self, and_self, and_true, true_and, if_true, if_false, decide_true, Nat.reduceLeDiff, xc2_int, xc2_ref, xc2_ra, xc2_null, xc2_long, xc2_none, xisaT_ref, xisaT_ra, xisaT_null, xc1T_int, xc1T_ref, xc1T_ra, xc1T_null, xsum_nil, xsum_int, xsum_ref, xsum_ra, xsum_long, xsum_double, xsum_null, xfl_nil, xfl_int, xfl_ref, xfl_ra, xfl_null, xfl_long, xfl_double, List.length_cons, List.length_nil, tc, hlt, hha, xfk, xfv, xak, xan, xcls, xsv', List.getElem?_cons_zero, List.getElem?_cons_succ, List.getD_cons_zero, List.getD_cons_succ, Option.getD_some, Option.isSome_some, if_true, if_pos, xcont, Option.toList_none, Option.toList_some, List.nil_append, List.cons_append]
    · rw [if_neg e] at eb hha
      subst eb
      rw [w_iload_n2 (pc' := 5) q298 d298_4 rfl]
      simp (config := { decide := true }) only [w_sipush (z' := (200)) (pc' := 8) q298 d298_5 rfl (by decide), w_icmp_ge (tg := 33) (pc' := 11) q298 d298_8 (by decide) rfl, w_iload_n1 (pc' := 12) q298 d298_11 rfl, w_aload_n0 (pc' := 13) q298 d298_12 rfl, w_iload_n2 (pc' := 14) q298 d298_13 rfl, w_invs2 (pc' := 17) q298 d298_14 rfl (by decide +kernel) k298_257_99 m297.1, w_if_eq (tg := 24) (pc' := 20) q298 d298_17 (by decide) rfl, w_iconst (pc' := 21) q298 d298_20 rfl, w_goto (tg := 25) q298 d298_21 (by decide), w_iconst (pc' := 25) q298 d298_24 rfl, w_iadd (pc' := 26) q298 d298_25 rfl, w_istore_n1 (pc' := 27) q298 d298_26 rfl, w_iinc2 (z := (1)) (pc' := 30) q298 d298_27 rfl, w_goto (tg := 4) q298 d298_30 (by decide), gs_off, gs_off0, gs_0off, gs_2, xN_0, xN_2, xN_3, xN_6, xN_7, xN_8, xN_9, xN_10, xN_11, xN_12, xN_13, xN_14, xN_15, xN_16, xN_17, xN_18, xN_19, xN_20, xN_21, xN_22, xN_23, xN_24, xN_25, xN_26, xN_27, xN_28, xN_29, xN_30, xN_31, xN_32, xN_33, xN_34, xN_35, xN_36, xN_37, xN_38, xN_39, xN_40, xN_41, xN_42, xN_43, xN_44, xN_45, xN_46, xN_47, xN_48, xN_49, xN_50, xN_51, xN_52, xN_53, xN_54, xN_55, ti_0, ti_1, ti_2, ti_3, ti_4, ti_5, ti_6, ti_7, ti_8, ti_9, ti_10, ti_16, ti_19, ti_20, ti_29, ti_30, ti_31, ti_32, ti_35, ti_36, ti_38, ti_39, ti_40, ti_41, ti_42, ti_43, ti_44, ti_45, ti_46, ti_47, ti_48, ti_49, ti_50, ti_51, ti_52, ti_53, ti_54, ti_55, ti_56, ti_57, ti_58, ti_59, ti_60, ti_61, ti_62, ti_63, ti_64, ti_65, ti_74, ti_77, ti_126, ti_200, ti_201, ti_202, ti_203, ti_204, ti_205, ti_210, ti_255, ti_256, ti_400, ti_512, ti_600, ti_601, ti_602, ti_1000, ti_1023, ti_1024, ti_2000, ti_10000, ti_12602, ti_999999, ti_m999999, ti_m1, ti_2000000, ti_3000000, xN_1, xN_4, xN_5, xN_60, xN_61, xN_64, xN_200, xN_800, xN_12000, xN_12602, eq_self, and_self, and_true, true_and, if_true, if_false, decide_true, Nat.reduceLeDiff, xc2_int, xc2_ref, xc2_ra, xc2_null, xc2_long, xc2_none, xisaT_ref, xisaT_ra, xisaT_null, xc1T_int, xc1T_ref, xc1T_ra, xc1T_null, xsum_nil, xsum_int, xsum_ref, xsum_ra, xsum_long, xsum_double, xsum_null, xfl_nil, xfl_int, xfl_ref, xfl_ra, xfl_null, xfl_long, xfl_double, List.length_cons, List.length_nil, tc, hlt, hha, xfk, xfv, xak, xan, xcls, xsv', List.getElem?_cons_zero, List.getElem?_cons_succ, List.getD_cons_zero, List.getD_cons_succ, Option.getD_some, Option.isSome_some, if_true, if_pos, xcont, Option.toList_none, Option.toList_some, List.nil_append, List.cons_append]
theorem m_size {h : Nat} (hS : S.1 h = .inl (1, 4)) : ∀ Q, Cw X (d + 1) 298 [.ref h] (hp S g) Q = Q (.inl (some (.int (iI (sumf (ind (bt (g h) 0)) 0 200))))) (hp S g) := by
  intro Q
  have := l_size (X := X) (d := d) (g := g) hS 200 0 0 (by decide) (by decide) Q
  rw [Int.zero_add] at this
  rw [← this, e298]
  simp (config := { decide := true }) only [w_iconst (pc' := 1) q298 d298_0 rfl, w_istore_n1 (pc' := 2) q298 d298_1 rfl, w_iconst (pc' := 3) q298 d298_2 rfl, w_istore_n2 (pc' := 4) q298 d298_3 rfl, gs_off, gs_off0, gs_0off, gs_2, xN_0, xN_2, xN_3, xN_6, xN_7, xN_8, xN_9, xN_10, xN_11, xN_12, xN_13, xN_14, xN_15, xN_16, xN_17, xN_18, xN_19, xN_20, xN_21, xN_22, xN_23, xN_24, xN_25, xN_26, xN_27, xN_28, xN_29, xN_30, xN_31, xN_32, xN_33, xN_34, xN_35, xN_36, xN_37, xN_38, xN_39, xN_40, xN_41, xN_42, xN_43, xN_44, xN_45, xN_46, xN_47, xN_48, xN_49, xN_50, xN_51, xN_52, xN_53, xN_54, xN_55, ti_0, ti_1, ti_2, ti_3, ti_4, ti_5, ti_6, ti_7, ti_8, ti_9, ti_10, ti_16, ti_19, ti_20, ti_29, ti_30, ti_31, ti_32, ti_35, ti_36, ti_38, ti_39, ti_40, ti_41, ti_42, ti_43, ti_44, ti_45, ti_46, ti_47, ti_48, ti_49, ti_50, ti_51, ti_52, ti_53, ti_54, ti_55, ti_56, ti_57, ti_58, ti_59, ti_60, ti_61, ti_62, ti_63, ti_64, ti_65, ti_74, ti_77, ti_126, ti_200, ti_201, ti_202, ti_203, ti_204, ti_205, ti_210, ti_255, ti_256, ti_400, ti_512, ti_600, ti_601, ti_602, ti_1000, ti_1023, ti_1024, ti_2000, ti_10000, ti_12602, ti_999999, ti_m999999, ti_m1, ti_2000000, ti_3000000, xN_1, xN_4, xN_5, xN_60, xN_61, xN_64, xN_200, xN_800, xN_12000, xN_12602, eq_self, and_self, and_true, true_and, if_true, if_false, decide_true, Nat.reduceLeDiff, xc2_int, xc2_ref, xc2_ra, xc2_null, xc2_long, xc2_none, xisaT_ref, xisaT_ra, xisaT_null, xc1T_int, xc1T_ref, xc1T_ra, xc1T_null, xsum_nil, xsum_int, xsum_ref, xsum_ra, xsum_long, xsum_double, xsum_null, xfl_nil, xfl_int, xfl_ref, xfl_ra, xfl_null, xfl_long, xfl_double, List.length_cons, List.length_nil, xfk, xfv, xak, xan, xcls, xsv', List.getElem?_cons_zero, List.getElem?_cons_succ, List.getD_cons_zero, List.getD_cons_succ, Option.getD_some, Option.isSome_some, if_true, if_pos, xcont, Option.toList_none, Option.toList_some, List.nil_append, List.cons_append]
theorem l_ofKind {m : Nat} {k : Int} (hS : MdS S m) (hG : GrS g m) (hk : 0 ≤ k ∧ k ≤ 9) : ∀ (n : Nat) (c z : Int), c + n = 200 → 0 ≤ c → ∀ Q,
    Wx X (d + 1) 304 4 [some (.ref m), some (.int (iI k)), some (.int (iI z)), some (.int (iI c))] [] (hp S g) Q = Q (.inl (some (.int (iI (z + sumf (ind (fun c => decide (g (m + 1) c = k))) c n))))) (hp S g) := by
  have s0 := hS.1
  intro n
  induction n with
  | zero =>
    intro c z hn hc Q
    obtain rfl : c = 200 := by omega
    rw [w_iload_n3 (pc' := 5) q304 d304_4 rfl, sumf, Int.add_zero]
    simp (config := { decide := true }) only [w_sipush (z' := (200)) (pc' := 8) q304 d304_5 rfl (by decide), w_icmp_ge (tg := 34) (pc' := 11) q304 d304_8 (by decide) rfl, w_iload_n2 (pc' := 35) q304 d304_34 rfl, w_ireturn q304 d304_35 m304.2.1, gs_off, gs_off0, gs_0off, gs_2, xN_0, xN_2, xN_3, xN_6, xN_7, xN_8, xN_9, xN_10, xN_11, xN_12, xN_13, xN_14, xN_15, xN_16, xN_17, xN_18, xN_19, xN_20, xN_21, xN_22, xN_23, xN_24, xN_25, xN_26, xN_27, xN_28, xN_29, xN_30, xN_31, xN_32, xN_33, xN_34, xN_35, xN_36, xN_37, xN_38, xN_39, xN_40, xN_41, xN_42, xN_43, xN_44, xN_45, xN_46, xN_47, xN_48, xN_49, xN_50, xN_51, xN_52, xN_53, xN_54, xN_55, ti_0, ti_1, ti_2, ti_3, ti_4, ti_5, ti_6, ti_7, ti_8, ti_9, ti_10, ti_16, ti_19, ti_20, ti_29, ti_30, ti_31, ti_32, ti_35, ti_36, ti_38, ti_39, ti_40, ti_41, ti_42, ti_43, ti_44, ti_45, ti_46, ti_47, ti_48, ti_49, ti_50, ti_51, ti_52, ti_53, ti_54, ti_55, ti_56, ti_57, ti_58, ti_59, ti_60, ti_61, ti_62, ti_63, ti_64, ti_65, ti_74, ti_77, ti_126, ti_200, ti_201, ti_202, ti_203, ti_204, ti_205, ti_210, ti_255, ti_256, ti_400, ti_512, ti_600, ti_601, ti_602, ti_1000, ti_1023, ti_1024, ti_2000, ti_10000, ti_12602, ti_999999, ti_m999999, ti_m1, ti_2000000, ti_3000000, xN_1, xN_4, xN_5, xN_60, xN_61, xN_64, xN_200, xN_800, xN_12000, xN_12602, eq_self, and_self, and_true, true_and, if_true, if_false, decide_true, Nat.reduceLeDiff, xc2_int, xc2_ref, xc2_ra, xc2_null, xc2_long, xc2_none, xisaT_ref, xisaT_ra, xisaT_null, xc1T_int, xc1T_ref, xc1T_ra, xc1T_null, xsum_nil, xsum_int, xsum_ref, xsum_ra, xsum_long, xsum_double, xsum_null, xfl_nil, xfl_int, xfl_ref, xfl_ra, xfl_null, xfl_long, xfl_double, List.length_cons, List.length_nil, xfk, xfv, xak, xan, xcls, xsv', List.getElem?_cons_zero, List.getElem?_cons_succ, List.getD_cons_zero, List.getD_cons_succ, Option.getD_some, Option.isSome_some, if_true, if_pos, xcont, Option.toList_none, Option.toList_some, List.nil_append, List.cons_append]
  | succ n ih =>
    intro c z hn hc Q
    have tc : ti c = c := ti_eq (by omega) (by omega)
    have hlt : ¬ 200 ≤ c := by omega
    have hha := fun Q => m_isKind (X := X) (d := d) (c := c) (k := k) (Q := Q) hS hG ⟨hc, show c < 200 by omega⟩ hk
    obtain ⟨b, eb⟩ : ∃ b : Int, ind (fun c => decide (g (m + 1) c = k)) c = b := ⟨_, rfl⟩
    rw [sumf, eb, ← Int.add_assoc, ← ih (c + 1) (z + b) (by omega) (by omega) Q]
    unfold ind at eb
    by_cases e : g (m + 1) c = k
    · rw [if_pos (decide_eq_true e)] at eb
      rw [if_pos e] at hha
      subst eb
      rw [w_iload_n3 (pc' := 5) q304 d304_4 rfl]
      simp (config := { decide := true }) only [w_sipush (z' := (200)) (pc' := 8) q304 d304_5 rfl (by decide), w_icmp_ge (tg := 34) (pc' := 11) q304 d304_8 (by decide) rfl, w_iload_n2 (pc' := 12) q304 d304_11 rfl, w_aload_n0 (pc' := 13) q304 d304_12 rfl, w_iload_n3 (pc' := 14) q304 d304_13 rfl, w_iload_n1 (pc' := 15) q304 d304_14 rfl, w_invv2 (ci := 11) (pc' := 18) q304 d304_15 rfl n304_133 k304_133_11 m219.1, w_if_eq (tg := 25) (pc' := 21) q304 d304_18 (by decide) rfl, w_iconst (pc' := 22) q304 d304_21 rfl, w_goto (tg := 26) q304 d304_22 (by decide), w_iconst (pc' := 26) q304 d304_25 rfl, w_iadd (pc' := 27) q304 d304_26 rfl, w_istore_n2 (pc' := 28) q304 d304_27 rfl, w_iinc3 (z := (1)) (pc' := 31) q304 d304_28 rfl, w_goto (tg := 4) q304 d304_31 (by decide), gs_off, gs_off0, gs_0off, gs_2, xN_0, xN_2, xN_3, xN_6, xN_7, xN_8, xN_9, xN_10, xN_11, xN_12, xN_13, xN_14, xN_15, xN_16, xN_17, xN_18, xN_19, xN_20, xN_21, xN_22, xN_23, xN_24, xN_25, xN_26, xN_27, xN_28, xN_29, xN_30, xN_31, xN_32, xN_33, xN_34, xN_35, xN_36, xN_37, xN_38, xN_39, xN_40, xN_41, xN_42, xN_43, xN_44, xN_45, xN_46, xN_47, xN_48, xN_49, xN_50, xN_51, xN_52, xN_53, xN_54, xN_55, ti_0, ti_1, ti_2, ti_3, ti_4, ti_5, ti_6, ti_7, ti_8, ti_9, ti_10, ti_16, ti_19, ti_20, ti_29, ti_30, ti_31, ti_32, ti_35, ti_36, ti_38, ti_39, ti_40, ti_41, ti_42, ti_43, ti_44, ti_45, ti_46, ti_47, ti_48, ti_49, ti_50, ti_51, ti_52, ti_53, ti_54, ti_55, ti_56, ti_57, ti_58, ti_59, ti_60, ti_61, ti_62, ti_63, ti_64, ti_65, ti_74, ti_77, ti_126, ti_200, ti_201, ti_202, ti_203, ti_204, ti_205, ti_210, ti_255, ti_256, ti_400, ti_512, ti_600, ti_601, ti_602, ti_1000, ti_1023, ti_1024, ti_2000, ti_10000, ti_12602, ti_999999, ti_m999999, ti_m1, ti_2000000, ti_3000000, xN_1, xN_4, xN_5, xN_60, xN_61, xN_64, xN_200, xN_800, xN_12000, xN_12602, eq_self, and_self, and_true, true_and, if_true, if_false, decide_true, Nat.reduceLeDiff, xc2_int, xc2_ref, xc2_ra, xc2_null, xc2_long, xc2_none, xisaT_ref, xisaT_ra, xisaT_null, xc1T_int, xc1T_ref, xc1T_ra, xc1T_null, xsum_nil, xsum_int, xsum_ref, xsum_ra, xsum_long, xsum_double, xsum_null, xfl_nil, xfl_int, xfl_ref, xfl_ra, xfl_null, xfl_long, xfl_double, List.length_cons, List.length_nil, s0, tc, hlt, hha, xfk, xfv, xak, xan, xcls, xsv', List.getElem?_cons_zero, List.getElem?_cons_succ, List.getD_cons_zero, List.getD_cons_succ, Option.getD_some, Option.isSome_some, if_true, if_pos, xcont, Option.toList_none, Option.toList_some, List.nil_append, List.cons_append]
    · rw [if_neg (by simp [e])] at eb
      rw [if_neg e] at hha
      subst eb
      rw [w_iload_n3 (pc' := 5) q304 d304_4 rfl]
      simp (config := { decide := true }) only [w_sipush (z' := (200)) (pc' := 8) q304 d304_5 rfl (by decide), w_icmp_ge (tg := 34) (pc' := 11) q304 d304_8 (by decide) rfl, w_iload_n2 (pc' := 12) q304 d304_11 rfl, w_aload_n0 (pc' := 13) q304 d304_12 rfl, w_iload_n3 (pc' := 14) q304 d304_13 rfl, w_iload_n1 (pc' := 15) q304 d304_14 rfl, w_invv2 (ci := 11) (pc' := 18) q304 d304_15 rfl n304_133 k304_133_11 m219.1, w_if_eq (tg := 25) (pc' := 21) q304 d304_18 (by decide) rfl, w_iconst (pc' := 22) q304 d304_21 rfl, w_goto (tg := 26) q304 d304_22 (by decide), w_iconst (pc' := 26) q304 d304_25 rfl, w_iadd (pc' := 27) q304 d304_26 rfl, w_istore_n2 (pc' := 28) q304 d304_27 rfl, w_iinc3 (z := (1)) (pc' := 31) q304 d304_28 rfl, w_goto (tg := 4) q304 d304_31 (by decide), gs_off, gs_off0, gs_0off, gs_2, xN_0, xN_2, xN_3, xN_6, xN_7, xN_8, xN_9, xN_10, xN_11, xN_12, xN_13, xN_14, xN_15, xN_16, xN_17, xN_18, xN_19, xN_20, xN_21, xN_22, xN_23, xN_24, xN_25, xN_26, xN_27, xN_28, xN_29, xN_30, xN_31, xN_32, xN_33, xN_34, xN_35, xN_36, xN_37, xN_38, xN_39, xN_40, xN_41, xN_42, xN_43, xN_44, xN_45, xN_46, xN_47, xN_48, xN_49, xN_50, xN_51, xN_52, xN_53, xN_54, xN_55, ti_0, ti_1, ti_2, ti_3, ti_4, ti_5, ti_6, ti_7, ti_8, ti_9, ti_10, ti_16, ti_19, ti_20, ti_29, ti_30, ti_31, ti_32, ti_35, ti_36, ti_38, ti_39, ti_40, ti_41, ti_42, ti_43, ti_44, ti_45, ti_46, ti_47, ti_48, ti_49, ti_50, ti_51, ti_52, ti_53, ti_54, ti_55, ti_56, ti_57, ti_58, ti_59, ti_60, ti_61, ti_62, ti_63, ti_64, ti_65, ti_74, ti_77, ti_126, ti_200, ti_201, ti_202, ti_203, ti_204, ti_205, ti_210, ti_255, ti_256, ti_400, ti_512, ti_600, ti_601, ti_602, ti_1000, ti_1023, ti_1024, ti_2000, ti_10000, ti_12602, ti_999999, ti_m999999, ti_m1, ti_2000000, ti_3000000, xN_1, xN_4, xN_5, xN_60, xN_61, xN_64, xN_200, xN_800, xN_12000, xN_12602, eq_self, and_self, and_true, true_and, if_true, if_false, decide_true, Nat.reduceLeDiff, xc2_int, xc2_ref, xc2_ra, xc2_null, xc2_long, xc2_none, xisaT_ref, xisaT_ra, xisaT_null, xc1T_int, xc1T_ref, xc1T_ra, xc1T_null, xsum_nil, xsum_int, xsum_ref, xsum_ra, xsum_long, xsum_double, xsum_null, xfl_nil, xfl_int, xfl_ref, xfl_ra, xfl_null, xfl_long, xfl_double, List.length_cons, List.length_nil, s0, tc, hlt, hha, xfk, xfv, xak, xan, xcls, xsv', List.getElem?_cons_zero, List.getElem?_cons_succ, List.getD_cons_zero, List.getD_cons_succ, Option.getD_some, Option.isSome_some, if_true, if_pos, xcont, Option.toList_none, Option.toList_some, List.nil_append, List.cons_append]
theorem m_ofKind {m : Nat} {k : Int} (hS : MdS S m) (hG : GrS g m) (hk : 0 ≤ k ∧ k ≤ 9) : ∀ Q, Cw X (d + 1) 304 [.ref m, .int (iI k)] (hp S g) Q = Q (.inl (some (.int (iI (sumf (ind (fun c => decide (g (m + 1) c = k))) 0 200))))) (hp S g) := by
  intro Q
  have := l_ofKind (X := X) (d := d) hS hG hk 200 0 0 (by decide) (by decide) Q
  rw [Int.zero_add] at this
  rw [← this, e304]
  simp (config := { decide := true }) only [w_iconst (pc' := 1) q304 d304_0 rfl, w_istore_n2 (pc' := 2) q304 d304_1 rfl, w_iconst (pc' := 3) q304 d304_2 rfl, w_istore_n3 (pc' := 4) q304 d304_3 rfl, gs_off, gs_off0, gs_0off, gs_2, xN_0, xN_2, xN_3, xN_6, xN_7, xN_8, xN_9, xN_10, xN_11, xN_12, xN_13, xN_14, xN_15, xN_16, xN_17, xN_18, xN_19, xN_20, xN_21, xN_22, xN_23, xN_24, xN_25, xN_26, xN_27, xN_28, xN_29, xN_30, xN_31, xN_32, xN_33, xN_34, xN_35, xN_36, xN_37, xN_38, xN_39, xN_40, xN_41, xN_42, xN_43, xN_44, xN_45, xN_46, xN_47, xN_48, xN_49, xN_50, xN_51, xN_52, xN_53, xN_54, xN_55, ti_0, ti_1, ti_2, ti_3, ti_4, ti_5, ti_6, ti_7, ti_8, ti_9, ti_10, ti_16, ti_19, ti_20, ti_29, ti_30, ti_31, ti_32, ti_35, ti_36, ti_38, ti_39, ti_40, ti_41, ti_42, ti_43, ti_44, ti_45, ti_46, ti_47, ti_48, ti_49, ti_50, ti_51, ti_52, ti_53, ti_54, ti_55, ti_56, ti_57, ti_58, ti_59, ti_60, ti_61, ti_62, ti_63, ti_64, ti_65, ti_74, ti_77, ti_126, ti_200, ti_201, ti_202, ti_203, ti_204, ti_205, ti_210, ti_255, ti_256, ti_400, ti_512, ti_600, ti_601, ti_602, ti_1000, ti_1023, ti_1024, ti_2000, ti_10000, ti_12602, ti_999999, ti_m999999, ti_m1, ti_2000000, ti_3000000, xN_1, xN_4, xN_5, xN_60, xN_61, xN_64, xN_200, xN_800, xN_12000, xN_12602, eq_self, and_self, and_true, true_and, if_true, if_false, decide_true, Nat.reduceLeDiff, xc2_int, xc2_ref, xc2_ra, xc2_null, xc2_long, xc2_none, xisaT_ref, xisaT_ra, xisaT_null, xc1T_int, xc1T_ref, xc1T_ra, xc1T_null, xsum_nil, xsum_int, xsum_ref, xsum_ra, xsum_long, xsum_double, xsum_null, xfl_nil, xfl_int, xfl_ref, xfl_ra, xfl_null, xfl_long, xfl_double, List.length_cons, List.length_nil, xfk, xfv, xak, xan, xcls, xsv', List.getElem?_cons_zero, List.getElem?_cons_succ, List.getD_cons_zero, List.getD_cons_succ, Option.getD_some, Option.isSome_some, if_true, if_pos, xcont, Option.toList_none, Option.toList_some, List.nil_append, List.cons_append]
/-- the counts -/
def gCt (g : xGm) (m : Nat) (z : Int) : xGm := gs (gs g (m + 1) 600 z) (m + 1) 601 (g (m + 1) 601 + z)
theorem m_counts {m : Nat} {z : Int} (hS : MdS S m) : ∀ Q, Cw X d 299 [.ref m, .int (iI z)] (hp S g) Q = Q (.inl (some (.int (iI z)))) (hp S (gCt g m z)) := by
  intro Q
  have s0 := hS.1
  have s1 := MdS_1 hS
  unfold gCt
  rw [e299]
  simp (config := { decide := true }) only [w_aload_n0 (pc' := 1) q299 d299_0 rfl, w_getV (pc' := 4) q299 d299_1 rfl f299_7, w_sipush (z' := (600)) (pc' := 7) q299 d299_4 rfl (by decide), w_iload_n1 (pc' := 8) q299 d299_7 rfl, w_iastore (pc' := 9) q299 d299_8 rfl, w_aload_n0 (pc' := 10) q299 d299_9 rfl, w_getV (pc' := 13) q299 d299_10 rfl f299_7, w_sipush (z' := (601)) (pc' := 16) q299 d299_13 rfl (by decide), w_dup2 (pc' := 17) q299 d299_16 rfl, w_iaload (pc' := 18) q299 d299_17 rfl, w_iload_n1 (pc' := 19) q299 d299_18 rfl, w_iadd (pc' := 20) q299 d299_19 rfl, w_iastore (pc' := 21) q299 d299_20 rfl, w_iload_n1 (pc' := 22) q299 d299_21 rfl, w_ireturn q299 d299_22 m299.2.1, gs_off, gs_off0, gs_0off, gs_2, xN_0, xN_2, xN_3, xN_6, xN_7, xN_8, xN_9, xN_10, xN_11, xN_12, xN_13, xN_14, xN_15, xN_16, xN_17, xN_18, xN_19, xN_20, xN_21, xN_22, xN_23, xN_24, xN_25, xN_26, xN_27, xN_28, xN_29, xN_30, xN_31, xN_32, xN_33, xN_34, xN_35, xN_36, xN_37, xN_38, xN_39, xN_40, xN_41, xN_42, xN_43, xN_44, xN_45, xN_46, xN_47, xN_48, xN_49, xN_50, xN_51, xN_52, xN_53, xN_54, xN_55, ti_0, ti_1, ti_2, ti_3, ti_4, ti_5, ti_6, ti_7, ti_8, ti_9, ti_10, ti_16, ti_19, ti_20, ti_29, ti_30, ti_31, ti_32, ti_35, ti_36, ti_38, ti_39, ti_40, ti_41, ti_42, ti_43, ti_44, ti_45, ti_46, ti_47, ti_48, ti_49, ti_50, ti_51, ti_52, ti_53, ti_54, ti_55, ti_56, ti_57, ti_58, ti_59, ti_60, ti_61, ti_62, ti_63, ti_64, ti_65, ti_74, ti_77, ti_126, ti_200, ti_201, ti_202, ti_203, ti_204, ti_205, ti_210, ti_255, ti_256, ti_400, ti_512, ti_600, ti_601, ti_602, ti_1000, ti_1023, ti_1024, ti_2000, ti_10000, ti_12602, ti_999999, ti_m999999, ti_m1, ti_2000000, ti_3000000, xN_1, xN_4, xN_5, xN_60, xN_61, xN_64, xN_200, xN_800, xN_12000, xN_12602, eq_self, and_self, and_true, true_and, if_true, if_false, decide_true, Nat.reduceLeDiff, xc2_int, xc2_ref, xc2_ra, xc2_null, xc2_long, xc2_none, xisaT_ref, xisaT_ra, xisaT_null, xc1T_int, xc1T_ref, xc1T_ra, xc1T_null, xsum_nil, xsum_int, xsum_ref, xsum_ra, xsum_long, xsum_double, xsum_null, xfl_nil, xfl_int, xfl_ref, xfl_ra, xfl_null, xfl_long, xfl_double, List.length_cons, List.length_nil, s0, s1, xfk, xfv, xak, xan, xcls, xsv', List.getElem?_cons_zero, List.getElem?_cons_succ, List.getD_cons_zero, List.getD_cons_succ, Option.getD_some, Option.isSome_some, if_true, if_pos, xcont, Option.toList_none, Option.toList_some, List.nil_append, List.cons_append]
theorem gCt_row {m h : Nat} {z : Int} (hh : ¬ h = m + 1) : gCt g m z h = g h := by unfold gCt; rw [gs_row _ _ _ hh, gs_row _ _ _ hh]
theorem gCt_ke {m : Nat} {z : Int} : KeC g (gCt g m z) m := fun i a b => by unfold gCt; rw [gs_at, if_neg b, gs_at, if_neg a]
theorem gCt_600 {m : Nat} {z : Int} : gCt g m z (m + 1) 600 = z := by unfold gCt; rw [gs_at, if_neg (by decide), gs_at, if_pos rfl]
theorem gCt_601 {m : Nat} {z : Int} : gCt g m z (m + 1) 601 = g (m + 1) 601 + z := by unfold gCt; rw [gs_at, if_pos rfl]
theorem gCt_G {m : Nat} {z : Int} (hG : GrS g m) (hz : 0 ≤ z ∧ z ≤ 200) (hA : 0 ≤ g (m + 1) 601 ∧ g (m + 1) 601 ≤ 900000) : GrS (gCt g m z) m := fun i => by
  unfold gCt
  rw [gs_at]
  split
  · omega
  · rw [gs_at]
    split
    · omega
    · exact hG i
def FxD (g g' : xGm) (m : Nat) : Prop := Fx [1, 8, 9, 10, 11, 12, 13, 14, 15, 16, 17, 18, 19, 20] [22, 23, 24, 25, 26, 30] g g' m
theorem gCt_Fx {m : Nat} {z : Int} : FxD g (gCt g m z) m := ⟨fun h _ hh => gCt_row (hh 1 (by decide)), fun i _ => by rw [gCt_row (by omega)]⟩
theorem Rc_F {F : Int → Bool} {R : Int → Int → Prop} {f c : Int} (h : Rc (UsE F R) f c) : F c = true := by
  refine Rc_ind (P := fun c => F c = true) (fun c h => h.2.2.2.2.1) (fun b c _ _ h => h.2.2.2.2.1) c h
/-- a cell was changed -/
theorem m_changed {m : Nat} {f : Int} {T : Int → List Int} (hS : MdS S m) (hC : CeM g m T) (hR : MoR g m) (hf : 0 ≤ f ∧ f < 200) (hA : 0 ≤ g (m + 1) 601 ∧ g (m + 1) 601 ≤ 900000) :
    ∃ g', FxD g g' m ∧ KeC g g' m ∧ g' (m + 1) 600 = cnF (g (m + 1)) T f ∧ g' (m + 1) 601 = g (m + 1) 601 + cnF (g (m + 1)) T f ∧ MoI g' m T ∧ ∀ Q, Cw X (d + 7) 270 [.ref m, .int (iI f)] (hp S g) Q = Q (.inl (some (.int (iI (cnF (g (m + 1)) T f))))) (hp S g') := by
  have s0 := hS.1
  have s11 := MdS_11 hS
  obtain ⟨g1, f1, i1, k1⟩ := m_computesAll (X := X) (d := d) hS hC hR
  have e1 : g1 (m + 1) = g (m + 1) := Fx_at f1 (by decide) (by decide)
  obtain ⟨g2, h2, h3, k2⟩ := m_reaches (X := X) (d := d + 5) hS i1 hf
  have e2 : g2 (m + 1) = g (m + 1) := (h2 _ (by omega)).trans e1
  rw [e1] at h3
  have hG2 : GrS g2 m := rg_off e2 hC.1
  have hk2 := fun Q => m_isKind (X := X) (d := d + 6) (g := g2) (c := f) (k := 2) (Q := Q) hS hG2 hf (by decide)
  rw [e2] at hk2
  obtain ⟨g3, eg3⟩ : ∃ g3, g3 = if g (m + 1) f = 2 then gB g2 (m + 11) 0 f else g2 := ⟨_, rfl⟩
  have r3 : ∀ h, ¬ h = m + 11 → g3 h = g2 h := fun h hh => by
    rw [eg3]
    split
    · exact gB_row hh
    · rfl
  have hcn : sumf (ind (bt (g3 (m + 11)) 0)) 0 200 = cnF (g (m + 1)) T f := by
    unfold cnF
    refine sumf_congr 200 0 (fun x x1 x2 => ?_)
    unfold ind
    have hx : bt (g3 (m + 11)) 0 x = true ↔ g (m + 1) x = 2 ∧ (Rc (UsE (FmA (g (m + 1))) (RfA (g (m + 1)) T)) f x ∨ x = f) := by
      have hb := h3 x x1 (by omega)
      unfold rcb at hb
      rw [eg3]
      by_cases e : g (m + 1) f = 2
      · rw [if_pos e, gB_bt hf.1 (by omega) x1 (by omega), Bool.or_eq_true, decide_eq_true_eq, hb]
        constructor
        · rintro (⟨-, h⟩ | ⟨-, h⟩)
          · exact ⟨of_decide_eq_true (Rc_F h), .inl h⟩
          · exact ⟨by rw [h]; exact e, .inr h⟩
        · rintro ⟨h1, h | h⟩
          · exact .inl ⟨by omega, h⟩
          · exact .inr ⟨rfl, h⟩
      · rw [if_neg e, hb]
        constructor
        · rintro ⟨-, h⟩
          exact ⟨of_decide_eq_true (Rc_F h), .inl h⟩
        · rintro ⟨h1, h | h⟩
          · exact ⟨by omega, h⟩
          · subst h; exact absurd h1 e
    by_cases e : bt (g3 (m + 11)) 0 x = true
    · rw [if_pos e, if_pos]; exact cb_iff.mpr (hx.mp e)
    · rw [if_neg e, if_neg]; exact fun h => e (hx.mpr (cb_iff.mp h))
  have hsz := m_size (X := X) (d := d + 5) (g := g3) s11
  rw [hcn] at hsz
  have hcr : 0 ≤ cnF (g (m + 1)) T f ∧ cnF (g (m + 1)) T f ≤ 200 := ind_rng _ 200 0
  have e3 : g3 (m + 1) = g (m + 1) := (r3 _ (by omega)).trans e2
  have hG3 : GrS g3 m := rg_off e3 hC.1
  have hct := m_counts (X := X) (d := d + 6) (g := g3) (z := cnF (g (m + 1)) T f) hS
  have n3 : ∀ h, ¬ h = m + 11 → g3 h = g1 h := fun h hh => (r3 h hh).trans (h2 h hh)
  have i3 : MoI g3 m T := MoI_cnt (fun i _ _ => by rw [e3, e1]) hG3 (fun j _ => n3 _ (by omega)) (by rw [n3 m (by omega)]) i1
  refine ⟨gCt g3 m (cnF (g (m + 1)) T f), ?_, fun i a b => (gCt_ke i a b).trans (by rw [e3]), gCt_600, by rw [gCt_601, e3], MoI_cnt gCt_ke (gCt_G hG3 hcr (by rw [e3]; exact hA)) (fun j _ => gCt_row (by omega)) (by rw [gCt_row (by omega)]) i3, fun Q => ?_⟩
  · refine Fx_trans (Fx_mono f1 (by decide) (by decide)) (Fx_trans (g1 := g3) ⟨fun h _ hh => n3 h (hh 11 (by decide)), fun i _ => by rw [n3 m (by omega)]⟩ gCt_Fx)
  · rw [e270]
    by_cases e : g (m + 1) f = 2
    · rw [if_pos e] at eg3 hk2
      have hpu := fun Q => m_puts (X := X) (d := d + 6) (g := g2) (o := f) (Q := Q) s11 hf.1 hf.2
      rw [← eg3] at hpu
      simp (config := { decide := true }) only [w_aload_n0 (pc' := 1) q270 d270_0 rfl, w_invv0 (ci := 11) (pc' := 4) q270 d270_1 rfl n270_261 k270_261_11 m271.1, w_aload_n0 (pc' := 5) q270 d270_4 rfl, w_iload_n1 (pc' := 6) q270 d270_5 rfl, w_invv1 (ci := 11) (pc' := 9) q270 d270_6 rfl n270_264 k270_264_11 m296.1, w_aload_n0 (pc' := 10) q270 d270_9 rfl, w_iload_n1 (pc' := 11) q270 d270_10 rfl, w_iconst (pc' := 12) q270 d270_11 rfl, w_invv2 (ci := 11) (pc' := 15) q270 d270_12 rfl n270_133 k270_133_11 m219.1, w_if_eq (tg := 26) (pc' := 18) q270 d270_15 (by decide) rfl, w_aload_n0 (pc' := 19) q270 d270_18 rfl, w_getV (pc' := 22) q270 d270_19 rfl f270_41, w_iload_n1 (pc' := 23) q270 d270_22 rfl, w_invs2 (pc' := 26) q270 d270_23 rfl (by decide +kernel) k270_243_99 m229.1, w_aload_n0 (pc' := 27) q270 d270_26 rfl, w_aload_n0 (pc' := 28) q270 d270_27 rfl, w_getV (pc' := 31) q270 d270_28 rfl f270_41, w_invs1 (pc' := 34) q270 d270_31 rfl (by decide +kernel) k270_267_99 m298.1, w_invv1 (ci := 11) (pc' := 37) q270 d270_34 rfl n270_271 k270_271_11 m299.1, w_ireturn q270 d270_37 m270.2.1, gs_off, gs_off0, gs_0off, gs_2, xN_0, xN_2, xN_3, xN_6, xN_7, xN_8, xN_9, xN_10, xN_11, xN_12, xN_13, xN_14, xN_15, xN_16, xN_17, xN_18, xN_19, xN_20, xN_21, xN_22, xN_23, xN_24, xN_25, xN_26, xN_27, xN_28, xN_29, xN_30, xN_31, xN_32, xN_33, xN_34, xN_35, xN_36, xN_37, xN_38, xN_39, xN_40, xN_41, xN_42, xN_43, xN_44, xN_45, xN_46, xN_47, xN_48, xN_49, xN_50, xN_51, xN_52, xN_53, xN_54, xN_55, ti_0, ti_1, ti_2, ti_3, ti_4, ti_5, ti_6, ti_7, ti_8, ti_9, ti_10, ti_16, ti_19, ti_20, ti_29, ti_30, ti_31, ti_32, ti_35, ti_36, ti_38, ti_39, ti_40, ti_41, ti_42, ti_43, ti_44, ti_45, ti_46, ti_47, ti_48, ti_49, ti_50, ti_51, ti_52, ti_53, ti_54, ti_55, ti_56, ti_57, ti_58, ti_59, ti_60, ti_61, ti_62, ti_63, ti_64, ti_65, ti_74, ti_77, ti_126, ti_200, ti_201, ti_202, ti_203, ti_204, ti_205, ti_210, ti_255, ti_256, ti_400, ti_512, ti_600, ti_601, ti_602, ti_1000, ti_1023, ti_1024, ti_2000, ti_10000, ti_12602, ti_999999, ti_m999999, ti_m1, ti_2000000, ti_3000000, xN_1, xN_4, xN_5, xN_60, xN_61, xN_64, xN_200, xN_800, xN_12000, xN_12602, eq_self, and_self, and_true, true_and, if_true, if_false, decide_true, Nat.reduceLeDiff, xc2_int, xc2_ref, xc2_ra, xc2_null, xc2_long, xc2_none, xisaT_ref, xisaT_ra, xisaT_null, xc1T_int, xc1T_ref, xc1T_ra, xc1T_null, xsum_nil, xsum_int, xsum_ref, xsum_ra, xsum_long, xsum_double, xsum_null, xfl_nil, xfl_int, xfl_ref, xfl_ra, xfl_null, xfl_long, xfl_double, List.length_cons, List.length_nil, s0, k1, k2, hk2, hpu, hsz, hct, xfk, xfv, xak, xan, xcls, xsv', List.getElem?_cons_zero, List.getElem?_cons_succ, List.getD_cons_zero, List.getD_cons_succ, Option.getD_some, Option.isSome_some, if_true, if_pos, xcont, Option.toList_none, Option.toList_some, List.nil_append, List.cons_append]
    · rw [if_neg e] at eg3 hk2
      rw [eg3] at hsz hct ⊢
      simp (config := { decide := true }) only [w_aload_n0 (pc' := 1) q270 d270_0 rfl, w_invv0 (ci := 11) (pc' := 4) q270 d270_1 rfl n270_261 k270_261_11 m271.1, w_aload_n0 (pc' := 5) q270 d270_4 rfl, w_iload_n1 (pc' := 6) q270 d270_5 rfl, w_invv1 (ci := 11) (pc' := 9) q270 d270_6 rfl n270_264 k270_264_11 m296.1, w_aload_n0 (pc' := 10) q270 d270_9 rfl, w_iload_n1 (pc' := 11) q270 d270_10 rfl, w_iconst (pc' := 12) q270 d270_11 rfl, w_invv2 (ci := 11) (pc' := 15) q270 d270_12 rfl n270_133 k270_133_11 m219.1, w_if_eq (tg := 26) (pc' := 18) q270 d270_15 (by decide) rfl, w_aload_n0 (pc' := 19) q270 d270_18 rfl, w_getV (pc' := 22) q270 d270_19 rfl f270_41, w_iload_n1 (pc' := 23) q270 d270_22 rfl, w_invs2 (pc' := 26) q270 d270_23 rfl (by decide +kernel) k270_243_99 m229.1, w_aload_n0 (pc' := 27) q270 d270_26 rfl, w_aload_n0 (pc' := 28) q270 d270_27 rfl, w_getV (pc' := 31) q270 d270_28 rfl f270_41, w_invs1 (pc' := 34) q270 d270_31 rfl (by decide +kernel) k270_267_99 m298.1, w_invv1 (ci := 11) (pc' := 37) q270 d270_34 rfl n270_271 k270_271_11 m299.1, w_ireturn q270 d270_37 m270.2.1, gs_off, gs_off0, gs_0off, gs_2, xN_0, xN_2, xN_3, xN_6, xN_7, xN_8, xN_9, xN_10, xN_11, xN_12, xN_13, xN_14, xN_15, xN_16, xN_17, xN_18, xN_19, xN_20, xN_21, xN_22, xN_23, xN_24, xN_25, xN_26, xN_27, xN_28, xN_29, xN_30, xN_31, xN_32, xN_33, xN_34, xN_35, xN_36, xN_37, xN_38, xN_39, xN_40, xN_41, xN_42, xN_43, xN_44, xN_45, xN_46, xN_47, xN_48, xN_49, xN_50, xN_51, xN_52, xN_53, xN_54, xN_55, ti_0, ti_1, ti_2, ti_3, ti_4, ti_5, ti_6, ti_7, ti_8, ti_9, ti_10, ti_16, ti_19, ti_20, ti_29, ti_30, ti_31, ti_32, ti_35, ti_36, ti_38, ti_39, ti_40, ti_41, ti_42, ti_43, ti_44, ti_45, ti_46, ti_47, ti_48, ti_49, ti_50, ti_51, ti_52, ti_53, ti_54, ti_55, ti_56, ti_57, ti_58, ti_59, ti_60, ti_61, ti_62, ti_63, ti_64, ti_65, ti_74, ti_77, ti_126, ti_200, ti_201, ti_202, ti_203, ti_204, ti_205, ti_210, ti_255, ti_256, ti_400, ti_512, ti_600, ti_601, ti_602, ti_1000, ti_1023, ti_1024, ti_2000, ti_10000, ti_12602, ti_999999, ti_m999999, ti_m1, ti_2000000, ti_3000000, xN_1, xN_4, xN_5, xN_60, xN_61, xN_64, xN_200, xN_800, xN_12000, xN_12602, eq_self, and_self, and_true, true_and, if_true, if_false, decide_true, Nat.reduceLeDiff, xc2_int, xc2_ref, xc2_ra, xc2_null, xc2_long, xc2_none, xisaT_ref, xisaT_ra, xisaT_null, xc1T_int, xc1T_ref, xc1T_ra, xc1T_null, xsum_nil, xsum_int, xsum_ref, xsum_ra, xsum_long, xsum_double, xsum_null, xfl_nil, xfl_int, xfl_ref, xfl_ra, xfl_null, xfl_long, xfl_double, List.length_cons, List.length_nil, s0, k1, k2, hk2, hsz, hct, xfk, xfv, xak, xan, xcls, xsv', List.getElem?_cons_zero, List.getElem?_cons_succ, List.getD_cons_zero, List.getD_cons_succ, Option.getD_some, Option.isSome_some, if_true, if_pos, xcont, Option.toList_none, Option.toList_some, List.nil_append, List.cons_append]
/-- all was changed -/
theorem m_changedAll {m : Nat} {T : Int → List Int} (hS : MdS S m) (hC : CeM g m T) (hR : MoR g m) (hA : 0 ≤ g (m + 1) 601 ∧ g (m + 1) 601 ≤ 900000) :
    ∃ g', FxD g g' m ∧ KeC g g' m ∧ g' (m + 1) 600 = cnA (g (m + 1)) ∧ g' (m + 1) 601 = g (m + 1) 601 + cnA (g (m + 1)) ∧ MoI g' m T ∧ ∀ Q, Cw X (d + 7) 303 [.ref m] (hp S g) Q = Q (.inl none) (hp S g') := by
  have s0 := hS.1
  obtain ⟨g1, f1, i1, k1⟩ := m_computesAll (X := X) (d := d) hS hC hR
  have e1 : g1 (m + 1) = g (m + 1) := Fx_at f1 (by decide) (by decide)
  have hG1 : GrS g1 m := rg_off e1 hC.1
  have hok := m_ofKind (X := X) (d := d + 5) (k := 2) hS hG1 (by decide)
  have ec : sumf (ind (fun c => decide (g1 (m + 1) c = 2))) 0 200 = cnA (g (m + 1)) := by rw [e1]; rfl
  rw [ec] at hok
  have hcr : 0 ≤ cnA (g (m + 1)) ∧ cnA (g (m + 1)) ≤ 200 := ind_rng _ 200 0
  have hct := m_counts (X := X) (d := d + 6) (g := g1) (z := cnA (g (m + 1))) hS
  refine ⟨gCt g1 m (cnA (g (m + 1))), Fx_trans (Fx_mono f1 (by decide) (by decide)) gCt_Fx, fun i a b => (gCt_ke i a b).trans (by rw [e1]), gCt_600, by rw [gCt_601, e1], MoI_cnt gCt_ke (gCt_G hG1 hcr (by rw [e1]; exact hA)) (fun j _ => gCt_row (by omega)) (by rw [gCt_row (by omega)]) i1, fun Q => ?_⟩
  rw [e303]
  simp (config := { decide := true }) only [w_aload_n0 (pc' := 1) q303 d303_0 rfl, w_invv0 (ci := 11) (pc' := 4) q303 d303_1 rfl n303_261 k303_261_11 m271.1, w_aload_n0 (pc' := 5) q303 d303_4 rfl, w_aload_n0 (pc' := 6) q303 d303_5 rfl, w_iconst (pc' := 7) q303 d303_6 rfl, w_invv1 (ci := 11) (pc' := 10) q303 d303_7 rfl n303_273 k303_273_11 m304.1, w_invv1 (ci := 11) (pc' := 13) q303 d303_10 rfl n303_271 k303_271_11 m299.1, w_istore_n1 (pc' := 14) q303 d303_13 rfl, w_return q303 d303_14 m303.2.1, gs_off, gs_off0, gs_0off, gs_2, xN_0, xN_2, xN_3, xN_6, xN_7, xN_8, xN_9, xN_10, xN_11, xN_12, xN_13, xN_14, xN_15, xN_16, xN_17, xN_18, xN_19, xN_20, xN_21, xN_22, xN_23, xN_24, xN_25, xN_26, xN_27, xN_28, xN_29, xN_30, xN_31, xN_32, xN_33, xN_34, xN_35, xN_36, xN_37, xN_38, xN_39, xN_40, xN_41, xN_42, xN_43, xN_44, xN_45, xN_46, xN_47, xN_48, xN_49, xN_50, xN_51, xN_52, xN_53, xN_54, xN_55, ti_0, ti_1, ti_2, ti_3, ti_4, ti_5, ti_6, ti_7, ti_8, ti_9, ti_10, ti_16, ti_19, ti_20, ti_29, ti_30, ti_31, ti_32, ti_35, ti_36, ti_38, ti_39, ti_40, ti_41, ti_42, ti_43, ti_44, ti_45, ti_46, ti_47, ti_48, ti_49, ti_50, ti_51, ti_52, ti_53, ti_54, ti_55, ti_56, ti_57, ti_58, ti_59, ti_60, ti_61, ti_62, ti_63, ti_64, ti_65, ti_74, ti_77, ti_126, ti_200, ti_201, ti_202, ti_203, ti_204, ti_205, ti_210, ti_255, ti_256, ti_400, ti_512, ti_600, ti_601, ti_602, ti_1000, ti_1023, ti_1024, ti_2000, ti_10000, ti_12602, ti_999999, ti_m999999, ti_m1, ti_2000000, ti_3000000, xN_1, xN_4, xN_5, xN_60, xN_61, xN_64, xN_200, xN_800, xN_12000, xN_12602, eq_self, and_self, and_true, true_and, if_true, if_false, decide_true, Nat.reduceLeDiff, xc2_int, xc2_ref, xc2_ra, xc2_null, xc2_long, xc2_none, xisaT_ref, xisaT_ra, xisaT_null, xc1T_int, xc1T_ref, xc1T_ra, xc1T_null, xsum_nil, xsum_int, xsum_ref, xsum_ra, xsum_long, xsum_double, xsum_null, xfl_nil, xfl_int, xfl_ref, xfl_ra, xfl_null, xfl_long, xfl_double, List.length_cons, List.length_nil, s0, k1, hok, hct, xfk, xfv, xak, xan, xcls, xsv', List.getElem?_cons_zero, List.getElem?_cons_succ, List.getD_cons_zero, List.getD_cons_succ, Option.getD_some, Option.isSome_some, if_true, if_pos, xcont, Option.toList_none, Option.toList_some, List.nil_append, List.cons_append]
end
