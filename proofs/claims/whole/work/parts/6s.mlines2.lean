/-! The model: lines are inserted and deleted; back, keep, undo -/
section
variable {X : xX} {S : xLm} {g : xGm} {d m : Nat} {w : xH} {Q : xO → xH → Prop} {P : Pd} {A : Sh} {sn : Option Sh} {H : List Sh}
theorem gr_self (g : xGm) (h : Nat) : gr g h (g h) = g := by
  funext k
  unfold gr
  split
  · next e => rw [e]
  · rfl
theorem gr_gr (g : xGm) (h : Nat) (f f' : Int → Int) : gr (gr g h f) h f' = gr g h f' := by
  funext k
  unfold gr
  split
  · rfl
  · rfl
theorem RwA_em {r : Int → Int} {s : Int → Int} {c : Int} (hc : 0 ≤ c ∧ c < 200) (h : RwA r A s) : RwA (emR r c) A (fun x => if x = c then -1 else s x) := by
  refine ⟨⟨?_, ?_⟩, fun x x1 x2 => ?_⟩
  · rw [emR_off (by unfold celI; omega)]; exact h.1.1
  · rw [emR_off (by unfold celI; omega)]; exact h.1.2
  · dsimp only
    by_cases e1 : x = c
    · rw [if_pos e1, e1]
      exact CeA_em (by decide)
    · rw [if_neg e1]
      exact CeA_congr x1 x2 (fun i hi => emR_off (celI_ne x1 x2 hc.1 hc.2 e1 hi)) (h.2 x x1 x2)
theorem l_emLine {b ln : Int} (hS : MdS S m) (hb : b = 0 ∨ b = 1) (hl : 0 ≤ ln ∧ ln ≤ lnL b) : ∀ (n : Nat) (c : Int) (g : xGm), c + n = 200 → 0 ≤ c → g m 48 = b → g m 50 = ln → rgR (g (m + 1)) → RwA (g (m + 1)) A (fun x => if x < c ∧ lnO b x = ln then -1 else x) →
    ∃ r', rgR r' ∧ RwA r' A (fun x => if x < 200 ∧ lnO b x = ln then -1 else x) ∧ ∀ Q, Wx X (d + 2) 327 2 [some (.ref m), some (.int (iI c))] [] (hp S g) Q = Q (.inl none) (hp S (gr g (m + 1) r')) := by
  have s0 := hS.1
  have hL := (lnO_rng (b := b) (c := 0) (by decide) (by decide)).2.2
  intro n
  induction n with
  | zero =>
    intro c g hn hc h1 h2 hG hR
    obtain rfl : c = 200 := by omega
    refine ⟨g (m + 1), hG, hR, fun Q => ?_⟩
    rw [gr_self, w_iload_n1 (pc' := 3) q327 d327_2 rfl]
    simp (config := { decide := true }) only [w_sipush (z' := (200)) (pc' := 6) q327 d327_3 rfl (by decide), w_icmp_ge (tg := 32) (pc' := 9) q327 d327_6 (by decide) rfl, w_return q327 d327_32 m327.2.1, gs_off, gs_off0, gs_0off, gs_2, xN_0, xN_2, xN_3, xN_6, xN_7, xN_8, xN_9, xN_10, xN_11, xN_12, xN_13, xN_14, xN_15, xN_16, xN_17, xN_18, xN_19, xN_20, xN_21, xN_22, xN_23, xN_24, xN_25, xN_26, xN_27, xN_28, xN_29, xN_30, xN_31, xN_32, xN_33, xN_34, xN_35, xN_36, xN_37, xN_38, xN_39, xN_40, xN_41, xN_42, xN_43, xN_44, xN_45, xN_46, xN_47, xN_48, xN_49, xN_50, xN_51, xN_52, xN_53, xN_54, xN_55, ti_0, ti_1, ti_2, ti_3, ti_4, ti_5, ti_6, ti_7, ti_8, ti_9, ti_10, ti_16, ti_19, ti_20, ti_29, ti_30, ti_31, ti_32, ti_35, ti_36, ti_38, ti_39, ti_40, ti_41, ti_42, ti_43, ti_44, ti_45, ti_46, ti_47, ti_48, ti_49, ti_50, ti_51, ti_52, ti_53, ti_54, ti_55, ti_56, ti_57, ti_58, ti_59, ti_60, ti_61, ti_62, ti_63, ti_64, ti_65, ti_74, ti_77, ti_126, ti_200, ti_201, ti_202, ti_203, ti_204, ti_205, ti_210, ti_255, ti_256, ti_400, ti_512, ti_600, ti_601, ti_602, ti_1000, ti_1023, ti_1024, ti_2000, ti_10000, ti_12602, ti_999999, ti_m999999, ti_m1, ti_2000000, ti_3000000, xN_1, xN_4, xN_5, xN_60, xN_61, xN_64, xN_200, xN_800, xN_12000, xN_12602, eq_self, and_self, and_true, true_and, if_true, if_false, decide_true, Nat.reduceLeDiff, xc2_int, xc2_ref, xc2_ra, xc2_null, xc2_long, xc2_none, xisaT_ref, xisaT_ra, xisaT_null, xc1T_int, xc1T_ref, xc1T_ra, xc1T_null, xsum_nil, xsum_int, xsum_ref, xsum_ra, xsum_long, xsum_double, xsum_null, xfl_nil, xfl_int, xfl_ref, xfl_ra, xfl_null, xfl_long, xfl_double, List.length_cons, List.length_nil, xfk, xfv, xak, xan, xcls, xsv', List.getElem?_cons_zero, List.getElem?_cons_succ, List.getD_cons_zero, List.getD_cons_succ, Option.getD_some, Option.isSome_some, if_true, if_pos, xcont, Option.toList_none, Option.toList_some, List.nil_append, List.cons_append]
  | succ n ih =>
    intro c g hn hc h1 h2 hG hR
    have tc : ti c = c := ti_eq (by omega) (by omega)
    have hlt : ¬ 200 ≤ c := by omega
    have hcc : 0 ≤ c ∧ c < 200 := by omega
    have hal := m_along (X := X) (d := d + 1) (g := g) (c := c) hS h1 hb hcc
    have hv := lnO_rng (b := b) hcc.1 hcc.2
    have tv : ti (lnO b c) = lnO b c := ti_eq (by omega) (by omega)
    have tln : ti ln = ln := ti_eq (by omega) (by omega)
    by_cases e : lnO b c = ln
    · have hem := m_empties (X := X) (d := d) (g := g) hS hcc
      have hR2 : RwA (emR (g (m + 1)) c) A (fun x => if x < c + 1 ∧ lnO b x = ln then -1 else x) := by
        refine RwA_src (RwA_em hcc hR) (fun x x1 x2 => .inl ?_)
        by_cases e1 : x = c
        · rw [if_pos e1, if_pos ⟨by omega, by rw [e1]; exact e⟩]
        · rw [if_neg e1]
          by_cases e2 : x < c ∧ lnO b x = ln
          · rw [if_pos e2, if_pos ⟨by omega, e2.2⟩]
          · have e3 : ¬ (x < c + 1 ∧ lnO b x = ln) := fun h => e2 ⟨by omega, h.2⟩
            rw [if_neg e2, if_neg e3]
      obtain ⟨r', i1, i2, i3⟩ := ih (c + 1) (gr g (m + 1) (emR (g (m + 1)) c)) (by omega) (by omega) (by rw [gr_row _ _ (by omega)]; exact h1) (by rw [gr_row _ _ (by omega)]; exact h2) (by rw [gr_hit]; exact emR_rg hG) (by rw [gr_hit]; exact hR2)
      rw [gr_gr] at i3
      refine ⟨r', i1, i2, fun Q => ?_⟩
      rw [← i3 Q, w_iload_n1 (pc' := 3) q327 d327_2 rfl]
      simp (config := { decide := true }) only [w_sipush (z' := (200)) (pc' := 6) q327 d327_3 rfl (by decide), w_icmp_ge (tg := 32) (pc' := 9) q327 d327_6 (by decide) rfl, w_aload_n0 (pc' := 10) q327 d327_9 rfl, w_iload_n1 (pc' := 11) q327 d327_10 rfl, w_invv1 (ci := 11) (pc' := 14) q327 d327_11 rfl n327_425 k327_425_11 m312.1, w_aload_n0 (pc' := 15) q327 d327_14 rfl, w_getI (pc' := 18) q327 d327_15 rfl f327_431, w_icmp_ne (tg := 26) (pc' := 21) q327 d327_18 (by decide) rfl, w_aload_n0 (pc' := 22) q327 d327_21 rfl, w_iload_n1 (pc' := 23) q327 d327_22 rfl, w_invv1 (ci := 11) (pc' := 26) q327 d327_23 rfl n327_379 k327_379_11 m268.1, w_iinc1 (z := (1)) (pc' := 29) q327 d327_26 rfl, w_goto (tg := 2) q327 d327_29 (by decide), gs_off, gs_off0, gs_0off, gs_2, xN_0, xN_2, xN_3, xN_6, xN_7, xN_8, xN_9, xN_10, xN_11, xN_12, xN_13, xN_14, xN_15, xN_16, xN_17, xN_18, xN_19, xN_20, xN_21, xN_22, xN_23, xN_24, xN_25, xN_26, xN_27, xN_28, xN_29, xN_30, xN_31, xN_32, xN_33, xN_34, xN_35, xN_36, xN_37, xN_38, xN_39, xN_40, xN_41, xN_42, xN_43, xN_44, xN_45, xN_46, xN_47, xN_48, xN_49, xN_50, xN_51, xN_52, xN_53, xN_54, xN_55, ti_0, ti_1, ti_2, ti_3, ti_4, ti_5, ti_6, ti_7, ti_8, ti_9, ti_10, ti_16, ti_19, ti_20, ti_29, ti_30, ti_31, ti_32, ti_35, ti_36, ti_38, ti_39, ti_40, ti_41, ti_42, ti_43, ti_44, ti_45, ti_46, ti_47, ti_48, ti_49, ti_50, ti_51, ti_52, ti_53, ti_54, ti_55, ti_56, ti_57, ti_58, ti_59, ti_60, ti_61, ti_62, ti_63, ti_64, ti_65, ti_74, ti_77, ti_126, ti_200, ti_201, ti_202, ti_203, ti_204, ti_205, ti_210, ti_255, ti_256, ti_400, ti_512, ti_600, ti_601, ti_602, ti_1000, ti_1023, ti_1024, ti_2000, ti_10000, ti_12602, ti_999999, ti_m999999, ti_m1, ti_2000000, ti_3000000, xN_1, xN_4, xN_5, xN_60, xN_61, xN_64, xN_200, xN_800, xN_12000, xN_12602, eq_self, and_self, and_true, true_and, if_true, if_false, decide_true, Nat.reduceLeDiff, xc2_int, xc2_ref, xc2_ra, xc2_null, xc2_long, xc2_none, xisaT_ref, xisaT_ra, xisaT_null, xc1T_int, xc1T_ref, xc1T_ra, xc1T_null, xsum_nil, xsum_int, xsum_ref, xsum_ra, xsum_long, xsum_double, xsum_null, xfl_nil, xfl_int, xfl_ref, xfl_ra, xfl_null, xfl_long, xfl_double, List.length_cons, List.length_nil, s0, tc, hlt, hal, h2, tv, tln, e, not_true_eq_false, hem, xfk, xfv, xak, xan, xcls, xsv', List.getElem?_cons_zero, List.getElem?_cons_succ, List.getD_cons_zero, List.getD_cons_succ, Option.getD_some, Option.isSome_some, if_true, if_pos, xcont, Option.toList_none, Option.toList_some, List.nil_append, List.cons_append]
    · have hR2 : RwA (g (m + 1)) A (fun x => if x < c + 1 ∧ lnO b x = ln then -1 else x) := by
        refine RwA_src hR (fun x x1 x2 => .inl ?_)
        by_cases e2 : x < c ∧ lnO b x = ln
        · rw [if_pos e2, if_pos ⟨by omega, e2.2⟩]
        · have e3 : ¬ (x < c + 1 ∧ lnO b x = ln) := fun h => by
            by_cases e4 : x = c
            · subst e4; exact e h.2
            · exact e2 ⟨by omega, h.2⟩
          rw [if_neg e2, if_neg e3]
      obtain ⟨r', i1, i2, i3⟩ := ih (c + 1) g (by omega) (by omega) h1 h2 hG hR2
      refine ⟨r', i1, i2, fun Q => ?_⟩
      rw [← i3 Q, w_iload_n1 (pc' := 3) q327 d327_2 rfl]
      simp (config := { decide := true }) only [w_sipush (z' := (200)) (pc' := 6) q327 d327_3 rfl (by decide), w_icmp_ge (tg := 32) (pc' := 9) q327 d327_6 (by decide) rfl, w_aload_n0 (pc' := 10) q327 d327_9 rfl, w_iload_n1 (pc' := 11) q327 d327_10 rfl, w_invv1 (ci := 11) (pc' := 14) q327 d327_11 rfl n327_425 k327_425_11 m312.1, w_aload_n0 (pc' := 15) q327 d327_14 rfl, w_getI (pc' := 18) q327 d327_15 rfl f327_431, w_icmp_ne (tg := 26) (pc' := 21) q327 d327_18 (by decide) rfl, w_aload_n0 (pc' := 22) q327 d327_21 rfl, w_iload_n1 (pc' := 23) q327 d327_22 rfl, w_invv1 (ci := 11) (pc' := 26) q327 d327_23 rfl n327_379 k327_379_11 m268.1, w_iinc1 (z := (1)) (pc' := 29) q327 d327_26 rfl, w_goto (tg := 2) q327 d327_29 (by decide), gs_off, gs_off0, gs_0off, gs_2, xN_0, xN_2, xN_3, xN_6, xN_7, xN_8, xN_9, xN_10, xN_11, xN_12, xN_13, xN_14, xN_15, xN_16, xN_17, xN_18, xN_19, xN_20, xN_21, xN_22, xN_23, xN_24, xN_25, xN_26, xN_27, xN_28, xN_29, xN_30, xN_31, xN_32, xN_33, xN_34, xN_35, xN_36, xN_37, xN_38, xN_39, xN_40, xN_41, xN_42, xN_43, xN_44, xN_45, xN_46, xN_47, xN_48, xN_49, xN_50, xN_51, xN_52, xN_53, xN_54, xN_55, ti_0, ti_1, ti_2, ti_3, ti_4, ti_5, ti_6, ti_7, ti_8, ti_9, ti_10, ti_16, ti_19, ti_20, ti_29, ti_30, ti_31, ti_32, ti_35, ti_36, ti_38, ti_39, ti_40, ti_41, ti_42, ti_43, ti_44, ti_45, ti_46, ti_47, ti_48, ti_49, ti_50, ti_51, ti_52, ti_53, ti_54, ti_55, ti_56, ti_57, ti_58, ti_59, ti_60, ti_61, ti_62, ti_63, ti_64, ti_65, ti_74, ti_77, ti_126, ti_200, ti_201, ti_202, ti_203, ti_204, ti_205, ti_210, ti_255, ti_256, ti_400, ti_512, ti_600, ti_601, ti_602, ti_1000, ti_1023, ti_1024, ti_2000, ti_10000, ti_12602, ti_999999, ti_m999999, ti_m1, ti_2000000, ti_3000000, xN_1, xN_4, xN_5, xN_60, xN_61, xN_64, xN_200, xN_800, xN_12000, xN_12602, eq_self, and_self, and_true, true_and, if_true, if_false, decide_true, Nat.reduceLeDiff, xc2_int, xc2_ref, xc2_ra, xc2_null, xc2_long, xc2_none, xisaT_ref, xisaT_ra, xisaT_null, xc1T_int, xc1T_ref, xc1T_ra, xc1T_null, xsum_nil, xsum_int, xsum_ref, xsum_ra, xsum_long, xsum_double, xsum_null, xfl_nil, xfl_int, xfl_ref, xfl_ra, xfl_null, xfl_long, xfl_double, List.length_cons, List.length_nil, s0, tc, hlt, hal, h2, tv, tln, e, not_false_eq_true, xfk, xfv, xak, xan, xcls, xsv', List.getElem?_cons_zero, List.getElem?_cons_succ, List.getD_cons_zero, List.getD_cons_succ, Option.getD_some, Option.isSome_some, if_true, if_pos, xcont, Option.toList_none, Option.toList_some, List.nil_append, List.cons_append]
theorem m_emptiesLine {b ln : Int} (hS : MdS S m) (hb : b = 0 ∨ b = 1) (hl : 0 ≤ ln ∧ ln ≤ lnL b) (h1 : g m 48 = b) (h2 : g m 50 = ln) (hG : rgR (g (m + 1))) (hM : ShM (g (m + 1)) A) :
    ∃ r', rgR r' ∧ RwA r' A (deS b ln 0) ∧ ∀ Q, Cw X (d + 2) 327 [.ref m] (hp S g) Q = Q (.inl none) (hp S (gr g (m + 1) r')) := by
  have hT := lnT_pos (b := b)
  obtain ⟨r', i1, i2, i3⟩ := l_emLine (X := X) (d := d) (A := A) hS hb hl 200 0 g (by decide) (by decide) h1 h2 hG (RwA_src (RwA_id hM) (fun x x1 x2 => .inl (by rw [if_neg (by omega)])))
  refine ⟨r', i1, RwA_src i2 (fun x x1 x2 => .inl ?_), fun Q => ?_⟩
  · unfold deS
    rw [if_neg (show ¬ (ln ≤ lnO b x ∧ lnO b x < lnL b ∧ x + lnT b < 0) by omega)]
    by_cases e : lnO b x = ln
    · rw [if_pos ⟨by omega, e⟩, if_pos (.inr e)]
    · rw [if_neg (fun h => e h.2), if_neg (fun h => h.elim (fun h => by omega) e)]
  · rw [← i3 Q, e327]
    simp (config := { decide := true }) only [w_iconst (pc' := 1) q327 d327_0 rfl, w_istore_n1 (pc' := 2) q327 d327_1 rfl, gs_off, gs_off0, gs_0off, gs_2, xN_0, xN_2, xN_3, xN_6, xN_7, xN_8, xN_9, xN_10, xN_11, xN_12, xN_13, xN_14, xN_15, xN_16, xN_17, xN_18, xN_19, xN_20, xN_21, xN_22, xN_23, xN_24, xN_25, xN_26, xN_27, xN_28, xN_29, xN_30, xN_31, xN_32, xN_33, xN_34, xN_35, xN_36, xN_37, xN_38, xN_39, xN_40, xN_41, xN_42, xN_43, xN_44, xN_45, xN_46, xN_47, xN_48, xN_49, xN_50, xN_51, xN_52, xN_53, xN_54, xN_55, ti_0, ti_1, ti_2, ti_3, ti_4, ti_5, ti_6, ti_7, ti_8, ti_9, ti_10, ti_16, ti_19, ti_20, ti_29, ti_30, ti_31, ti_32, ti_35, ti_36, ti_38, ti_39, ti_40, ti_41, ti_42, ti_43, ti_44, ti_45, ti_46, ti_47, ti_48, ti_49, ti_50, ti_51, ti_52, ti_53, ti_54, ti_55, ti_56, ti_57, ti_58, ti_59, ti_60, ti_61, ti_62, ti_63, ti_64, ti_65, ti_74, ti_77, ti_126, ti_200, ti_201, ti_202, ti_203, ti_204, ti_205, ti_210, ti_255, ti_256, ti_400, ti_512, ti_600, ti_601, ti_602, ti_1000, ti_1023, ti_1024, ti_2000, ti_10000, ti_12602, ti_999999, ti_m999999, ti_m1, ti_2000000, ti_3000000, xN_1, xN_4, xN_5, xN_60, xN_61, xN_64, xN_200, xN_800, xN_12000, xN_12602, eq_self, and_self, and_true, true_and, if_true, if_false, decide_true, Nat.reduceLeDiff, xc2_int, xc2_ref, xc2_ra, xc2_null, xc2_long, xc2_none, xisaT_ref, xisaT_ra, xisaT_null, xc1T_int, xc1T_ref, xc1T_ra, xc1T_null, xsum_nil, xsum_int, xsum_ref, xsum_ra, xsum_long, xsum_double, xsum_null, xfl_nil, xfl_int, xfl_ref, xfl_ra, xfl_null, xfl_long, xfl_double, List.length_cons, List.length_nil, xfk, xfv, xak, xan, xcls, xsv', List.getElem?_cons_zero, List.getElem?_cons_succ, List.getD_cons_zero, List.getD_cons_succ, Option.getD_some, Option.isSome_some, if_true, if_pos, xcont, Option.toList_none, Option.toList_some, List.nil_append, List.cons_append]
theorem m_shiftsIn {b ln : Int} (hS : MdS S m) (hb : b = 0 ∨ b = 1) (hl : 0 ≤ ln ∧ ln ≤ lnL b) (hL : LnC g m b ln 1) (hG : rgR (g (m + 1))) (hM : ShM (g (m + 1)) A) (hlast : ∀ c, 0 ≤ c → c < 200 → lnO b c = lnL b → A.1 c = 0) :
    ∃ r', rgR r' ∧ ShM r' (srA A (lnF b ln 1)) ∧ ∀ Q, Cw X (d + 3) 324 [.ref m] (hp S g) Q = Q (.inl none) (hp S (gr g (m + 1) r')) := by
  have hT := lnT_pos (b := b)
  obtain ⟨r', i1, i2, i3⟩ := l_inShift (X := X) (d := d) (A := A) hS hb hl 200 0 g none none (by decide) (by decide) hL hG (RwA_src (RwA_id hM) (fun x x1 x2 => .inl (by
    unfold inS
    rw [if_neg (by omega), if_neg (by omega)])))
  refine ⟨r', i1, RwA_sh (RwA_src i2 (fun x x1 x2 => ?_)), fun Q => ?_⟩
  · have hv := lnO_rng (b := b) x1 x2
    unfold inS lnF
    by_cases c1 : lnO b x < ln
    · rw [if_neg (show ¬ (ln < lnO b x ∧ 0 ≤ x - lnT b) by omega), if_neg (show ¬ (0 ≤ x ∧ ln ≤ lnO b x ∧ lnO b x < lnL b) by omega), if_pos c1]
      exact .inl rfl
    · rw [if_neg c1, if_neg (show ¬ (1 : Int) = 0 by decide)]
      by_cases c2 : lnO b x = ln
      · rw [if_neg (show ¬ (ln < lnO b x ∧ 0 ≤ x - lnT b) by omega), if_pos c2]
        by_cases c3 : lnO b x < lnL b
        · rw [if_pos ⟨x1, by omega, c3⟩]; exact .inl rfl
        · rw [if_neg (fun h => c3 h.2.2)]
          exact .inr (.inr ⟨by decide, x1, hlast x x1 x2 (by omega)⟩)
      · obtain ⟨-, d2, -⟩ := ln_dn (b := b) hb x1 x2 (by omega)
        rw [if_pos ⟨by omega, d2⟩, if_neg c2]
        exact .inl rfl
  · rw [← i3 Q, e324]
    simp (config := { decide := true }) only [w_iconst (pc' := 1) q324 d324_0 rfl, w_istore_n1 (pc' := 2) q324 d324_1 rfl, gs_off, gs_off0, gs_0off, gs_2, xN_0, xN_2, xN_3, xN_6, xN_7, xN_8, xN_9, xN_10, xN_11, xN_12, xN_13, xN_14, xN_15, xN_16, xN_17, xN_18, xN_19, xN_20, xN_21, xN_22, xN_23, xN_24, xN_25, xN_26, xN_27, xN_28, xN_29, xN_30, xN_31, xN_32, xN_33, xN_34, xN_35, xN_36, xN_37, xN_38, xN_39, xN_40, xN_41, xN_42, xN_43, xN_44, xN_45, xN_46, xN_47, xN_48, xN_49, xN_50, xN_51, xN_52, xN_53, xN_54, xN_55, ti_0, ti_1, ti_2, ti_3, ti_4, ti_5, ti_6, ti_7, ti_8, ti_9, ti_10, ti_16, ti_19, ti_20, ti_29, ti_30, ti_31, ti_32, ti_35, ti_36, ti_38, ti_39, ti_40, ti_41, ti_42, ti_43, ti_44, ti_45, ti_46, ti_47, ti_48, ti_49, ti_50, ti_51, ti_52, ti_53, ti_54, ti_55, ti_56, ti_57, ti_58, ti_59, ti_60, ti_61, ti_62, ti_63, ti_64, ti_65, ti_74, ti_77, ti_126, ti_200, ti_201, ti_202, ti_203, ti_204, ti_205, ti_210, ti_255, ti_256, ti_400, ti_512, ti_600, ti_601, ti_602, ti_1000, ti_1023, ti_1024, ti_2000, ti_10000, ti_12602, ti_999999, ti_m999999, ti_m1, ti_2000000, ti_3000000, xN_1, xN_4, xN_5, xN_60, xN_61, xN_64, xN_200, xN_800, xN_12000, xN_12602, eq_self, and_self, and_true, true_and, if_true, if_false, decide_true, Nat.reduceLeDiff, xc2_int, xc2_ref, xc2_ra, xc2_null, xc2_long, xc2_none, xisaT_ref, xisaT_ra, xisaT_null, xc1T_int, xc1T_ref, xc1T_ra, xc1T_null, xsum_nil, xsum_int, xsum_ref, xsum_ra, xsum_long, xsum_double, xsum_null, xfl_nil, xfl_int, xfl_ref, xfl_ra, xfl_null, xfl_long, xfl_double, List.length_cons, List.length_nil, xfk, xfv, xak, xan, xcls, xsv', List.getElem?_cons_zero, List.getElem?_cons_succ, List.getD_cons_zero, List.getD_cons_succ, Option.getD_some, Option.isSome_some, if_true, if_pos, xcont, Option.toList_none, Option.toList_some, List.nil_append, List.cons_append]
theorem m_shiftsDe {b ln : Int} (hS : MdS S m) (hb : b = 0 ∨ b = 1) (hl : 0 ≤ ln ∧ ln ≤ lnL b) (hL : LnC g m b ln 0) (hG : rgR (g (m + 1))) (hR : RwA (g (m + 1)) A (deS b ln 0)) :
    ∃ r', rgR r' ∧ ShM r' (srA A (lnF b ln 0)) ∧ ∀ Q, Cw X (d + 3) 324 [.ref m] (hp S g) Q = Q (.inl none) (hp S (gr g (m + 1) r')) := by
  have hT := lnT_pos (b := b)
  obtain ⟨r', i1, i2, i3⟩ := l_deShift (X := X) (d := d) (A := A) hS hb hl 200 0 g none none (by decide) (by decide) hL hG hR
  refine ⟨r', i1, RwA_sh (RwA_src i2 (fun x x1 x2 => .inl ?_)), fun Q => ?_⟩
  · have hv := lnO_rng (b := b) x1 x2
    unfold deS lnF
    by_cases c1 : lnO b x < ln
    · rw [if_neg (show ¬ (ln ≤ lnO b x ∧ lnO b x < lnL b ∧ x + lnT b < 200) by omega), if_neg (show ¬ ((x < 200 ∧ ln < lnO b x) ∨ lnO b x = ln) by omega), if_pos c1]
    · rw [if_neg c1, if_pos (show (0 : Int) = 0 from rfl)]
      by_cases c2 : lnO b x = lnL b
      · rw [if_neg (show ¬ (ln ≤ lnO b x ∧ lnO b x < lnL b ∧ x + lnT b < 200) by omega), if_pos (show (x < 200 ∧ ln < lnO b x) ∨ lnO b x = ln by omega), if_pos c2]
      · obtain ⟨-, d2, -⟩ := ln_up (b := b) hb x1 x2 (by omega)
        rw [if_pos ⟨by omega, by omega, d2⟩, if_neg c2]
  · rw [← i3 Q, e324]
    simp (config := { decide := true }) only [w_iconst (pc' := 1) q324 d324_0 rfl, w_istore_n1 (pc' := 2) q324 d324_1 rfl, gs_off, gs_off0, gs_0off, gs_2, xN_0, xN_2, xN_3, xN_6, xN_7, xN_8, xN_9, xN_10, xN_11, xN_12, xN_13, xN_14, xN_15, xN_16, xN_17, xN_18, xN_19, xN_20, xN_21, xN_22, xN_23, xN_24, xN_25, xN_26, xN_27, xN_28, xN_29, xN_30, xN_31, xN_32, xN_33, xN_34, xN_35, xN_36, xN_37, xN_38, xN_39, xN_40, xN_41, xN_42, xN_43, xN_44, xN_45, xN_46, xN_47, xN_48, xN_49, xN_50, xN_51, xN_52, xN_53, xN_54, xN_55, ti_0, ti_1, ti_2, ti_3, ti_4, ti_5, ti_6, ti_7, ti_8, ti_9, ti_10, ti_16, ti_19, ti_20, ti_29, ti_30, ti_31, ti_32, ti_35, ti_36, ti_38, ti_39, ti_40, ti_41, ti_42, ti_43, ti_44, ti_45, ti_46, ti_47, ti_48, ti_49, ti_50, ti_51, ti_52, ti_53, ti_54, ti_55, ti_56, ti_57, ti_58, ti_59, ti_60, ti_61, ti_62, ti_63, ti_64, ti_65, ti_74, ti_77, ti_126, ti_200, ti_201, ti_202, ti_203, ti_204, ti_205, ti_210, ti_255, ti_256, ti_400, ti_512, ti_600, ti_601, ti_602, ti_1000, ti_1023, ti_1024, ti_2000, ti_10000, ti_12602, ti_999999, ti_m999999, ti_m1, ti_2000000, ti_3000000, xN_1, xN_4, xN_5, xN_60, xN_61, xN_64, xN_200, xN_800, xN_12000, xN_12602, eq_self, and_self, and_true, true_and, if_true, if_false, decide_true, Nat.reduceLeDiff, xc2_int, xc2_ref, xc2_ra, xc2_null, xc2_long, xc2_none, xisaT_ref, xisaT_ra, xisaT_null, xc1T_int, xc1T_ref, xc1T_ra, xc1T_null, xsum_nil, xsum_int, xsum_ref, xsum_ra, xsum_long, xsum_double, xsum_null, xfl_nil, xfl_int, xfl_ref, xfl_ra, xfl_null, xfl_long, xfl_double, List.length_cons, List.length_nil, xfk, xfv, xak, xan, xcls, xsv', List.getElem?_cons_zero, List.getElem?_cons_succ, List.getD_cons_zero, List.getD_cons_succ, Option.getD_some, Option.isSome_some, if_true, if_pos, xcont, Option.toList_none, Option.toList_some, List.nil_append, List.cons_append]
theorem lnF_lt {b ln i : Int} (hb : b = 0 ∨ b = 1) (hl : 0 ≤ ln) : ∀ x, 0 ≤ x → x < 200 → lnF b ln i x < 200 := fun x x1 x2 => by
  have hT := lnT_pos (b := b)
  have hv := lnO_rng (b := b) x1 x2
  unfold lnF
  split
  · exact x2
  split
  · split
    · decide
    · obtain ⟨-, d2, -⟩ := ln_up (b := b) hb x1 x2 (by omega)
      exact d2
  · split
    · decide
    · omega
/-- formulas are rebuilt behind a change of lines, and all is computed -/
noncomputable def liS (A : Sh) (b ln i : Int) : Sh := shC (shW (srA A (lnF b ln i)) (tkF (lnS b ln i) (lnC b ln i))) (cnA (srA A (lnF b ln i)).1)
theorem m_lnTail {b ln i : Int} (hS : MdS S m) (hb : b = 0 ∨ b = 1) (hi : i = 0 ∨ i = 1) (hl : 0 ≤ ln ∧ ln ≤ lnL b) (hP : MdP g m P sn H) (hL : LnC g m b ln i) (hG : rgR (g (m + 1))) (hA : ShOK A) (hM : ShM (g (m + 1)) (srA A (lnF b ln i))) (hall : 0 ≤ A.2.2.2.2 ∧ A.2.2.2.2 ≤ 900000) :
    ∃ g1 g', Fm g g' m ∧ MdI g' m P (liS A b ln i) sn H ∧ g' m 11 = g m 11 ∧ (∀ Q, Cw X (d + 11) 319 [.ref m, .int (iI 1)] (hp S g) Q = Q (.inl none) (hp S g1)) ∧ ∀ Q, Cw X (d + 11) 303 [.ref m] (hp S g1) Q = Q (.inl none) (hp S g') := by
  have hH := HwM_line (X := X) (S := S) (m := m) (d := d + 5) (b := b) (ln := ln) (i := i) (cf := fun i => g m i) hS hL.1 hL.2.1 hL.2.2 hb hi hl
  have hO := srA_ok (s := lnF b ln i) hA (lnF_lt hb hl.1)
  obtain ⟨g1, f1, j1, j2, j3, j4⟩ := m_rebuildsAll (X := X) (d := d + 5) (g := g) hS hH hO hG hM (fun i _ _ => rfl)
  obtain ⟨g2, f2, i2, l2, k2⟩ := m_chgAll (X := X) (d := d + 4) (g := g1) hS (MdP_R f1 hP) j2 j1 (shW_ok hH.1.1 hH.1.2 hO) hall
  exact ⟨g1, g2, Fm_trans (Fm_R f1) f2, i2, by rw [l2 11 (by decide), Fx_sl f1 (by decide)], j4, k2⟩
theorem m_asksLine {b z : Int} (hS : MdS S m) (hb : b = 0 ∨ b = 1) (tz : ti z = z) : ∀ Q, Cw X (d + 1) 321 [.ref m, .int (iI b), .int (iI z)] (hp S g) Q = Q (.inl (some (.int (iI (if 0 ≤ z ∧ z ≤ lnL b then 1 else 0))))) (hp S (gs (gs g m 48 b) m 11 (if 0 ≤ z ∧ z ≤ lnL b then 0 else 1))) := by
  intro Q
  have s0 := hS.1
  have e48 : gs g m 48 b m 48 = b := by rw [gs_at, if_pos rfl]
  have hmo := m_most (X := X) (d := d) (g := gs g m 48 b) hS e48 hb
  have hL := (lnO_rng (b := b) (c := 0) (by decide) (by decide)).2.2
  have hL0 : 0 ≤ lnL b := by unfold lnL; split <;> decide
  have tL : ti (lnL b) = lnL b := ti_eq (by omega) (by omega)
  have hin := fun w Q => m_in (X := X) (d := d) (w := w) (Q := Q) z 0 (lnL b)
  simp only [tz, tL, ti_0] at hin
  have tb : ti b = 0 ∨ ti b = 1 := by rcases hb with rfl | rfl <;> decide
  have has := fun G b hb => m_asks (X := X) (d := d) (g := G) (b := b) hS hb
  rw [e321]
  by_cases h : 0 ≤ z ∧ z ≤ lnL b
  · simp only [if_pos h] at hin
    rw [if_pos h, if_pos h]
    have h1 := has (gs g m 48 b) 1 (.inr rfl)
    rw [show (1 : Int) - 1 = 0 from rfl] at h1
    simp (config := { decide := true }) only [w_aload_n0 (pc' := 1) q321 d321_0 rfl, w_iload_n1 (pc' := 2) q321 d321_1 rfl, w_putZ (pc' := 5) q321 d321_2 rfl f321_413 rfl (by decide +kernel), w_aload_n0 (pc' := 6) q321 d321_5 rfl, w_iload_n2 (pc' := 7) q321 d321_6 rfl, w_iconst (pc' := 8) q321 d321_7 rfl, w_aload_n0 (pc' := 9) q321 d321_8 rfl, w_invv0 (ci := 11) (pc' := 12) q321 d321_9 rfl n321_434 k321_434_11 m313.1, w_invs3 (pc' := 15) q321 d321_12 rfl (by decide +kernel) k321_91_99 m232.1, w_invv1 (ci := 11) (pc' := 18) q321 d321_15 rfl n321_395 k321_395_11 m263.1, w_zreturn q321 d321_18 m321.2.1, gs_off, gs_off0, gs_0off, gs_2, xN_0, xN_2, xN_3, xN_6, xN_7, xN_8, xN_9, xN_10, xN_11, xN_12, xN_13, xN_14, xN_15, xN_16, xN_17, xN_18, xN_19, xN_20, xN_21, xN_22, xN_23, xN_24, xN_25, xN_26, xN_27, xN_28, xN_29, xN_30, xN_31, xN_32, xN_33, xN_34, xN_35, xN_36, xN_37, xN_38, xN_39, xN_40, xN_41, xN_42, xN_43, xN_44, xN_45, xN_46, xN_47, xN_48, xN_49, xN_50, xN_51, xN_52, xN_53, xN_54, xN_55, ti_0, ti_1, ti_2, ti_3, ti_4, ti_5, ti_6, ti_7, ti_8, ti_9, ti_10, ti_16, ti_19, ti_20, ti_29, ti_30, ti_31, ti_32, ti_35, ti_36, ti_38, ti_39, ti_40, ti_41, ti_42, ti_43, ti_44, ti_45, ti_46, ti_47, ti_48, ti_49, ti_50, ti_51, ti_52, ti_53, ti_54, ti_55, ti_56, ti_57, ti_58, ti_59, ti_60, ti_61, ti_62, ti_63, ti_64, ti_65, ti_74, ti_77, ti_126, ti_200, ti_201, ti_202, ti_203, ti_204, ti_205, ti_210, ti_255, ti_256, ti_400, ti_512, ti_600, ti_601, ti_602, ti_1000, ti_1023, ti_1024, ti_2000, ti_10000, ti_12602, ti_999999, ti_m999999, ti_m1, ti_2000000, ti_3000000, xN_1, xN_4, xN_5, xN_60, xN_61, xN_64, xN_200, xN_800, xN_12000, xN_12602, eq_self, and_self, and_true, true_and, if_true, if_false, decide_true, Nat.reduceLeDiff, xc2_int, xc2_ref, xc2_ra, xc2_null, xc2_long, xc2_none, xisaT_ref, xisaT_ra, xisaT_null, xc1T_int, xc1T_ref, xc1T_ra, xc1T_null, xsum_nil, xsum_int, xsum_ref, xsum_ra, xsum_long, xsum_double, xsum_null, xfl_nil, xfl_int, xfl_ref, xfl_ra, xfl_null, xfl_long, xfl_double, List.length_cons, List.length_nil, s0, tb, hmo, hin, h1, xzb_1, xfk, xfv, xak, xan, xcls, xsv', List.getElem?_cons_zero, List.getElem?_cons_succ, List.getD_cons_zero, List.getD_cons_succ, Option.getD_some, Option.isSome_some, if_true, if_pos, xcont, Option.toList_none, Option.toList_some, List.nil_append, List.cons_append]
  · simp only [if_neg h] at hin
    rw [if_neg h, if_neg h]
    have h1 := has (gs g m 48 b) 0 (.inl rfl)
    rw [show (1 : Int) - 0 = 1 from rfl] at h1
    simp (config := { decide := true }) only [w_aload_n0 (pc' := 1) q321 d321_0 rfl, w_iload_n1 (pc' := 2) q321 d321_1 rfl, w_putZ (pc' := 5) q321 d321_2 rfl f321_413 rfl (by decide +kernel), w_aload_n0 (pc' := 6) q321 d321_5 rfl, w_iload_n2 (pc' := 7) q321 d321_6 rfl, w_iconst (pc' := 8) q321 d321_7 rfl, w_aload_n0 (pc' := 9) q321 d321_8 rfl, w_invv0 (ci := 11) (pc' := 12) q321 d321_9 rfl n321_434 k321_434_11 m313.1, w_invs3 (pc' := 15) q321 d321_12 rfl (by decide +kernel) k321_91_99 m232.1, w_invv1 (ci := 11) (pc' := 18) q321 d321_15 rfl n321_395 k321_395_11 m263.1, w_zreturn q321 d321_18 m321.2.1, gs_off, gs_off0, gs_0off, gs_2, xN_0, xN_2, xN_3, xN_6, xN_7, xN_8, xN_9, xN_10, xN_11, xN_12, xN_13, xN_14, xN_15, xN_16, xN_17, xN_18, xN_19, xN_20, xN_21, xN_22, xN_23, xN_24, xN_25, xN_26, xN_27, xN_28, xN_29, xN_30, xN_31, xN_32, xN_33, xN_34, xN_35, xN_36, xN_37, xN_38, xN_39, xN_40, xN_41, xN_42, xN_43, xN_44, xN_45, xN_46, xN_47, xN_48, xN_49, xN_50, xN_51, xN_52, xN_53, xN_54, xN_55, ti_0, ti_1, ti_2, ti_3, ti_4, ti_5, ti_6, ti_7, ti_8, ti_9, ti_10, ti_16, ti_19, ti_20, ti_29, ti_30, ti_31, ti_32, ti_35, ti_36, ti_38, ti_39, ti_40, ti_41, ti_42, ti_43, ti_44, ti_45, ti_46, ti_47, ti_48, ti_49, ti_50, ti_51, ti_52, ti_53, ti_54, ti_55, ti_56, ti_57, ti_58, ti_59, ti_60, ti_61, ti_62, ti_63, ti_64, ti_65, ti_74, ti_77, ti_126, ti_200, ti_201, ti_202, ti_203, ti_204, ti_205, ti_210, ti_255, ti_256, ti_400, ti_512, ti_600, ti_601, ti_602, ti_1000, ti_1023, ti_1024, ti_2000, ti_10000, ti_12602, ti_999999, ti_m999999, ti_m1, ti_2000000, ti_3000000, xN_1, xN_4, xN_5, xN_60, xN_61, xN_64, xN_200, xN_800, xN_12000, xN_12602, eq_self, and_self, and_true, true_and, if_true, if_false, decide_true, Nat.reduceLeDiff, xc2_int, xc2_ref, xc2_ra, xc2_null, xc2_long, xc2_none, xisaT_ref, xisaT_ra, xisaT_null, xc1T_int, xc1T_ref, xc1T_ra, xc1T_null, xsum_nil, xsum_int, xsum_ref, xsum_ra, xsum_long, xsum_double, xsum_null, xfl_nil, xfl_int, xfl_ref, xfl_ra, xfl_null, xfl_long, xfl_double, List.length_cons, List.length_nil, s0, tb, hmo, hin, h1, xzb_0, xfk, xfv, xak, xan, xcls, xsv', List.getElem?_cons_zero, List.getElem?_cons_succ, List.getD_cons_zero, List.getD_cons_succ, Option.getD_some, Option.isSome_some, if_true, if_pos, xcont, Option.toList_none, Option.toList_some, List.nil_append, List.cons_append]
theorem m_inserts {b z : Int} (hS : MdS S m) (hI : MdI g m P A sn H) (hb : b = 0 ∨ b = 1) (h48 : g m 48 = b) (hz : 0 ≤ z ∧ z ≤ lnL b) (hall : 0 ≤ A.2.2.2.2 ∧ A.2.2.2.2 ≤ 900000) :
    (¬ fiN A.1 b (lnL b) (lnL b) = 0 → ∃ g', Fm g g' m ∧ MdI g' m P A sn H ∧ g' m 11 = 2 ∧ ∀ Q, Cw X (d + 11) 322 [.ref m, .int (iI z)] (hp S g) Q = Q (.inl (some (.int (iI 0)))) (hp S g')) ∧
    (fiN A.1 b (lnL b) (lnL b) = 0 → ∃ g', Fm g g' m ∧ MdI g' m P (liS A b z 1) sn (recH A H) ∧ g' m 11 = g m 11 ∧ ∀ Q, Cw X (d + 12) 322 [.ref m, .int (iI z)] (hp S g) Q = Q (.inl (some (.int (iI (fiN A.1 b z (lnL b)))))) (hp S g')) := by
  have s0 := hS.1
  have z1 : xnz 1 = 1 := by decide
  have hL := (lnO_rng (b := b) (c := 0) (by decide) (by decide)).2.2
  have hL0 : 0 ≤ lnL b := by unfold lnL; split <;> decide
  have tL : ti (lnL b) = lnL b := ti_eq (by omega) (by omega)
  have tz : ti z = z := ti_eq (by omega) (by omega)
  obtain ⟨G, eG⟩ : ∃ G, G = gs (gs g m 49 1) m 50 z := ⟨_, rfl⟩
  have iG : MdI G m P A sn H := by rw [eG]; exact MdI_slot (by decide) (MdI_slot (by decide) hI)
  have fG : Fm g G m := by rw [eG]; exact Fm_trans Fm_slot Fm_slot
  have hLn : LnC G m b z 1 := by
    rw [eG]
    exact ⟨by rw [gs_o (by decide), gs_o (by decide)]; exact h48, by rw [gs_at, if_pos rfl], by rw [gs_o (by decide), gs_at, if_pos rfl]⟩
  have hGr := iG.2.2.1 1 (by decide) (by decide)
  have eK : ∀ c, 0 ≤ c → c < 200 → G (m + 1) c = A.1 c := fun c c1 c2 => (iG.2.1.2.1.2 c c1 c2).1
  have hmo := fun d' => m_most (X := X) (d := d') (g := G) hS hLn.1 hb
  have hfi := fun d' => m_filledIn (X := X) (d := d') (g := G) (a := lnL b) (z := lnL b) hS hGr hLn.1 hb tL tL
  rw [fiN_congr eK] at hfi
  have hfr := fiN_rng (K := A.1) (b := b) (a := lnL b) (z := lnL b)
  have tfi : ti (fiN A.1 b (lnL b) (lnL b)) = fiN A.1 b (lnL b) (lnL b) := ti_eq (by omega) (by omega)
  refine ⟨fun h => ?_, fun h => ?_⟩
  · have hfa := m_fails (X := X) (d := d + 10) (g := G) (z := 2) hS
    refine ⟨gs G m 11 2, Fm_trans fG Fm_slot, MdI_slot (by decide) iG, by rw [gs_at, if_pos rfl], fun Q => ?_⟩
    have hpos : ¬ fiN A.1 b (lnL b) (lnL b) ≤ 0 := by omega
    have hmo1 := hmo (d + 10)
    have hfi1 := hfi (d + 9)
    rw [eG] at hmo1 hfi1 hfa ⊢
    rw [e322]
    simp (config := { decide := true }) only [w_aload_n0 (pc' := 1) q322 d322_0 rfl, w_iconst (pc' := 2) q322 d322_1 rfl, w_putZ (pc' := 5) q322 d322_2 rfl f322_428 rfl (by decide +kernel), w_aload_n0 (pc' := 6) q322 d322_5 rfl, w_iload_n1 (pc' := 7) q322 d322_6 rfl, w_putI (pc' := 10) q322 d322_7 rfl f322_431 rfl (by decide +kernel), w_aload_n0 (pc' := 11) q322 d322_10 rfl, w_aload_n0 (pc' := 12) q322 d322_11 rfl, w_invv0 (ci := 11) (pc' := 15) q322 d322_12 rfl n322_434 k322_434_11 m313.1, w_aload_n0 (pc' := 16) q322 d322_15 rfl, w_invv0 (ci := 11) (pc' := 19) q322 d322_16 rfl n322_434 k322_434_11 m313.1, w_invv2 (ci := 11) (pc' := 22) q322 d322_19 rfl n322_477 k322_477_11 m323.1, w_if_le (tg := 31) (pc' := 25) q322 d322_22 (by decide) rfl, w_aload_n0 (pc' := 26) q322 d322_25 rfl, w_iconst (pc' := 27) q322 d322_26 rfl, w_invv1 (ci := 11) (pc' := 30) q322 d322_27 rfl n322_382 k322_382_11 m233.1, w_ireturn q322 d322_30 m322.2.1, w_aload_n0 (pc' := 32) q322 d322_31 rfl, w_invv0 (ci := 11) (pc' := 35) q322 d322_32 rfl n322_399 k322_399_11 m264.1, w_aload_n0 (pc' := 36) q322 d322_35 rfl, w_iload_n1 (pc' := 37) q322 d322_36 rfl, w_aload_n0 (pc' := 38) q322 d322_37 rfl, w_invv0 (ci := 11) (pc' := 41) q322 d322_38 rfl n322_434 k322_434_11 m313.1, w_invv2 (ci := 11) (pc' := 44) q322 d322_41 rfl n322_477 k322_477_11 m323.1, w_istore_n2 (pc' := 45) q322 d322_44 rfl, w_aload_n0 (pc' := 46) q322 d322_45 rfl, w_invv0 (ci := 11) (pc' := 49) q322 d322_46 rfl n322_480 k322_480_11 m324.1, w_aload_n0 (pc' := 50) q322 d322_49 rfl, w_iconst (pc' := 51) q322 d322_50 rfl, w_invv1 (ci := 11) (pc' := 54) q322 d322_51 rfl n322_474 k322_474_11 m319.1, w_aload_n0 (pc' := 55) q322 d322_54 rfl, w_invv0 (ci := 11) (pc' := 58) q322 d322_55 rfl n322_410 k322_410_11 m303.1, w_iload_n2 (pc' := 59) q322 d322_58 rfl, w_ireturn q322 d322_59 m322.2.1, gs_off, gs_off0, gs_0off, gs_2, xN_0, xN_2, xN_3, xN_6, xN_7, xN_8, xN_9, xN_10, xN_11, xN_12, xN_13, xN_14, xN_15, xN_16, xN_17, xN_18, xN_19, xN_20, xN_21, xN_22, xN_23, xN_24, xN_25, xN_26, xN_27, xN_28, xN_29, xN_30, xN_31, xN_32, xN_33, xN_34, xN_35, xN_36, xN_37, xN_38, xN_39, xN_40, xN_41, xN_42, xN_43, xN_44, xN_45, xN_46, xN_47, xN_48, xN_49, xN_50, xN_51, xN_52, xN_53, xN_54, xN_55, ti_0, ti_1, ti_2, ti_3, ti_4, ti_5, ti_6, ti_7, ti_8, ti_9, ti_10, ti_16, ti_19, ti_20, ti_29, ti_30, ti_31, ti_32, ti_35, ti_36, ti_38, ti_39, ti_40, ti_41, ti_42, ti_43, ti_44, ti_45, ti_46, ti_47, ti_48, ti_49, ti_50, ti_51, ti_52, ti_53, ti_54, ti_55, ti_56, ti_57, ti_58, ti_59, ti_60, ti_61, ti_62, ti_63, ti_64, ti_65, ti_74, ti_77, ti_126, ti_200, ti_201, ti_202, ti_203, ti_204, ti_205, ti_210, ti_255, ti_256, ti_400, ti_512, ti_600, ti_601, ti_602, ti_1000, ti_1023, ti_1024, ti_2000, ti_10000, ti_12602, ti_999999, ti_m999999, ti_m1, ti_2000000, ti_3000000, xN_1, xN_4, xN_5, xN_60, xN_61, xN_64, xN_200, xN_800, xN_12000, xN_12602, eq_self, and_self, and_true, true_and, if_true, if_false, decide_true, Nat.reduceLeDiff, xc2_int, xc2_ref, xc2_ra, xc2_null, xc2_long, xc2_none, xisaT_ref, xisaT_ra, xisaT_null, xc1T_int, xc1T_ref, xc1T_ra, xc1T_null, xsum_nil, xsum_int, xsum_ref, xsum_ra, xsum_long, xsum_double, xsum_null, xfl_nil, xfl_int, xfl_ref, xfl_ra, xfl_null, xfl_long, xfl_double, List.length_cons, List.length_nil, s0, z1, hmo1, hfi1, tfi, hpos, hfa, xfk, xfv, xak, xan, xcls, xsv', List.getElem?_cons_zero, List.getElem?_cons_succ, List.getD_cons_zero, List.getD_cons_succ, Option.getD_some, Option.isSome_some, if_true, if_pos, xcont, Option.toList_none, Option.toList_some, List.nil_append, List.cons_append]
  · obtain ⟨g2, f2, i2, r2, s2, k2⟩ := m_rec (X := X) (d := d + 9) hS iG
    have hLn2 : LnC g2 m b z 1 := ⟨by rw [s2 48 (by decide) (by decide)]; exact hLn.1, by rw [s2 50 (by decide) (by decide)]; exact hLn.2.1, by rw [s2 49 (by decide) (by decide)]; exact hLn.2.2⟩
    have hGr2 := i2.2.2.1 1 (by decide) (by decide)
    have eK2 : ∀ c, 0 ≤ c → c < 200 → g2 (m + 1) c = A.1 c := fun c c1 c2 => (i2.2.1.2.1.2 c c1 c2).1
    have hmo2 := m_most (X := X) (d := d + 11) (g := g2) hS hLn2.1 hb
    have hfi2 := m_filledIn (X := X) (d := d + 10) (g := g2) (a := z) (z := lnL b) hS hGr2 hLn2.1 hb tz tL
    rw [fiN_congr eK2] at hfi2
    obtain ⟨r', j1, j2, j3⟩ := m_shiftsIn (X := X) (d := d + 8) (g := g2) (A := A) hS hb hz hLn2 hGr2 i2.2.1.2.1 (fun c c1 c2 hc => fiN_zero.mp h c c1 c2 (by omega) (by omega))
    obtain ⟨g3, g4, f4, i4, e4, k3, k4⟩ := m_lnTail (X := X) (d := d) (g := gr g2 (m + 1) r') hS hb (.inr rfl) hz (MdP_row1 (MdP_of i2)) (LnC_row1 hLn2) (by rw [gr_hit]; exact j1) i2.2.1.2.2 (by rw [gr_hit]; exact j2) hall
    refine ⟨g4, Fm_trans fG (Fm_trans f2 (Fm_trans (Fm_row (by decide)) f4)), i4, ?_, fun Q => ?_⟩
    · rw [e4, gr_row _ _ (by omega), s2 11 (by decide) (by decide), eG, gs_o (by decide), gs_o (by decide)]
    · rw [h] at hfi
      have hmo1 := hmo (d + 11)
      have hfi1 := hfi (d + 10)
      rw [eG] at hmo1 hfi1 k2
      rw [e322]
      simp (config := { decide := true }) only [w_aload_n0 (pc' := 1) q322 d322_0 rfl, w_iconst (pc' := 2) q322 d322_1 rfl, w_putZ (pc' := 5) q322 d322_2 rfl f322_428 rfl (by decide +kernel), w_aload_n0 (pc' := 6) q322 d322_5 rfl, w_iload_n1 (pc' := 7) q322 d322_6 rfl, w_putI (pc' := 10) q322 d322_7 rfl f322_431 rfl (by decide +kernel), w_aload_n0 (pc' := 11) q322 d322_10 rfl, w_aload_n0 (pc' := 12) q322 d322_11 rfl, w_invv0 (ci := 11) (pc' := 15) q322 d322_12 rfl n322_434 k322_434_11 m313.1, w_aload_n0 (pc' := 16) q322 d322_15 rfl, w_invv0 (ci := 11) (pc' := 19) q322 d322_16 rfl n322_434 k322_434_11 m313.1, w_invv2 (ci := 11) (pc' := 22) q322 d322_19 rfl n322_477 k322_477_11 m323.1, w_if_le (tg := 31) (pc' := 25) q322 d322_22 (by decide) rfl, w_aload_n0 (pc' := 26) q322 d322_25 rfl, w_iconst (pc' := 27) q322 d322_26 rfl, w_invv1 (ci := 11) (pc' := 30) q322 d322_27 rfl n322_382 k322_382_11 m233.1, w_ireturn q322 d322_30 m322.2.1, w_aload_n0 (pc' := 32) q322 d322_31 rfl, w_invv0 (ci := 11) (pc' := 35) q322 d322_32 rfl n322_399 k322_399_11 m264.1, w_aload_n0 (pc' := 36) q322 d322_35 rfl, w_iload_n1 (pc' := 37) q322 d322_36 rfl, w_aload_n0 (pc' := 38) q322 d322_37 rfl, w_invv0 (ci := 11) (pc' := 41) q322 d322_38 rfl n322_434 k322_434_11 m313.1, w_invv2 (ci := 11) (pc' := 44) q322 d322_41 rfl n322_477 k322_477_11 m323.1, w_istore_n2 (pc' := 45) q322 d322_44 rfl, w_aload_n0 (pc' := 46) q322 d322_45 rfl, w_invv0 (ci := 11) (pc' := 49) q322 d322_46 rfl n322_480 k322_480_11 m324.1, w_aload_n0 (pc' := 50) q322 d322_49 rfl, w_iconst (pc' := 51) q322 d322_50 rfl, w_invv1 (ci := 11) (pc' := 54) q322 d322_51 rfl n322_474 k322_474_11 m319.1, w_aload_n0 (pc' := 55) q322 d322_54 rfl, w_invv0 (ci := 11) (pc' := 58) q322 d322_55 rfl n322_410 k322_410_11 m303.1, w_iload_n2 (pc' := 59) q322 d322_58 rfl, w_ireturn q322 d322_59 m322.2.1, gs_off, gs_off0, gs_0off, gs_2, xN_0, xN_2, xN_3, xN_6, xN_7, xN_8, xN_9, xN_10, xN_11, xN_12, xN_13, xN_14, xN_15, xN_16, xN_17, xN_18, xN_19, xN_20, xN_21, xN_22, xN_23, xN_24, xN_25, xN_26, xN_27, xN_28, xN_29, xN_30, xN_31, xN_32, xN_33, xN_34, xN_35, xN_36, xN_37, xN_38, xN_39, xN_40, xN_41, xN_42, xN_43, xN_44, xN_45, xN_46, xN_47, xN_48, xN_49, xN_50, xN_51, xN_52, xN_53, xN_54, xN_55, ti_0, ti_1, ti_2, ti_3, ti_4, ti_5, ti_6, ti_7, ti_8, ti_9, ti_10, ti_16, ti_19, ti_20, ti_29, ti_30, ti_31, ti_32, ti_35, ti_36, ti_38, ti_39, ti_40, ti_41, ti_42, ti_43, ti_44, ti_45, ti_46, ti_47, ti_48, ti_49, ti_50, ti_51, ti_52, ti_53, ti_54, ti_55, ti_56, ti_57, ti_58, ti_59, ti_60, ti_61, ti_62, ti_63, ti_64, ti_65, ti_74, ti_77, ti_126, ti_200, ti_201, ti_202, ti_203, ti_204, ti_205, ti_210, ti_255, ti_256, ti_400, ti_512, ti_600, ti_601, ti_602, ti_1000, ti_1023, ti_1024, ti_2000, ti_10000, ti_12602, ti_999999, ti_m999999, ti_m1, ti_2000000, ti_3000000, xN_1, xN_4, xN_5, xN_60, xN_61, xN_64, xN_200, xN_800, xN_12000, xN_12602, eq_self, and_self, and_true, true_and, if_true, if_false, decide_true, Nat.reduceLeDiff, xc2_int, xc2_ref, xc2_ra, xc2_null, xc2_long, xc2_none, xisaT_ref, xisaT_ra, xisaT_null, xc1T_int, xc1T_ref, xc1T_ra, xc1T_null, xsum_nil, xsum_int, xsum_ref, xsum_ra, xsum_long, xsum_double, xsum_null, xfl_nil, xfl_int, xfl_ref, xfl_ra, xfl_null, xfl_long, xfl_double, List.length_cons, List.length_nil, s0, z1, hmo1, hfi1, Int.le_refl, k2, hmo2, hfi2, j3, k3, k4, xfk, xfv, xak, xan, xcls, xsv', List.getElem?_cons_zero, List.getElem?_cons_succ, List.getD_cons_zero, List.getD_cons_succ, Option.getD_some, Option.isSome_some, if_true, if_pos, xcont, Option.toList_none, Option.toList_some, List.nil_append, List.cons_append]
theorem m_deletes {b z : Int} (hS : MdS S m) (hI : MdI g m P A sn H) (hb : b = 0 ∨ b = 1) (h48 : g m 48 = b) (hz : 0 ≤ z ∧ z ≤ lnL b) (hall : 0 ≤ A.2.2.2.2 ∧ A.2.2.2.2 ≤ 900000) :
    ∃ g', Fm g g' m ∧ MdI g' m P (liS A b z 0) sn (recH A H) ∧ g' m 11 = g m 11 ∧ ∀ Q, Cw X (d + 12) 326 [.ref m, .int (iI z)] (hp S g) Q = Q (.inl (some (.int (iI (fiN A.1 b z z))))) (hp S g') := by
  have s0 := hS.1
  have z0 : xnz 0 = 0 := by decide
  have hL := (lnO_rng (b := b) (c := 0) (by decide) (by decide)).2.2
  have tz : ti z = z := ti_eq (by omega) (by omega)
  obtain ⟨g2, f2, i2, r2, s2, k2⟩ := m_rec (X := X) (d := d + 9) hS hI
  obtain ⟨G, eG⟩ : ∃ G, G = gs (gs g2 m 49 0) m 50 z := ⟨_, rfl⟩
  have iG : MdI G m P A sn (recH A H) := by rw [eG]; exact MdI_slot (by decide) (MdI_slot (by decide) i2)
  have fG : Fm g2 G m := by rw [eG]; exact Fm_trans Fm_slot Fm_slot
  have hLn : LnC G m b z 0 := by
    rw [eG]
    exact ⟨by rw [gs_o (by decide), gs_o (by decide), s2 48 (by decide) (by decide)]; exact h48, by rw [gs_at, if_pos rfl], by rw [gs_o (by decide), gs_at, if_pos rfl]⟩
  have hGr := iG.2.2.1 1 (by decide) (by decide)
  have eK : ∀ c, 0 ≤ c → c < 200 → G (m + 1) c = A.1 c := fun c c1 c2 => (iG.2.1.2.1.2 c c1 c2).1
  have hfi := m_filledIn (X := X) (d := d + 10) (g := G) (a := z) (z := z) hS hGr hLn.1 hb tz tz
  rw [fiN_congr eK] at hfi
  obtain ⟨r1, q1, q2, q3⟩ := m_emptiesLine (X := X) (d := d + 9) (g := G) (A := A) hS hb hz hLn.1 hLn.2.1 hGr iG.2.1.2.1
  obtain ⟨r', j1, j2, j3⟩ := m_shiftsDe (X := X) (d := d + 8) (g := gr G (m + 1) r1) (A := A) hS hb hz (LnC_row1 hLn) (by rw [gr_hit]; exact q1) (by rw [gr_hit]; exact q2)
  rw [gr_gr] at j3
  obtain ⟨g3, g4, f4, i4, e4, k3, k4⟩ := m_lnTail (X := X) (d := d) (g := gr G (m + 1) r') hS hb (.inl rfl) hz (MdP_row1 (MdP_of iG)) (LnC_row1 hLn) (by rw [gr_hit]; exact j1) iG.2.1.2.2 (by rw [gr_hit]; exact j2) hall
  refine ⟨g4, Fm_trans f2 (Fm_trans fG (Fm_trans (Fm_row (by decide)) f4)), i4, ?_, fun Q => ?_⟩
  · rw [e4, gr_row _ _ (by omega), eG, gs_o (by decide), gs_o (by decide), s2 11 (by decide) (by decide)]
  · rw [eG] at hfi q3 j3 k3
    rw [e326]
    simp (config := { decide := true }) only [w_aload_n0 (pc' := 1) q326 d326_0 rfl, w_invv0 (ci := 11) (pc' := 4) q326 d326_1 rfl n326_399 k326_399_11 m264.1, w_aload_n0 (pc' := 5) q326 d326_4 rfl, w_iconst (pc' := 6) q326 d326_5 rfl, w_putZ (pc' := 9) q326 d326_6 rfl f326_428 rfl (by decide +kernel), w_aload_n0 (pc' := 10) q326 d326_9 rfl, w_iload_n1 (pc' := 11) q326 d326_10 rfl, w_putI (pc' := 14) q326 d326_11 rfl f326_431 rfl (by decide +kernel), w_aload_n0 (pc' := 15) q326 d326_14 rfl, w_iload_n1 (pc' := 16) q326 d326_15 rfl, w_iload_n1 (pc' := 17) q326 d326_16 rfl, w_invv2 (ci := 11) (pc' := 20) q326 d326_17 rfl n326_477 k326_477_11 m323.1, w_istore_n2 (pc' := 21) q326 d326_20 rfl, w_aload_n0 (pc' := 22) q326 d326_21 rfl, w_invv0 (ci := 11) (pc' := 25) q326 d326_22 rfl n326_483 k326_483_11 m327.1, w_aload_n0 (pc' := 26) q326 d326_25 rfl, w_invv0 (ci := 11) (pc' := 29) q326 d326_26 rfl n326_480 k326_480_11 m324.1, w_aload_n0 (pc' := 30) q326 d326_29 rfl, w_iconst (pc' := 31) q326 d326_30 rfl, w_invv1 (ci := 11) (pc' := 34) q326 d326_31 rfl n326_474 k326_474_11 m319.1, w_aload_n0 (pc' := 35) q326 d326_34 rfl, w_invv0 (ci := 11) (pc' := 38) q326 d326_35 rfl n326_410 k326_410_11 m303.1, w_iload_n2 (pc' := 39) q326 d326_38 rfl, w_ireturn q326 d326_39 m326.2.1, gs_off, gs_off0, gs_0off, gs_2, xN_0, xN_2, xN_3, xN_6, xN_7, xN_8, xN_9, xN_10, xN_11, xN_12, xN_13, xN_14, xN_15, xN_16, xN_17, xN_18, xN_19, xN_20, xN_21, xN_22, xN_23, xN_24, xN_25, xN_26, xN_27, xN_28, xN_29, xN_30, xN_31, xN_32, xN_33, xN_34, xN_35, xN_36, xN_37, xN_38, xN_39, xN_40, xN_41, xN_42, xN_43, xN_44, xN_45, xN_46, xN_47, xN_48, xN_49, xN_50, xN_51, xN_52, xN_53, xN_54, xN_55, ti_0, ti_1, ti_2, ti_3, ti_4, ti_5, ti_6, ti_7, ti_8, ti_9, ti_10, ti_16, ti_19, ti_20, ti_29, ti_30, ti_31, ti_32, ti_35, ti_36, ti_38, ti_39, ti_40, ti_41, ti_42, ti_43, ti_44, ti_45, ti_46, ti_47, ti_48, ti_49, ti_50, ti_51, ti_52, ti_53, ti_54, ti_55, ti_56, ti_57, ti_58, ti_59, ti_60, ti_61, ti_62, ti_63, ti_64, ti_65, ti_74, ti_77, ti_126, ti_200, ti_201, ti_202, ti_203, ti_204, ti_205, ti_210, ti_255, ti_256, ti_400, ti_512, ti_600, ti_601, ti_602, ti_1000, ti_1023, ti_1024, ti_2000, ti_10000, ti_12602, ti_999999, ti_m999999, ti_m1, ti_2000000, ti_3000000, xN_1, xN_4, xN_5, xN_60, xN_61, xN_64, xN_200, xN_800, xN_12000, xN_12602, eq_self, and_self, and_true, true_and, if_true, if_false, decide_true, Nat.reduceLeDiff, xc2_int, xc2_ref, xc2_ra, xc2_null, xc2_long, xc2_none, xisaT_ref, xisaT_ra, xisaT_null, xc1T_int, xc1T_ref, xc1T_ra, xc1T_null, xsum_nil, xsum_int, xsum_ref, xsum_ra, xsum_long, xsum_double, xsum_null, xfl_nil, xfl_int, xfl_ref, xfl_ra, xfl_null, xfl_long, xfl_double, List.length_cons, List.length_nil, s0, z0, k2, hfi, q3, j3, k3, k4, xfk, xfv, xak, xan, xcls, xsv', List.getElem?_cons_zero, List.getElem?_cons_succ, List.getD_cons_zero, List.getD_cons_succ, Option.getD_some, Option.isSome_some, if_true, if_pos, xcont, Option.toList_none, Option.toList_some, List.nil_append, List.cons_append]
end
