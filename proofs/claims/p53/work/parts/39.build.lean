/-! Links: building -/
section
variable {X : xX} {d : Nat} {S : xLm} {g : xGm} {Q : xO → xH → Prop}
/-- the loop that lets the formulas wait for one less -/
theorem l_less {l : Nat} {n x : Int} {F : Int → Bool} (hS : LkS S l) (hn2 : n ≤ 200) (hx : 0 ≤ x) (hx2 : x < 200) {fc : Int → Int} (hFC : FC fc n F) {u : Int} {y1 : Option Value} (hy1 : y1 = some (.int (iI u))) : ∀ (m : Nat) (i : Int) (g : xGm), g l 2 = n → rg g (l + 2) 0 199 → g (l + 2) = fc → i + m = n → 0 ≤ i →
    ∃ f, (∀ j, f j = g (l + 5) j - (if cb ((∃ q, i ≤ q ∧ q < n ∧ fc q = j) ∧ bt (g (l + 1)) j x = true) = true then 1 else 0)) ∧ ∀ Q, Wx X (d + 1) 104 96 [some (.ref l), y1, some (.int (iI x)), some (.int (iI i))] [] (hp S g) Q = Wx X (d + 1) 104 139 [some (.ref l), y1, some (.int (iI x)), some (.int (iI n))] [] (hp S (gr g (l + 5) f)) Q := by
  subst hy1
  have hS' := hS
  obtain ⟨h0, h1, h2, h3, h4, h5, h6, h7, h8⟩ := hS'
  intro m
  induction m with
  | zero =>
    intro i g hn hF hfc hi h
    obtain rfl : i = n := by omega
    have ti' : ti i = i := ti_eq (by omega) (by omega)
    refine ⟨g (l + 5), fun j => ?_, fun Q => ?_⟩
    · rw [if_neg, Int.sub_zero]
      rw [cb_iff]
      rintro ⟨⟨q, q1, q2, _⟩, _⟩
      omega
    · have e : gr g (l + 5) (g (l + 5)) = g := by
        funext h'; unfold gr; split
        · next e => rw [e]
        · rfl
      rw [w_iload_n3 (pc' := 97) q104 d104_96 rfl, e]
      simp (config := { decide := true }) only [w_aload_n0 (pc' := 98) q104 d104_97 rfl, w_getI (pc' := 101) q104 d104_98 rfl f104_38, w_icmp_ge (tg := 139) (pc' := 104) q104 d104_101 (by decide) rfl, gs_off, gs_off0, gs_0off, gs_2, xN_0, xN_2, xN_3, xN_6, xN_7, xN_8, xN_9, xN_10, xN_11, xN_12, xN_13, xN_14, xN_15, xN_16, xN_17, xN_18, xN_19, xN_20, xN_21, xN_22, xN_23, xN_24, xN_25, xN_26, xN_27, xN_28, xN_29, xN_30, xN_31, xN_32, xN_33, xN_34, xN_35, xN_36, xN_37, xN_38, xN_39, xN_40, xN_41, xN_42, xN_43, xN_44, xN_45, xN_46, xN_47, xN_48, xN_49, xN_50, xN_51, xN_52, xN_53, xN_54, xN_55, ti_0, ti_1, ti_2, ti_3, ti_4, ti_5, ti_6, ti_7, ti_8, ti_9, ti_10, ti_16, ti_19, ti_20, ti_29, ti_30, ti_31, ti_32, ti_35, ti_36, ti_38, ti_39, ti_40, ti_41, ti_42, ti_43, ti_44, ti_45, ti_46, ti_47, ti_48, ti_49, ti_50, ti_51, ti_52, ti_53, ti_54, ti_55, ti_56, ti_57, ti_58, ti_59, ti_60, ti_61, ti_62, ti_63, ti_64, ti_65, ti_74, ti_77, ti_126, ti_200, ti_201, ti_202, ti_203, ti_204, ti_205, ti_210, ti_255, ti_256, ti_400, ti_512, ti_600, ti_601, ti_602, ti_1000, ti_1023, ti_1024, ti_2000, ti_10000, ti_12602, ti_999999, ti_m999999, ti_m1, ti_2000000, ti_3000000, xN_1, xN_4, xN_5, xN_60, xN_61, xN_64, xN_200, xN_800, xN_12000, xN_12602, eq_self, and_self, and_true, true_and, if_true, if_false, decide_true, Nat.reduceLeDiff, xc2_int, xc2_ref, xc2_ra, xc2_null, xc2_long, xc2_none, xisaT_ref, xisaT_ra, xisaT_null, xc1T_int, xc1T_ref, xc1T_ra, xc1T_null, xsum_nil, xsum_int, xsum_ref, xsum_ra, xsum_long, xsum_double, xsum_null, xfl_nil, xfl_int, xfl_ref, xfl_ra, xfl_null, xfl_long, xfl_double, List.length_cons, List.length_nil, h0, hn, ti', Int.le_refl, xfk, xfv, xak, xan, xcls, xsv', List.getElem?_cons_zero, List.getElem?_cons_succ, List.getD_cons_zero, List.getD_cons_succ, Option.getD_some, Option.isSome_some, if_true, if_pos, xcont, Option.toList_none, Option.toList_some, List.nil_append, List.cons_append]
  | succ m ih =>
    intro i g hn hF hfc hi h
    have ti' : ti i = i := ti_eq (by omega) (by omega)
    have tn : ti n = n := ti_eq (by omega) (by omega)
    have hlt : ¬ n ≤ i := by omega
    have b2 : i < 200 := by omega
    have f := hF i
    have f2 : g (l + 2) i < 200 := by omega
    have tf : ti (g (l + 2) i) = g (l + 2) i := ti_eq (by omega) (by omega)
    by_cases hb : bt (g (l + 1)) (g (l + 2) i) x = true
    · obtain ⟨g1, eg1⟩ : ∃ g1, g1 = gs g (l + 5) (g (l + 2) i) (g (l + 5) (g (l + 2) i) - 1) := ⟨_, rfl⟩
      have r : ∀ h', ¬ h' = l + 5 → g1 h' = g h' := fun h' hh => by rw [eg1]; exact gs_row _ _ _ hh
      obtain ⟨f', k1, k2⟩ := ih (i + 1) g1 (by rw [r l (by omega)]; exact hn) (by unfold rg; rw [r (l + 2) (by omega)]; exact hF) (by rw [r (l + 2) (by omega)]; exact hfc) (by omega) (by omega)
      rw [r (l + 1) (by omega)] at k1
      refine ⟨f', fun j => ?_, fun Q => ?_⟩
      · rw [k1 j, eg1, gs_at]
        by_cases e : j = g (l + 2) i
        · have hno : ¬ cb ((∃ q, i + 1 ≤ q ∧ q < n ∧ fc q = j) ∧ bt (g (l + 1)) j x = true) = true := by
            rw [cb_iff]
            rintro ⟨⟨q, q1, q2, q3⟩, _⟩
            have := FC_inj hFC (by omega) q2 h (by omega) (q3.trans (by rw [e, hfc]))
            omega
          have hyes : cb ((∃ q, i ≤ q ∧ q < n ∧ fc q = j) ∧ bt (g (l + 1)) j x = true) = true := by
            rw [cb_iff]
            exact ⟨⟨i, Int.le_refl _, by omega, by rw [e, hfc]⟩, by rw [e]; exact hb⟩
          rw [if_pos e, if_neg hno, if_pos hyes, e, Int.sub_zero]
        · have : cb ((∃ q, i + 1 ≤ q ∧ q < n ∧ fc q = j) ∧ bt (g (l + 1)) j x = true) = cb ((∃ q, i ≤ q ∧ q < n ∧ fc q = j) ∧ bt (g (l + 1)) j x = true) := bool_ext (by
            rw [cb_iff, cb_iff]
            constructor
            · rintro ⟨⟨q, q1, q2, q3⟩, q4⟩; exact ⟨⟨q, by omega, q2, q3⟩, q4⟩
            · rintro ⟨⟨q, q1, q2, q3⟩, q4⟩
              refine ⟨⟨q, ?_, q2, q3⟩, q4⟩
              by_cases e2 : q = i
              · subst e2; exact absurd (q3.symm.trans (by rw [hfc])) e
              · omega)
          rw [if_neg e, this]
      · rw [w_iload_n3 (pc' := 97) q104 d104_96 rfl]
        simp (config := { decide := true }) only [w_aload_n0 (pc' := 98) q104 d104_97 rfl, w_getI (pc' := 101) q104 d104_98 rfl f104_38, w_icmp_ge (tg := 139) (pc' := 104) q104 d104_101 (by decide) rfl, w_aload_n0 (pc' := 105) q104 d104_104 rfl, w_aload_n0 (pc' := 106) q104 d104_105 rfl, w_getV (pc' := 109) q104 d104_106 rfl f104_15, w_iload_n3 (pc' := 110) q104 d104_109 rfl, w_iaload (pc' := 111) q104 d104_110 rfl, w_iload_n2 (pc' := 112) q104 d104_111 rfl, w_invv2 (ci := 6) (pc' := 115) q104 d104_112 rfl n104_105 k104_105_6 m106.1, w_if_eq (tg := 133) (pc' := 118) q104 d104_115 (by decide) rfl, w_aload_n0 (pc' := 119) q104 d104_118 rfl, w_getV (pc' := 122) q104 d104_119 rfl f104_25, w_aload_n0 (pc' := 123) q104 d104_122 rfl, w_getV (pc' := 126) q104 d104_123 rfl f104_15, w_iload_n3 (pc' := 127) q104 d104_126 rfl, w_iaload (pc' := 128) q104 d104_127 rfl, w_dup2 (pc' := 129) q104 d104_128 rfl, w_iaload (pc' := 130) q104 d104_129 rfl, w_iconst (pc' := 131) q104 d104_130 rfl, w_isub (pc' := 132) q104 d104_131 rfl, w_iastore (pc' := 133) q104 d104_132 rfl, w_iinc3 (z := (1)) (pc' := 136) q104 d104_133 rfl, w_goto (tg := 96) q104 d104_136 (by decide), gs_off, gs_off0, gs_0off, gs_2, xN_0, xN_2, xN_3, xN_6, xN_7, xN_8, xN_9, xN_10, xN_11, xN_12, xN_13, xN_14, xN_15, xN_16, xN_17, xN_18, xN_19, xN_20, xN_21, xN_22, xN_23, xN_24, xN_25, xN_26, xN_27, xN_28, xN_29, xN_30, xN_31, xN_32, xN_33, xN_34, xN_35, xN_36, xN_37, xN_38, xN_39, xN_40, xN_41, xN_42, xN_43, xN_44, xN_45, xN_46, xN_47, xN_48, xN_49, xN_50, xN_51, xN_52, xN_53, xN_54, xN_55, ti_0, ti_1, ti_2, ti_3, ti_4, ti_5, ti_6, ti_7, ti_8, ti_9, ti_10, ti_16, ti_19, ti_20, ti_29, ti_30, ti_31, ti_32, ti_35, ti_36, ti_38, ti_39, ti_40, ti_41, ti_42, ti_43, ti_44, ti_45, ti_46, ti_47, ti_48, ti_49, ti_50, ti_51, ti_52, ti_53, ti_54, ti_55, ti_56, ti_57, ti_58, ti_59, ti_60, ti_61, ti_62, ti_63, ti_64, ti_65, ti_74, ti_77, ti_126, ti_200, ti_201, ti_202, ti_203, ti_204, ti_205, ti_210, ti_255, ti_256, ti_400, ti_512, ti_600, ti_601, ti_602, ti_1000, ti_1023, ti_1024, ti_2000, ti_10000, ti_12602, ti_999999, ti_m999999, ti_m1, ti_2000000, ti_3000000, xN_1, xN_4, xN_5, xN_60, xN_61, xN_64, xN_200, xN_800, xN_12000, xN_12602, eq_self, and_self, and_true, true_and, if_true, if_false, decide_true, Nat.reduceLeDiff, xc2_int, xc2_ref, xc2_ra, xc2_null, xc2_long, xc2_none, xisaT_ref, xisaT_ra, xisaT_null, xc1T_int, xc1T_ref, xc1T_ra, xc1T_null, xsum_nil, xsum_int, xsum_ref, xsum_ra, xsum_long, xsum_double, xsum_null, xfl_nil, xfl_int, xfl_ref, xfl_ra, xfl_null, xfl_long, xfl_double, List.length_cons, List.length_nil, h0, h2, h5, hn, ti', tn, hlt, h, b2, tf, f.1, f2, c_refers hS f.1 f2 hx hx2, hb, xfk, xfv, xak, xan, xcls, xsv', List.getElem?_cons_zero, List.getElem?_cons_succ, List.getD_cons_zero, List.getD_cons_succ, Option.getD_some, Option.isSome_some, if_true, if_pos, xcont, Option.toList_none, Option.toList_some, List.nil_append, List.cons_append]
        rw [← eg1, k2 Q]
        congr 2
        funext h'
        unfold gr
        split
        · rfl
        · next e => exact r h' e
    · obtain ⟨f', k1, k2⟩ := ih (i + 1) g hn hF hfc (by omega) (by omega)
      refine ⟨f', fun j => ?_, fun Q => ?_⟩
      · rw [k1 j]
        have : cb ((∃ q, i + 1 ≤ q ∧ q < n ∧ fc q = j) ∧ bt (g (l + 1)) j x = true) = cb ((∃ q, i ≤ q ∧ q < n ∧ fc q = j) ∧ bt (g (l + 1)) j x = true) := bool_ext (by
          rw [cb_iff, cb_iff]
          constructor
          · rintro ⟨⟨q, q1, q2, q3⟩, q4⟩; exact ⟨⟨q, by omega, q2, q3⟩, q4⟩
          · rintro ⟨⟨q, q1, q2, q3⟩, q4⟩
            refine ⟨⟨q, ?_, q2, q3⟩, q4⟩
            by_cases e2 : q = i
            · subst e2; rw [← q3, ← hfc] at q4; exact absurd q4 hb
            · omega)
        rw [this]
      · rw [w_iload_n3 (pc' := 97) q104 d104_96 rfl]
        simp (config := { decide := true }) only [w_aload_n0 (pc' := 98) q104 d104_97 rfl, w_getI (pc' := 101) q104 d104_98 rfl f104_38, w_icmp_ge (tg := 139) (pc' := 104) q104 d104_101 (by decide) rfl, w_aload_n0 (pc' := 105) q104 d104_104 rfl, w_aload_n0 (pc' := 106) q104 d104_105 rfl, w_getV (pc' := 109) q104 d104_106 rfl f104_15, w_iload_n3 (pc' := 110) q104 d104_109 rfl, w_iaload (pc' := 111) q104 d104_110 rfl, w_iload_n2 (pc' := 112) q104 d104_111 rfl, w_invv2 (ci := 6) (pc' := 115) q104 d104_112 rfl n104_105 k104_105_6 m106.1, w_if_eq (tg := 133) (pc' := 118) q104 d104_115 (by decide) rfl, w_aload_n0 (pc' := 119) q104 d104_118 rfl, w_getV (pc' := 122) q104 d104_119 rfl f104_25, w_aload_n0 (pc' := 123) q104 d104_122 rfl, w_getV (pc' := 126) q104 d104_123 rfl f104_15, w_iload_n3 (pc' := 127) q104 d104_126 rfl, w_iaload (pc' := 128) q104 d104_127 rfl, w_dup2 (pc' := 129) q104 d104_128 rfl, w_iaload (pc' := 130) q104 d104_129 rfl, w_iconst (pc' := 131) q104 d104_130 rfl, w_isub (pc' := 132) q104 d104_131 rfl, w_iastore (pc' := 133) q104 d104_132 rfl, w_iinc3 (z := (1)) (pc' := 136) q104 d104_133 rfl, w_goto (tg := 96) q104 d104_136 (by decide), gs_off, gs_off0, gs_0off, gs_2, xN_0, xN_2, xN_3, xN_6, xN_7, xN_8, xN_9, xN_10, xN_11, xN_12, xN_13, xN_14, xN_15, xN_16, xN_17, xN_18, xN_19, xN_20, xN_21, xN_22, xN_23, xN_24, xN_25, xN_26, xN_27, xN_28, xN_29, xN_30, xN_31, xN_32, xN_33, xN_34, xN_35, xN_36, xN_37, xN_38, xN_39, xN_40, xN_41, xN_42, xN_43, xN_44, xN_45, xN_46, xN_47, xN_48, xN_49, xN_50, xN_51, xN_52, xN_53, xN_54, xN_55, ti_0, ti_1, ti_2, ti_3, ti_4, ti_5, ti_6, ti_7, ti_8, ti_9, ti_10, ti_16, ti_19, ti_20, ti_29, ti_30, ti_31, ti_32, ti_35, ti_36, ti_38, ti_39, ti_40, ti_41, ti_42, ti_43, ti_44, ti_45, ti_46, ti_47, ti_48, ti_49, ti_50, ti_51, ti_52, ti_53, ti_54, ti_55, ti_56, ti_57, ti_58, ti_59, ti_60, ti_61, ti_62, ti_63, ti_64, ti_65, ti_74, ti_77, ti_126, ti_200, ti_201, ti_202, ti_203, ti_204, ti_205, ti_210, ti_255, ti_256, ti_400, ti_512, ti_600, ti_601, ti_602, ti_1000, ti_1023, ti_1024, ti_2000, ti_10000, ti_12602, ti_999999, ti_m999999, ti_m1, ti_2000000, ti_3000000, xN_1, xN_4, xN_5, xN_60, xN_61, xN_64, xN_200, xN_800, xN_12000, xN_12602, eq_self, and_self, and_true, true_and, if_true, if_false, decide_true, Nat.reduceLeDiff, xc2_int, xc2_ref, xc2_ra, xc2_null, xc2_long, xc2_none, xisaT_ref, xisaT_ra, xisaT_null, xc1T_int, xc1T_ref, xc1T_ra, xc1T_null, xsum_nil, xsum_int, xsum_ref, xsum_ra, xsum_long, xsum_double, xsum_null, xfl_nil, xfl_int, xfl_ref, xfl_ra, xfl_null, xfl_long, xfl_double, List.length_cons, List.length_nil, h0, h2, h5, hn, ti', tn, hlt, h, b2, tf, f.1, f2, c_refers hS f.1 f2 hx hx2, hb, xfk, xfv, xak, xan, xcls, xsv', List.getElem?_cons_zero, List.getElem?_cons_succ, List.getD_cons_zero, List.getD_cons_succ, Option.getD_some, Option.isSome_some, if_true, if_pos, xcont, Option.toList_none, Option.toList_some, List.nil_append, List.cons_append]
        exact k2 Q
/-- the order so far, with its places and what is waited for -/
def OrI (F : Int → Bool) (R : Int → Int → Prop) (g : xGm) (l : Nat) (t : Int) : Prop :=
  g l 4 = t ∧ OdF F R (g (l + 3)) t ∧ (∀ i, 0 ≤ i → i < t → g (l + 4) (g (l + 3) i) = i) ∧ (∀ c, 0 ≤ c → c < 200 → ¬ oin (g (l + 3)) t c → g (l + 4) c = -1) ∧ rg g (l + 3) 0 199 ∧ rg g (l + 4) (-1) 199
def WaI (F : Int → Bool) (R : Int → Int → Prop) (g : xGm) (l : Nat) (t : Int) : Prop := rg g (l + 5) 0 200 ∧ ∀ c, 0 ≤ c → c < 200 → F c = true → g (l + 5) c = owt F R (g (l + 3)) t c
theorem OrI_next {F : Int → Bool} {R : Int → Int → Prop} {l : Nat} {t : Int} (h : OrI F R g l t) (w : WaI F R g l t) (ht : 0 ≤ t) {n : Int} (hFC : FC (g (l + 2)) n F) :
    lowr (fun c => decide (g (l + 4) c < 0) && decide (g (l + 5) c = 0)) (g (l + 2)) 0 n.toNat = onx F R (g (l + 3)) t := by
  rw [lowr_FC hFC]
  unfold onx
  refine low_congr 200 0 (fun c h1 h2 => bool_ext ?_)
  rw [cb_iff, Bool.and_eq_true, Bool.and_eq_true, decide_eq_true_eq, decide_eq_true_eq]
  obtain ⟨a1, a2, a3, a4, a5, a6⟩ := h
  constructor
  · rintro ⟨e1, e2, e3⟩
    refine ⟨e1, fun ⟨i, i1, i2, i3⟩ => ?_, ?_⟩
    · have := a3 i i1 i2
      rw [i3] at this
      omega
    · rw [w.2 c h1 (by omega) e1] at e3
      exact owt_zero.mp e3
  · rintro ⟨e1, e2, e3⟩
    have := a4 c h1 (by omega) e2
    exact ⟨e1, by omega, by rw [w.2 c h1 (by omega) e1]; exact owt_zero.mpr e3⟩
/-- the loop of the order -/
theorem l_order {l : Nat} {n : Int} {F : Int → Bool} {R : Int → Int → Prop} (hS : LkS S l) (hn2 : n ≤ 200) : ∀ (m : Nat) (t : Int) (g : xGm) (y2 y3 : Option Value), g l 2 = n → rg g (l + 2) 0 199 → FC (g (l + 2)) n F → (∀ c o, 0 ≤ c → c < 200 → 0 ≤ o → o < 200 → (R c o ↔ bt (g (l + 1)) c o = true)) → OrI F R g l t → WaI F R g l t → t + m = n → 0 ≤ t →
    ∃ t' g', (∀ h, ¬ h = l → ¬ h = l + 3 → ¬ h = l + 4 → ¬ h = l + 5 → g' h = g h) ∧ (∀ i, ¬ i = 4 → g' l i = g l i) ∧ 0 ≤ t' ∧ t' ≤ n ∧ OrI F R g' l t' ∧ rg g' (l + 5) 0 200 ∧ onx F R (g' (l + 3)) t' < 0 ∧ ∀ Q, Wx X (d + 1) 104 44 [some (.ref l), some (.int (iI t)), y2, y3] [] (hp S g) Q = Q (.inl none) (hp S g') := by
  have hS' := hS
  obtain ⟨h0, h1, h2, h3, h4, h5, h6, h7, h8⟩ := hS'
  intro m
  induction m with
  | zero =>
    intro t g y2 y3 hn hF hFC hR hO hW ht ht0
    obtain rfl : t = n := by omega
    have tt : ti t = t := ti_eq (by omega) (by omega)
    refine ⟨t, g, fun _ _ _ _ _ => rfl, fun _ _ => rfl, ht0, Int.le_refl _, hO, hW.1, ?_, fun Q => ?_⟩
    · rw [OdF_full ht0 hO.2.1 hFC.1]; decide
    · rw [w_iload_n1 (pc' := 45) q104 d104_44 rfl]
      simp (config := { decide := true }) only [w_aload_n0 (pc' := 46) q104 d104_45 rfl, w_getI (pc' := 49) q104 d104_46 rfl f104_38, w_icmp_ge (tg := 145) (pc' := 52) q104 d104_49 (by decide) rfl, w_return q104 d104_145 m104.2.1, gs_off, gs_off0, gs_0off, gs_2, xN_0, xN_2, xN_3, xN_6, xN_7, xN_8, xN_9, xN_10, xN_11, xN_12, xN_13, xN_14, xN_15, xN_16, xN_17, xN_18, xN_19, xN_20, xN_21, xN_22, xN_23, xN_24, xN_25, xN_26, xN_27, xN_28, xN_29, xN_30, xN_31, xN_32, xN_33, xN_34, xN_35, xN_36, xN_37, xN_38, xN_39, xN_40, xN_41, xN_42, xN_43, xN_44, xN_45, xN_46, xN_47, xN_48, xN_49, xN_50, xN_51, xN_52, xN_53, xN_54, xN_55, ti_0, ti_1, ti_2, ti_3, ti_4, ti_5, ti_6, ti_7, ti_8, ti_9, ti_10, ti_16, ti_19, ti_20, ti_29, ti_30, ti_31, ti_32, ti_35, ti_36, ti_38, ti_39, ti_40, ti_41, ti_42, ti_43, ti_44, ti_45, ti_46, ti_47, ti_48, ti_49, ti_50, ti_51, ti_52, ti_53, ti_54, ti_55, ti_56, ti_57, ti_58, ti_59, ti_60, ti_61, ti_62, ti_63, ti_64, ti_65, ti_74, ti_77, ti_126, ti_200, ti_201, ti_202, ti_203, ti_204, ti_205, ti_210, ti_255, ti_256, ti_400, ti_512, ti_600, ti_601, ti_602, ti_1000, ti_1023, ti_1024, ti_2000, ti_10000, ti_12602, ti_999999, ti_m999999, ti_m1, ti_2000000, ti_3000000, xN_1, xN_4, xN_5, xN_60, xN_61, xN_64, xN_200, xN_800, xN_12000, xN_12602, eq_self, and_self, and_true, true_and, if_true, if_false, decide_true, Nat.reduceLeDiff, xc2_int, xc2_ref, xc2_ra, xc2_null, xc2_long, xc2_none, xisaT_ref, xisaT_ra, xisaT_null, xc1T_int, xc1T_ref, xc1T_ra, xc1T_null, xsum_nil, xsum_int, xsum_ref, xsum_ra, xsum_long, xsum_double, xsum_null, xfl_nil, xfl_int, xfl_ref, xfl_ra, xfl_null, xfl_long, xfl_double, List.length_cons, List.length_nil, h0, hn, tt, Int.le_refl, xfk, xfv, xak, xan, xcls, xsv', List.getElem?_cons_zero, List.getElem?_cons_succ, List.getD_cons_zero, List.getD_cons_succ, Option.getD_some, Option.isSome_some, if_true, if_pos, xcont, Option.toList_none, Option.toList_some, List.nil_append, List.cons_append]
  | succ m ih =>
    intro t g y2 y3 hn hF hFC hR hO hW ht ht0
    have tt : ti t = t := ti_eq (by omega) (by omega)
    have tn : ti n = n := ti_eq (by omega) (by omega)
    have hlt : ¬ n ≤ t := by omega
    have b2 : t < 200 := by omega
    have hnx := OrI_next hO hW ht0 hFC
    have hW5 : rg g (l + 5) (-1000) 1000 := fun j => by have := hW.1 j; omega
    have clr := fun Q => c_lowestReady (X := X) (d := d) (Q := Q) hS hn (show 0 ≤ n by omega) hn2 hF hO.2.2.2.2.2 hW5
    rw [hnx] at clr
    obtain ⟨x, ex⟩ : ∃ x, onx F R (g (l + 3)) t = x := ⟨_, rfl⟩
    rw [ex] at clr
    by_cases hx : x < 0
    · have tx : ti x = x := by
        rcases low_spec (p := fun c => cb (F c = true ∧ ¬ oin (g (l + 3)) t c ∧ ∀ o, 0 ≤ o → o < 200 → F o = true → R c o → oin (g (l + 3)) t o)) 200 0 with ⟨e, _⟩ | ⟨e1, e2, _⟩
        · unfold onx at ex; rw [ex] at e; rw [e]; decide
        · unfold onx at ex; rw [ex] at e1; omega
      have hx' : ¬ 0 ≤ x := by omega
      refine ⟨t, g, fun _ _ _ _ _ => rfl, fun _ _ => rfl, ht0, by omega, hO, hW.1, by rw [ex]; exact hx, fun Q => ?_⟩
      rw [w_iload_n1 (pc' := 45) q104 d104_44 rfl]
      simp (config := { decide := true }) only [w_aload_n0 (pc' := 46) q104 d104_45 rfl, w_getI (pc' := 49) q104 d104_46 rfl f104_38, w_icmp_ge (tg := 145) (pc' := 52) q104 d104_49 (by decide) rfl, w_aload_n0 (pc' := 53) q104 d104_52 rfl, w_invv0 (ci := 6) (pc' := 56) q104 d104_53 rfl n104_101 k104_101_6 m107.1, w_istore_n2 (pc' := 57) q104 d104_56 rfl, w_iload_n2 (pc' := 58) q104 d104_57 rfl, w_if_ge (tg := 64) (pc' := 61) q104 d104_58 (by decide) rfl, w_goto (tg := 145) q104 d104_61 (by decide), w_return q104 d104_145 m104.2.1, gs_off, gs_off0, gs_0off, gs_2, xN_0, xN_2, xN_3, xN_6, xN_7, xN_8, xN_9, xN_10, xN_11, xN_12, xN_13, xN_14, xN_15, xN_16, xN_17, xN_18, xN_19, xN_20, xN_21, xN_22, xN_23, xN_24, xN_25, xN_26, xN_27, xN_28, xN_29, xN_30, xN_31, xN_32, xN_33, xN_34, xN_35, xN_36, xN_37, xN_38, xN_39, xN_40, xN_41, xN_42, xN_43, xN_44, xN_45, xN_46, xN_47, xN_48, xN_49, xN_50, xN_51, xN_52, xN_53, xN_54, xN_55, ti_0, ti_1, ti_2, ti_3, ti_4, ti_5, ti_6, ti_7, ti_8, ti_9, ti_10, ti_16, ti_19, ti_20, ti_29, ti_30, ti_31, ti_32, ti_35, ti_36, ti_38, ti_39, ti_40, ti_41, ti_42, ti_43, ti_44, ti_45, ti_46, ti_47, ti_48, ti_49, ti_50, ti_51, ti_52, ti_53, ti_54, ti_55, ti_56, ti_57, ti_58, ti_59, ti_60, ti_61, ti_62, ti_63, ti_64, ti_65, ti_74, ti_77, ti_126, ti_200, ti_201, ti_202, ti_203, ti_204, ti_205, ti_210, ti_255, ti_256, ti_400, ti_512, ti_600, ti_601, ti_602, ti_1000, ti_1023, ti_1024, ti_2000, ti_10000, ti_12602, ti_999999, ti_m999999, ti_m1, ti_2000000, ti_3000000, xN_1, xN_4, xN_5, xN_60, xN_61, xN_64, xN_200, xN_800, xN_12000, xN_12602, eq_self, and_self, and_true, true_and, if_true, if_false, decide_true, Nat.reduceLeDiff, xc2_int, xc2_ref, xc2_ra, xc2_null, xc2_long, xc2_none, xisaT_ref, xisaT_ra, xisaT_null, xc1T_int, xc1T_ref, xc1T_ra, xc1T_null, xsum_nil, xsum_int, xsum_ref, xsum_ra, xsum_long, xsum_double, xsum_null, xfl_nil, xfl_int, xfl_ref, xfl_ra, xfl_null, xfl_long, xfl_double, List.length_cons, List.length_nil, h0, hn, tt, tn, hlt, clr, tx, hx, hx', xfk, xfv, xak, xan, xcls, xsv', List.getElem?_cons_zero, List.getElem?_cons_succ, List.getD_cons_zero, List.getD_cons_succ, Option.getD_some, Option.isSome_some, if_true, if_pos, xcont, Option.toList_none, Option.toList_some, List.nil_append, List.cons_append]
    · have hx0 : 0 ≤ x := by omega
      obtain ⟨x2, xF, xo, xr⟩ := onx_at (F := F) (R := R) (r := g (l + 3)) (n := t) (by omega)
      rw [ex] at x2 xF xo xr
      have tx : ti x = x := ti_eq (by omega) (by omega)
      obtain ⟨e4, a2, a3, a4, a5, a6⟩ := hO
      obtain ⟨g1, eg1⟩ : ∃ g1, g1 = gs (gs (gs g (l + 3) t x) (l + 4) x t) l 4 (t + 1) := ⟨_, rfl⟩
      have r0 : ∀ h', ¬ h' = l → ¬ h' = l + 3 → ¬ h' = l + 4 → g1 h' = g h' := fun h' k1 k2 k3 => by rw [eg1, gs_row _ _ _ k1, gs_row _ _ _ k3, gs_row _ _ _ k2]
      have rl : ∀ i, ¬ i = 4 → g1 l i = g l i := fun i hi => by
        rw [eg1, gs_at, if_neg hi, gs_row _ _ _ (show ¬ l = l + 4 by omega), gs_row _ _ _ (show ¬ l = l + 3 by omega)]
      have r3 : ∀ i, g1 (l + 3) i = if i = t then x else g (l + 3) i := fun i => by
        rw [eg1, gs_row _ _ _ (show ¬ l + 3 = l by omega), gs_row _ _ _ (show ¬ l + 3 = l + 4 by omega), gs_at]
      have r4 : ∀ i, g1 (l + 4) i = if i = x then t else g (l + 4) i := fun i => by
        rw [eg1, gs_row _ _ _ (show ¬ l + 4 = l by omega), gs_at, gs_row _ _ _ (show ¬ l + 4 = l + 3 by omega)]
      have rl4 : g1 l 4 = t + 1 := by rw [eg1, gs_at, if_pos rfl]
      obtain ⟨f, k1, k2⟩ := l_less (X := X) (d := d) (x := x) (F := F) hS hn2 hx0 x2 hFC (u := t) rfl n.toNat 0 g1 (by rw [rl 2 (by omega)]; exact hn) (by unfold rg; rw [r0 (l + 2) (by omega) (by omega) (by omega)]; exact hF) (r0 (l + 2) (by omega) (by omega) (by omega)) (by omega) (by omega)
      rw [r0 (l + 1) (by omega) (by omega) (by omega), r0 (l + 5) (by omega) (by omega) (by omega)] at k1
      obtain ⟨g2, eg2⟩ : ∃ g2, g2 = gr g1 (l + 5) f := ⟨_, rfl⟩
      have q0 : ∀ h', ¬ h' = l + 5 → g2 h' = g1 h' := fun h' hh => by rw [eg2]; exact gr_row _ _ hh
      have q5 : ∀ i, g2 (l + 5) i = f i := fun i => by rw [eg2, gr_hit]
      have hlt3 : ∀ i, 0 ≤ i → i < t → g (l + 3) i = g2 (l + 3) i := fun i i1 i2 => by rw [q0 _ (by omega), r3, if_neg (by omega)]
      have h2t : g2 (l + 3) t = x := by rw [q0 _ (by omega), r3, if_pos rfl]
      have oinx : ∀ c, oin (g2 (l + 3)) (t + 1) c ↔ oin (g (l + 3)) t c ∨ x = c := fun c => by rw [oin_succ ht0, ← oin_congr hlt3, h2t]
      have hO2 : OrI F R g2 l (t + 1) := by
        refine ⟨by rw [q0 l (by omega)]; exact rl4, fun i i1 i2 => ?_, fun i i1 i2 => ?_, fun c c1 c2 c3 => ?_, fun j => ?_, fun j => ?_⟩
        · by_cases e : i = t
          · subst e
            rw [← onx_congr (F := F) (R := R) (fun _ _ _ => rfl) (fun _ _ _ _ _ _ => Iff.rfl) hlt3, h2t, ex]
            exact ⟨rfl, hx0⟩
          · rw [← hlt3 i i1 (by omega), ← onx_congr (F := F) (R := R) (fun _ _ _ => rfl) (fun _ _ _ _ _ _ => Iff.rfl) (fun j j1 j2 => hlt3 j j1 (by omega))]
            exact a2 i i1 (by omega)
        · rw [q0 (l + 4) (by omega), r4]
          by_cases e : i = t
          · subst e; rw [h2t, if_pos rfl]
          · rw [← hlt3 i i1 (by omega), if_neg (fun e2 => xo ⟨i, i1, by omega, e2⟩)]
            exact a3 i i1 (by omega)
        · rw [oinx] at c3
          rw [q0 (l + 4) (by omega), r4, if_neg (fun e => c3 (.inr e.symm))]
          exact a4 c c1 c2 (fun h => c3 (.inl h))
        · rw [q0 (l + 3) (by omega), r3]; split
          · omega
          · exact a5 j
        · rw [q0 (l + 4) (by omega), r4]; split
          · omega
          · exact a6 j
      have hfF : ∀ c, 0 ≤ c → c < 200 → F c = true → f c = owt F R (g2 (l + 3)) (t + 1) c := fun c c1 c2 hc => by
        rw [owt_step ht0 (by rw [h2t]; exact hx0) (by rw [h2t]; exact x2) (by rw [h2t]; exact xF) (by rw [h2t, ← oin_congr hlt3]; exact xo), h2t, ← owt_congr hlt3, k1 c, hW.2 c c1 c2 hc]
        have : cb ((∃ q, 0 ≤ q ∧ q < n ∧ g (l + 2) q = c) ∧ bt (g (l + 1)) c x = true) = cb (R c x) := bool_ext (by
          rw [cb_iff, cb_iff, hR c x c1 c2 hx0 x2]
          exact ⟨fun h => h.2, fun h => ⟨FC_at hFC c1 c2 hc, h⟩⟩)
        rw [this]
      have hW2 : WaI F R g2 l (t + 1) := by
        refine ⟨fun j => ?_, fun c c1 c2 hc => by rw [q5]; exact hfF c c1 c2 hc⟩
        rw [q5]
        by_cases e : ∃ q, 0 ≤ q ∧ q < n ∧ g (l + 2) q = j
        · obtain ⟨q, q1, q2, q3⟩ := e
          obtain ⟨c, c1, c2, c3, c4⟩ := FC_ex hFC q1 q2
          have ec : j = c := q3.symm.trans c4
          rw [ec, hfF c c1 c2 c3]
          exact owt_rng
        · rw [k1 j, if_neg (fun h => e (cb_iff.mp h).1), Int.sub_zero]
          exact hW.1 j
      obtain ⟨t', g', j1, j2, j3, j4, j5, j6, j7, j8⟩ := ih (t + 1) g2 (some (.int (iI x))) (some (.int (iI n))) (by rw [q0 l (by omega), rl 2 (by omega)]; exact hn) (by unfold rg; rw [q0 (l + 2) (by omega), r0 (l + 2) (by omega) (by omega) (by omega)]; exact hF) (by rw [q0 (l + 2) (by omega), r0 (l + 2) (by omega) (by omega) (by omega)]; exact hFC) (by rw [q0 (l + 1) (by omega), r0 (l + 1) (by omega) (by omega) (by omega)]; exact hR) hO2 hW2 (by omega) (by omega)
      refine ⟨t', g', fun h' b1 b2 b3 b4 => ?_, fun i hi => ?_, j3, j4, j5, j6, j7, fun Q => ?_⟩
      · rw [j1 h' b1 b2 b3 b4, q0 h' b4, r0 h' b1 b2 b3]
      · rw [j2 i hi, q0 l (by omega), rl i hi]
      · have z1 : ¬ x < 0 := hx
        rw [w_iload_n1 (pc' := 45) q104 d104_44 rfl]
        simp (config := { decide := true }) only [w_aload_n0 (pc' := 46) q104 d104_45 rfl, w_getI (pc' := 49) q104 d104_46 rfl f104_38, w_icmp_ge (tg := 145) (pc' := 52) q104 d104_49 (by decide) rfl, w_aload_n0 (pc' := 53) q104 d104_52 rfl, w_invv0 (ci := 6) (pc' := 56) q104 d104_53 rfl n104_101 k104_101_6 m107.1, w_istore_n2 (pc' := 57) q104 d104_56 rfl, w_iload_n2 (pc' := 58) q104 d104_57 rfl, w_if_ge (tg := 64) (pc' := 61) q104 d104_58 (by decide) rfl, w_goto (tg := 145) q104 d104_61 (by decide), w_aload_n0 (pc' := 65) q104 d104_64 rfl, w_getV (pc' := 68) q104 d104_65 rfl f104_19, w_aload_n0 (pc' := 69) q104 d104_68 rfl, w_getI (pc' := 72) q104 d104_69 rfl f104_95, w_iload_n2 (pc' := 73) q104 d104_72 rfl, w_iastore (pc' := 74) q104 d104_73 rfl, w_aload_n0 (pc' := 75) q104 d104_74 rfl, w_getV (pc' := 78) q104 d104_75 rfl f104_22, w_iload_n2 (pc' := 79) q104 d104_78 rfl, w_aload_n0 (pc' := 80) q104 d104_79 rfl, w_getI (pc' := 83) q104 d104_80 rfl f104_95, w_iastore (pc' := 84) q104 d104_83 rfl, w_aload_n0 (pc' := 85) q104 d104_84 rfl, w_dup (pc' := 86) q104 d104_85 rfl, w_getI (pc' := 89) q104 d104_86 rfl f104_95, w_iconst (pc' := 90) q104 d104_89 rfl, w_iadd (pc' := 91) q104 d104_90 rfl, w_putI (pc' := 94) q104 d104_91 rfl f104_95 rfl (by decide +kernel), w_iconst (pc' := 95) q104 d104_94 rfl, w_istore_n3 (pc' := 96) q104 d104_95 rfl, gs_off, gs_off0, gs_0off, gs_2, xN_0, xN_2, xN_3, xN_6, xN_7, xN_8, xN_9, xN_10, xN_11, xN_12, xN_13, xN_14, xN_15, xN_16, xN_17, xN_18, xN_19, xN_20, xN_21, xN_22, xN_23, xN_24, xN_25, xN_26, xN_27, xN_28, xN_29, xN_30, xN_31, xN_32, xN_33, xN_34, xN_35, xN_36, xN_37, xN_38, xN_39, xN_40, xN_41, xN_42, xN_43, xN_44, xN_45, xN_46, xN_47, xN_48, xN_49, xN_50, xN_51, xN_52, xN_53, xN_54, xN_55, ti_0, ti_1, ti_2, ti_3, ti_4, ti_5, ti_6, ti_7, ti_8, ti_9, ti_10, ti_16, ti_19, ti_20, ti_29, ti_30, ti_31, ti_32, ti_35, ti_36, ti_38, ti_39, ti_40, ti_41, ti_42, ti_43, ti_44, ti_45, ti_46, ti_47, ti_48, ti_49, ti_50, ti_51, ti_52, ti_53, ti_54, ti_55, ti_56, ti_57, ti_58, ti_59, ti_60, ti_61, ti_62, ti_63, ti_64, ti_65, ti_74, ti_77, ti_126, ti_200, ti_201, ti_202, ti_203, ti_204, ti_205, ti_210, ti_255, ti_256, ti_400, ti_512, ti_600, ti_601, ti_602, ti_1000, ti_1023, ti_1024, ti_2000, ti_10000, ti_12602, ti_999999, ti_m999999, ti_m1, ti_2000000, ti_3000000, xN_1, xN_4, xN_5, xN_60, xN_61, xN_64, xN_200, xN_800, xN_12000, xN_12602, eq_self, and_self, and_true, true_and, if_true, if_false, decide_true, Nat.reduceLeDiff, xc2_int, xc2_ref, xc2_ra, xc2_null, xc2_long, xc2_none, xisaT_ref, xisaT_ra, xisaT_null, xc1T_int, xc1T_ref, xc1T_ra, xc1T_null, xsum_nil, xsum_int, xsum_ref, xsum_ra, xsum_long, xsum_double, xsum_null, xfl_nil, xfl_int, xfl_ref, xfl_ra, xfl_null, xfl_long, xfl_double, List.length_cons, List.length_nil, h0, h2, h3, h4, hn, e4, tt, tn, hlt, ht0, b2, clr, tx, hx0, x2, z1, xfk, xfv, xak, xan, xcls, xsv', List.getElem?_cons_zero, List.getElem?_cons_succ, List.getD_cons_zero, List.getD_cons_succ, Option.getD_some, Option.isSome_some, if_true, if_pos, xcont, Option.toList_none, Option.toList_some, List.nil_append, List.cons_append]
        rw [← eg1, k2 Q, ← eg2]
        simp (config := { decide := true }) only [w_iinc1 (z := (1)) (pc' := 142) q104 d104_139 rfl, w_goto (tg := 44) q104 d104_142 (by decide), gs_off, gs_off0, gs_0off, gs_2, xN_0, xN_2, xN_3, xN_6, xN_7, xN_8, xN_9, xN_10, xN_11, xN_12, xN_13, xN_14, xN_15, xN_16, xN_17, xN_18, xN_19, xN_20, xN_21, xN_22, xN_23, xN_24, xN_25, xN_26, xN_27, xN_28, xN_29, xN_30, xN_31, xN_32, xN_33, xN_34, xN_35, xN_36, xN_37, xN_38, xN_39, xN_40, xN_41, xN_42, xN_43, xN_44, xN_45, xN_46, xN_47, xN_48, xN_49, xN_50, xN_51, xN_52, xN_53, xN_54, xN_55, ti_0, ti_1, ti_2, ti_3, ti_4, ti_5, ti_6, ti_7, ti_8, ti_9, ti_10, ti_16, ti_19, ti_20, ti_29, ti_30, ti_31, ti_32, ti_35, ti_36, ti_38, ti_39, ti_40, ti_41, ti_42, ti_43, ti_44, ti_45, ti_46, ti_47, ti_48, ti_49, ti_50, ti_51, ti_52, ti_53, ti_54, ti_55, ti_56, ti_57, ti_58, ti_59, ti_60, ti_61, ti_62, ti_63, ti_64, ti_65, ti_74, ti_77, ti_126, ti_200, ti_201, ti_202, ti_203, ti_204, ti_205, ti_210, ti_255, ti_256, ti_400, ti_512, ti_600, ti_601, ti_602, ti_1000, ti_1023, ti_1024, ti_2000, ti_10000, ti_12602, ti_999999, ti_m999999, ti_m1, ti_2000000, ti_3000000, xN_1, xN_4, xN_5, xN_60, xN_61, xN_64, xN_200, xN_800, xN_12000, xN_12602, eq_self, and_self, and_true, true_and, if_true, if_false, decide_true, Nat.reduceLeDiff, xc2_int, xc2_ref, xc2_ra, xc2_null, xc2_long, xc2_none, xisaT_ref, xisaT_ra, xisaT_null, xc1T_int, xc1T_ref, xc1T_ra, xc1T_null, xsum_nil, xsum_int, xsum_ref, xsum_ra, xsum_long, xsum_double, xsum_null, xfl_nil, xfl_int, xfl_ref, xfl_ra, xfl_null, xfl_long, xfl_double, List.length_cons, List.length_nil, xfk, xfv, xak, xan, xcls, xsv', List.getElem?_cons_zero, List.getElem?_cons_succ, List.getD_cons_zero, List.getD_cons_succ, Option.getD_some, Option.isSome_some, if_true, if_pos, xcont, Option.toList_none, Option.toList_some, List.nil_append, List.cons_append]
        exact j8 Q
/-- what a sheet's links are -/
def rfC (g : xGm) (b : Nat) (c o : Int) : Prop := g (b + 1) c = 2 ∧ ∃ q, 0 ≤ q ∧ q < g (b + 4) c ∧ rfT (g (b + 5) (c * 60 + q)) o
def fmC (g : xGm) (b : Nat) (c : Int) : Bool := decide (g (b + 1) c = 2)
def LkI (F : Int → Bool) (R : Int → Int → Prop) (g : xGm) (l : Nat) : Prop :=
  (∀ c o, 0 ≤ c → c < 200 → 0 ≤ o → o < 256 → (bt (g (l + 1)) c o = true ↔ R c o)) ∧ FC (g (l + 2)) (g l 2) F ∧ rg g (l + 2) 0 199 ∧ (0 ≤ g l 4 ∧ g l 4 ≤ g l 2) ∧ OrI F R g l (g l 4) ∧ rg g (l + 5) 0 200 ∧ onx F R (g (l + 3)) (g l 4) < 0
theorem c_buildOrder {l : Nat} {n : Int} {F : Int → Bool} {R : Int → Int → Prop} (hS : LkS S l) (hn : g l 2 = n) (hF : rg g (l + 2) 0 199) (hFC : FC (g (l + 2)) n F) (hR : ∀ c o, 0 ≤ c → c < 200 → 0 ≤ o → o < 256 → (bt (g (l + 1)) c o = true ↔ R c o)) (hP : ∀ c, 0 ≤ c → c < 200 → g (l + 4) c = -1) (h3r : rg g (l + 3) 0 199) (h4r : rg g (l + 4) (-1) 199) (h5r : rg g (l + 5) 0 200) :
    ∃ g', (∀ h, ¬ h = l → ¬ h = l + 3 → ¬ h = l + 4 → ¬ h = l + 5 → g' h = g h) ∧ LkI F R g' l ∧ ∀ Q, Cw X (d + 2) 104 [.ref l] (hp S g) Q = Q (.inl none) (hp S g') := by
  have h0 := hS.1
  have hnr := ind_rng F 200 0
  have hn0 : 0 ≤ n := by rw [hFC.1]; exact hnr.1
  have hn2 : n ≤ 200 := by rw [hFC.1]; exact hnr.2
  obtain ⟨cnt, ecnt⟩ : ∃ cnt : Int → Int, cnt = fun c => sumf (fun i => if bt (g (l + 1)) c (g (l + 2) i) = true then 1 else 0) 0 n.toNat := ⟨_, rfl⟩
  have hcnt : ∀ c, 0 ≤ c → c < 200 → cnt c = owt F R (g (l + 3)) 0 c := fun c c1 c2 => by
    rw [ecnt]
    show sumf (fun i => if bt (g (l + 1)) c (g (l + 2) i) = true then 1 else 0) 0 n.toNat = _
    rw [sumf_FC hFC (fun o => if bt (g (l + 1)) c o = true then 1 else 0)]
    unfold owt
    refine sumf_congr 200 0 (fun o o1 o2 => ?_)
    unfold ind
    by_cases e : F o = true
    · rw [if_pos e]
      by_cases e2 : bt (g (l + 1)) c o = true
      · rw [if_pos e2, if_pos]
        rw [cb_iff]
        exact ⟨e, (hR c o c1 c2 o1 (by omega)).mp e2, fun ⟨i, i1, i2, _⟩ => by omega⟩
      · rw [if_neg e2, if_neg]
        rw [cb_iff]
        exact fun h => e2 ((hR c o c1 c2 o1 (by omega)).mpr h.2.1)
    · rw [if_neg e, if_neg]
      rw [cb_iff]
      exact fun h => e h.1
  obtain ⟨g9, eg9⟩ : ∃ g9, g9 = gs g l 4 0 := ⟨_, rfl⟩
  have r9 : ∀ h', ¬ h' = l → g9 h' = g h' := fun h' hh => by rw [eg9]; exact gs_row _ _ _ hh
  have r9l : ∀ i, ¬ i = 4 → g9 l i = g l i := fun i hi => by rw [eg9, gs_at, if_neg hi]
  obtain ⟨f, k1, k2, k3⟩ := l_waits (X := X) (d := d) (cnt := cnt) hS hn0 hn2 n.toNat 0 g9 (by rw [r9l 2 (by omega)]; exact hn) (by unfold rg; rw [r9 _ (by omega)]; exact hF) (by rw [r9 _ (by omega), r9 _ (by omega), ecnt]; exact fun c _ _ => rfl) (by omega) (by omega)
  rw [r9 _ (by omega)] at k1 k2
  obtain ⟨g1, eg1⟩ : ∃ g1, g1 = gr g9 (l + 5) f := ⟨_, rfl⟩
  have r1 : ∀ h', ¬ h' = l → ¬ h' = l + 5 → g1 h' = g h' := fun h' hh h2 => by rw [eg1, gr_row _ _ h2]; exact r9 h' hh
  have r1l : ∀ i, g1 l i = g9 l i := fun i => by rw [eg1, gr_row _ _ (by omega)]
  have hfr : rg g1 (l + 5) 0 200 := fun j => by
    rw [eg1, gr_hit]
    rcases k1 j with e | ⟨e, e1, e2⟩
    · rw [e]; exact h5r j
    · rw [e, hcnt j e1 e2]; exact owt_rng
  obtain ⟨t', g', j1, j2, j3, j4, j5, j6, j7, j8⟩ := l_order (X := X) (d := d + 1) (F := F) (R := R) hS hn2 n.toNat 0 g1 none none (by rw [r1l, r9l 2 (by omega)]; exact hn) (by unfold rg; rw [r1 _ (by omega) (by omega)]; exact hF) (by rw [r1 _ (by omega) (by omega)]; exact hFC) (by rw [r1 _ (by omega) (by omega)]; exact fun c o c1 c2 o1 o2 => (hR c o c1 c2 o1 (by omega)).symm)
    ⟨by rw [r1l, eg9, gs_at, if_pos rfl], fun i i1 i2 => by omega, fun i i1 i2 => by omega, fun c c1 c2 _ => by rw [r1 _ (by omega) (by omega)]; exact hP c c1 c2, by unfold rg; rw [r1 _ (by omega) (by omega)]; exact h3r, by unfold rg; rw [r1 _ (by omega) (by omega)]; exact h4r⟩
    ⟨hfr, fun c c1 c2 hc => by
      obtain ⟨q, q1, q2, q3⟩ := FC_at hFC c1 c2 hc
      have := k2 q q1 q2
      rw [q3] at this
      rw [eg1, gr_hit, this, hcnt c c1 c2]
      exact owt_congr (fun i i1 i2 => by omega)⟩ (by omega) (by omega)
  have e2 : g' l 2 = n := by rw [j2 2 (by omega), r1l, r9l 2 (by omega)]; exact hn
  have e4 : g' l 4 = t' := j5.1
  have el1 : g' (l + 1) = g (l + 1) := by rw [j1 _ (by omega) (by omega) (by omega) (by omega), r1 _ (by omega) (by omega)]
  have el2 : g' (l + 2) = g (l + 2) := by rw [j1 _ (by omega) (by omega) (by omega) (by omega), r1 _ (by omega) (by omega)]
  refine ⟨g', fun h' b1 b2 b3 b4 => ?_, ⟨by rw [el1]; exact hR, by rw [el2, e2]; exact hFC, by unfold rg; rw [el2]; exact hF, by rw [e2, e4]; exact ⟨j3, j4⟩, by rw [e4]; exact j5, j6, by rw [e4]; exact j7⟩, fun Q => ?_⟩
  · rw [j1 h' b1 b2 b3 b4, r1 h' b1 b4]
  · rw [e104]
    simp (config := { decide := true }) only [w_aload_n0 (pc' := 1) q104 d104_0 rfl, w_iconst (pc' := 2) q104 d104_1 rfl, w_putI (pc' := 5) q104 d104_2 rfl f104_95 rfl (by decide +kernel), w_iconst (pc' := 6) q104 d104_5 rfl, w_istore_n1 (pc' := 7) q104 d104_6 rfl, gs_off, gs_off0, gs_0off, gs_2, xN_0, xN_2, xN_3, xN_6, xN_7, xN_8, xN_9, xN_10, xN_11, xN_12, xN_13, xN_14, xN_15, xN_16, xN_17, xN_18, xN_19, xN_20, xN_21, xN_22, xN_23, xN_24, xN_25, xN_26, xN_27, xN_28, xN_29, xN_30, xN_31, xN_32, xN_33, xN_34, xN_35, xN_36, xN_37, xN_38, xN_39, xN_40, xN_41, xN_42, xN_43, xN_44, xN_45, xN_46, xN_47, xN_48, xN_49, xN_50, xN_51, xN_52, xN_53, xN_54, xN_55, ti_0, ti_1, ti_2, ti_3, ti_4, ti_5, ti_6, ti_7, ti_8, ti_9, ti_10, ti_16, ti_19, ti_20, ti_29, ti_30, ti_31, ti_32, ti_35, ti_36, ti_38, ti_39, ti_40, ti_41, ti_42, ti_43, ti_44, ti_45, ti_46, ti_47, ti_48, ti_49, ti_50, ti_51, ti_52, ti_53, ti_54, ti_55, ti_56, ti_57, ti_58, ti_59, ti_60, ti_61, ti_62, ti_63, ti_64, ti_65, ti_74, ti_77, ti_126, ti_200, ti_201, ti_202, ti_203, ti_204, ti_205, ti_210, ti_255, ti_256, ti_400, ti_512, ti_600, ti_601, ti_602, ti_1000, ti_1023, ti_1024, ti_2000, ti_10000, ti_12602, ti_999999, ti_m999999, ti_m1, ti_2000000, ti_3000000, xN_1, xN_4, xN_5, xN_60, xN_61, xN_64, xN_200, xN_800, xN_12000, xN_12602, eq_self, and_self, and_true, true_and, if_true, if_false, decide_true, Nat.reduceLeDiff, xc2_int, xc2_ref, xc2_ra, xc2_null, xc2_long, xc2_none, xisaT_ref, xisaT_ra, xisaT_null, xc1T_int, xc1T_ref, xc1T_ra, xc1T_null, xsum_nil, xsum_int, xsum_ref, xsum_ra, xsum_long, xsum_double, xsum_null, xfl_nil, xfl_int, xfl_ref, xfl_ra, xfl_null, xfl_long, xfl_double, List.length_cons, List.length_nil, h0, xfk, xfv, xak, xan, xcls, xsv', List.getElem?_cons_zero, List.getElem?_cons_succ, List.getD_cons_zero, List.getD_cons_succ, Option.getD_some, Option.isSome_some, if_true, if_pos, xcont, Option.toList_none, Option.toList_some, List.nil_append, List.cons_append]
    rw [← eg9, k3 Q, ← eg1]
    have := j8 Q
    simp (config := { decide := true }) only [w_iconst (pc' := 43) q104 d104_42 rfl, w_istore_n1 (pc' := 44) q104 d104_43 rfl, gs_off, gs_off0, gs_0off, gs_2, xN_0, xN_2, xN_3, xN_6, xN_7, xN_8, xN_9, xN_10, xN_11, xN_12, xN_13, xN_14, xN_15, xN_16, xN_17, xN_18, xN_19, xN_20, xN_21, xN_22, xN_23, xN_24, xN_25, xN_26, xN_27, xN_28, xN_29, xN_30, xN_31, xN_32, xN_33, xN_34, xN_35, xN_36, xN_37, xN_38, xN_39, xN_40, xN_41, xN_42, xN_43, xN_44, xN_45, xN_46, xN_47, xN_48, xN_49, xN_50, xN_51, xN_52, xN_53, xN_54, xN_55, ti_0, ti_1, ti_2, ti_3, ti_4, ti_5, ti_6, ti_7, ti_8, ti_9, ti_10, ti_16, ti_19, ti_20, ti_29, ti_30, ti_31, ti_32, ti_35, ti_36, ti_38, ti_39, ti_40, ti_41, ti_42, ti_43, ti_44, ti_45, ti_46, ti_47, ti_48, ti_49, ti_50, ti_51, ti_52, ti_53, ti_54, ti_55, ti_56, ti_57, ti_58, ti_59, ti_60, ti_61, ti_62, ti_63, ti_64, ti_65, ti_74, ti_77, ti_126, ti_200, ti_201, ti_202, ti_203, ti_204, ti_205, ti_210, ti_255, ti_256, ti_400, ti_512, ti_600, ti_601, ti_602, ti_1000, ti_1023, ti_1024, ti_2000, ti_10000, ti_12602, ti_999999, ti_m999999, ti_m1, ti_2000000, ti_3000000, xN_1, xN_4, xN_5, xN_60, xN_61, xN_64, xN_200, xN_800, xN_12000, xN_12602, eq_self, and_self, and_true, true_and, if_true, if_false, decide_true, Nat.reduceLeDiff, xc2_int, xc2_ref, xc2_ra, xc2_null, xc2_long, xc2_none, xisaT_ref, xisaT_ra, xisaT_null, xc1T_int, xc1T_ref, xc1T_ra, xc1T_null, xsum_nil, xsum_int, xsum_ref, xsum_ra, xsum_long, xsum_double, xsum_null, xfl_nil, xfl_int, xfl_ref, xfl_ra, xfl_null, xfl_long, xfl_double, List.length_cons, List.length_nil, xfk, xfv, xak, xan, xcls, xsv', List.getElem?_cons_zero, List.getElem?_cons_succ, List.getD_cons_zero, List.getD_cons_succ, Option.getD_some, Option.isSome_some, if_true, if_pos, xcont, Option.toList_none, Option.toList_some, List.nil_append, List.cons_append]
    exact this
end
