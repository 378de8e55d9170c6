/-! The model: names, factors -/
section
variable {X : xX} {S : xLm} {g : xGm} {d : Nat} {w : xH} {Q : xO → xH → Prop}
def pfF (ch : Int → Int) (a : Int) (k : Int) (L : List Int) : Int × Int := if sml ch a L = L.length then (k, L.length) else (-1, sml ch a L)
theorem sml_no {ch : Int → Int} {a c : Int} {L : List Int} (h : ¬ ch a = c) : sml ch a (c :: L) = 0 := by rw [sml, if_neg h]
theorem sml_ok {ch : Int → Int} {a c : Int} {L : List Int} (h : ch a = c) : sml ch a (c :: L) = 1 + sml ch (a + 1) L := by rw [sml, if_pos h]
theorem wd_skip {ch : Int → Int} {a c : Int} {L : List Int} (m k : Nat) (l : Int) (hw : wdL k = c :: L) (hl : 0 ≤ l) (h : ¬ ch a = c) : wdF ch a (m + 1) k l = wdF ch a m (k + 1) l := by
  rw [wdF, hw, sml_no h, if_neg (by simp only [List.length_cons]; omega)]
  congr 1
  unfold imax; rw [if_neg (by omega)]
theorem wd_take {ch : Int → Int} {a : Int} (m k : Nat) (l : Int) : wdF ch a (m + 1) k l = if sml ch a (wdL k) = (wdL k).length then ((k : Int), ((wdL k).length : Int)) else wdF ch a m (k + 1) (imax l (sml ch a (wdL k))) := rfl
theorem wd_S {ch : Int → Int} {a : Int} (h : ch a = 83) : wdF ch a 6 0 0 = pfF ch a 0 [83, 85, 77, 40] := by
  have hr := sml_rng ch [83, 85, 77, 40] a
  have h1 : ¬ ch a = 77 := by omega
  have h2 : ¬ ch a = 67 := by omega
  have h3 : ¬ ch a = 65 := by omega
  have h4 : ¬ ch a = 73 := by omega
  rw [wd_take]
  unfold pfF
  show (if sml ch a [83, 85, 77, 40] = _ then _ else _) = _
  by_cases hs : sml ch a [83, 85, 77, 40] = ([83, 85, 77, 40] : List Int).length
  · rw [if_pos hs, if_pos hs]; rfl
  · have hl : 0 ≤ imax 0 (sml ch a [83, 85, 77, 40]) := by unfold imax; split <;> omega
    rw [if_neg hs, if_neg hs, wd_skip 4 1 _ rfl hl h1, wd_skip 3 2 _ rfl hl h1, wd_skip 2 3 _ rfl hl h2, wd_skip 1 4 _ rfl hl h3, wd_skip 0 5 _ rfl hl h4, wdF]
    congr 1
    unfold imax; split <;> omega
theorem wd_MI {ch : Int → Int} {a : Int} (h : ch a = 77) (h' : ch (a + 1) = 73) : wdF ch a 6 0 0 = pfF ch a 1 [77, 73, 78, 40] := by
  have hr := sml_rng ch [77, 73, 78, 40] a
  have hr2 : 1 ≤ sml ch a [77, 73, 78, 40] := by rw [sml_ok h, sml_ok h']; have := sml_rng ch [78, 40] (a + 1 + 1); omega
  have h1 : ¬ ch a = 83 := by omega
  have h2 : ¬ ch a = 67 := by omega
  have h3 : ¬ ch a = 65 := by omega
  have h4 : ¬ ch a = 73 := by omega
  rw [wd_skip 5 0 _ rfl (Int.le_refl _) h1, wd_take]
  unfold pfF
  show (if sml ch a [77, 73, 78, 40] = _ then _ else _) = _
  by_cases hs : sml ch a [77, 73, 78, 40] = ([77, 73, 78, 40] : List Int).length
  · rw [if_pos hs, if_pos hs]; rfl
  · have hl : 0 ≤ imax 0 (sml ch a [77, 73, 78, 40]) := by unfold imax; split <;> omega
    have hmx : sml ch a (wdL 2) = 1 := by
      show sml ch a [77, 65, 88, 40] = 1
      rw [sml_ok h, sml_no (show ¬ ch (a + 1) = 65 by omega)]; rfl
    rw [if_neg hs, if_neg hs, wd_take 3 2, if_neg (by rw [hmx]; decide), hmx]
    have hl2 : 0 ≤ imax (imax 0 (sml ch a [77, 73, 78, 40])) 1 := by unfold imax; split <;> omega
    rw [wd_skip 2 3 _ rfl hl2 h2, wd_skip 1 4 _ rfl hl2 h3, wd_skip 0 5 _ rfl hl2 h4, wdF]
    congr 1
    unfold imax; split <;> split <;> omega
theorem wd_MA {ch : Int → Int} {a : Int} (h : ch a = 77) (h' : ¬ ch (a + 1) = 73) : wdF ch a 6 0 0 = pfF ch a 2 [77, 65, 88, 40] := by
  have hr := sml_rng ch [77, 65, 88, 40] a
  have hr2 : 1 ≤ sml ch a [77, 65, 88, 40] := by rw [sml_ok h]; have := sml_rng ch [65, 88, 40] (a + 1); omega
  have h1 : ¬ ch a = 83 := by omega
  have h2 : ¬ ch a = 67 := by omega
  have h3 : ¬ ch a = 65 := by omega
  have h4 : ¬ ch a = 73 := by omega
  have hmi : sml ch a (wdL 1) = 1 := by
    show sml ch a [77, 73, 78, 40] = 1
    rw [sml_ok h, sml_no h']; rfl
  rw [wd_skip 5 0 _ rfl (Int.le_refl _) h1, wd_take 4 1, if_neg (by rw [hmi]; decide), hmi, wd_take 3 2]
  unfold pfF
  show (if sml ch a [77, 65, 88, 40] = _ then _ else _) = _
  by_cases hs : sml ch a [77, 65, 88, 40] = ([77, 65, 88, 40] : List Int).length
  · rw [if_pos hs, if_pos hs]; rfl
  · have hl2 : 0 ≤ imax (imax 0 1) (sml ch a [77, 65, 88, 40]) := by unfold imax; split <;> omega
    rw [if_neg hs, if_neg hs, wd_skip 2 3 _ rfl hl2 h2, wd_skip 1 4 _ rfl hl2 h3, wd_skip 0 5 _ rfl hl2 h4, wdF]
    congr 1
    unfold imax; rw [if_pos (by decide)]; split <;> omega
theorem wd_C {ch : Int → Int} {a : Int} (h : ch a = 67) : wdF ch a 6 0 0 = pfF ch a 3 [67, 79, 85, 78, 84, 40] := by
  have hr := sml_rng ch [67, 79, 85, 78, 84, 40] a
  have h1 : ¬ ch a = 83 := by omega
  have h2 : ¬ ch a = 77 := by omega
  have h3 : ¬ ch a = 65 := by omega
  have h4 : ¬ ch a = 73 := by omega
  rw [wd_skip 5 0 _ rfl (Int.le_refl _) h1, wd_skip 4 1 _ rfl (Int.le_refl _) h2, wd_skip 3 2 _ rfl (Int.le_refl _) h2, wd_take 2 3]
  unfold pfF
  show (if sml ch a [67, 79, 85, 78, 84, 40] = _ then _ else _) = _
  by_cases hs : sml ch a [67, 79, 85, 78, 84, 40] = ([67, 79, 85, 78, 84, 40] : List Int).length
  · rw [if_pos hs, if_pos hs]; rfl
  · have hl : 0 ≤ imax 0 (sml ch a [67, 79, 85, 78, 84, 40]) := by unfold imax; split <;> omega
    rw [if_neg hs, if_neg hs, wd_skip 1 4 _ rfl hl h3, wd_skip 0 5 _ rfl hl h4, wdF]
    congr 1
    unfold imax; split <;> omega
theorem wd_A {ch : Int → Int} {a : Int} (h : ch a = 65) : wdF ch a 6 0 0 = pfF ch a 4 [65, 66, 83, 40] := by
  have hr := sml_rng ch [65, 66, 83, 40] a
  have h1 : ¬ ch a = 83 := by omega
  have h2 : ¬ ch a = 77 := by omega
  have h3 : ¬ ch a = 67 := by omega
  have h4 : ¬ ch a = 73 := by omega
  rw [wd_skip 5 0 _ rfl (Int.le_refl _) h1, wd_skip 4 1 _ rfl (Int.le_refl _) h2, wd_skip 3 2 _ rfl (Int.le_refl _) h2, wd_skip 2 3 _ rfl (Int.le_refl _) h3, wd_take 1 4]
  unfold pfF
  show (if sml ch a [65, 66, 83, 40] = _ then _ else _) = _
  by_cases hs : sml ch a [65, 66, 83, 40] = ([65, 66, 83, 40] : List Int).length
  · rw [if_pos hs, if_pos hs]; rfl
  · have hl : 0 ≤ imax 0 (sml ch a [65, 66, 83, 40]) := by unfold imax; split <;> omega
    rw [if_neg hs, if_neg hs, wd_skip 0 5 _ rfl hl h4, wdF]
    congr 1
    unfold imax; split <;> omega
theorem wd_I {ch : Int → Int} {a : Int} (h : ch a = 73) : wdF ch a 6 0 0 = pfF ch a 5 [73, 70, 40] := by
  have hr := sml_rng ch [73, 70, 40] a
  have h1 : ¬ ch a = 83 := by omega
  have h2 : ¬ ch a = 77 := by omega
  have h3 : ¬ ch a = 67 := by omega
  have h4 : ¬ ch a = 65 := by omega
  rw [wd_skip 5 0 _ rfl (Int.le_refl _) h1, wd_skip 4 1 _ rfl (Int.le_refl _) h2, wd_skip 3 2 _ rfl (Int.le_refl _) h2, wd_skip 2 3 _ rfl (Int.le_refl _) h3, wd_skip 1 4 _ rfl (Int.le_refl _) h4, wd_take 0 5]
  unfold pfF
  show (if sml ch a [73, 70, 40] = _ then _ else _) = _
  by_cases hs : sml ch a [73, 70, 40] = ([73, 70, 40] : List Int).length
  · rw [if_pos hs, if_pos hs]; rfl
  · rw [if_neg hs, if_neg hs, wdF]
    congr 1
    unfold imax; split <;> omega
theorem wd_no {ch : Int → Int} {a : Int} (h1 : ¬ ch a = 83) (h2 : ¬ ch a = 77) (h3 : ¬ ch a = 67) (h4 : ¬ ch a = 65) (h5 : ¬ ch a = 73) : wdF ch a 6 0 0 = (-1, 0) := by
  rw [wd_skip 5 0 _ rfl (Int.le_refl _) h1, wd_skip 4 1 _ rfl (Int.le_refl _) h2, wd_skip 3 2 _ rfl (Int.le_refl _) h2, wd_skip 2 3 _ rfl (Int.le_refl _) h3, wd_skip 1 4 _ rfl (Int.le_refl _) h4, wd_skip 0 5 _ rfl (Int.le_refl _) h5, wdF]
/-- a level opens -/
def gL (g : xGm) (m : Nat) (l L : Int) : xGm := gs (gs (gs (gs (gs (gs (gs g m 40 (l + 1)) (m + 22) (l + 1) L) (m + 23) (l + 1) 0) (m + 24) (l + 1) 0) m 41 (if L = 2 then 1 else 0)) m 42 0) m 43 0
theorem gL_Fr {m : Nat} {l L : Int} : FrM g (gL g m l L) m := FrM_trans (FrM_trans (FrM_trans (FrM_trans (FrM_trans (FrM_trans (FrM_slot (by omega)) (FrM_row (by omega))) (FrM_row (by omega))) (FrM_row (by omega))) (FrM_slot (by omega))) (FrM_slot (by omega))) (FrM_slot (by omega))
theorem m_level {m : Nat} {a l L : Int} (hS : MdS S m) (hn : g m 40 = l) (hl : 0 ≤ l) (hl2 : l < 63) (hL : 0 ≤ L ∧ L ≤ 4) : Cw X d 243 [.ref m, .int (iI L)] (hp S (gM g m a 1)) Q = Q (.inl none) (hp S (gM (gL g m l L) m a 1)) := by
  have s0 := hS.1
  have s22 := MdS_22 hS
  have s23 := MdS_23 hS
  have s24 := MdS_24 hS
  have tl' : ti (l + 1) = l + 1 := ti_eq (by omega) (by omega)
  have b1 : 0 ≤ l + 1 := by omega
  have b2 : l + 1 < 64 := by omega
  have tL : ti L = L := ti_eq (by omega) (by omega)
  have z0 : xnz 0 = 0 := by decide
  have z1 : xnz 1 = 1 := by decide
  have e1 : gM g m a 1 m 40 = l := by rw [gM_o (by decide) (by decide)]; exact hn
  have f1 : gM (gs g m 40 (l + 1)) m a 1 m 40 = l + 1 := by rw [gM_o (by decide) (by decide), gs_at, if_pos rfl]
  have f2 : ∀ i z, gM (gs (gs g m 40 (l + 1)) (m + 22) i z) m a 1 m 40 = l + 1 := fun i z => by rw [gM_o (by decide) (by decide), gs_row _ _ _ (by omega), gs_at, if_pos rfl]
  have f3 : ∀ i z i' z', gM (gs (gs (gs g m 40 (l + 1)) (m + 22) i z) (m + 23) i' z') m a 1 m 40 = l + 1 := fun i z i' z' => by rw [gM_o (by decide) (by decide), gs_row _ _ _ (by omega), gs_row _ _ _ (by omega), gs_at, if_pos rfl]
  unfold gL
  rw [e243]
  by_cases h2 : L = 2
  · rw [if_pos h2, h2]
    simp (config := { decide := true }) only [w_aload_n0 (pc' := 1) q243 d243_0 rfl, w_getI (pc' := 4) q243 d243_1 rfl f243_282, w_if_eq (tg := 71) (pc' := 7) q243 d243_4 (by decide) rfl, w_aload_n0 (pc' := 8) q243 d243_7 rfl, w_dup (pc' := 9) q243 d243_8 rfl, w_getI (pc' := 12) q243 d243_9 rfl f243_304, w_iconst (pc' := 13) q243 d243_12 rfl, w_iadd (pc' := 14) q243 d243_13 rfl, w_putI (pc' := 17) q243 d243_14 rfl f243_304 rfl (by decide +kernel), w_aload_n0 (pc' := 18) q243 d243_17 rfl, w_getV (pc' := 21) q243 d243_18 rfl f243_74, w_aload_n0 (pc' := 22) q243 d243_21 rfl, w_getI (pc' := 25) q243 d243_22 rfl f243_304, w_iload_n1 (pc' := 26) q243 d243_25 rfl, w_iastore (pc' := 27) q243 d243_26 rfl, w_aload_n0 (pc' := 28) q243 d243_27 rfl, w_getV (pc' := 31) q243 d243_28 rfl f243_77, w_aload_n0 (pc' := 32) q243 d243_31 rfl, w_getI (pc' := 35) q243 d243_32 rfl f243_304, w_iconst (pc' := 36) q243 d243_35 rfl, w_zastore (pc' := 37) q243 d243_36 rfl, w_bastore (pc' := 37) q243 d243_36 rfl, w_aload_n0 (pc' := 38) q243 d243_37 rfl, w_getV (pc' := 41) q243 d243_38 rfl f243_81, w_aload_n0 (pc' := 42) q243 d243_41 rfl, w_getI (pc' := 45) q243 d243_42 rfl f243_304, w_iconst (pc' := 46) q243 d243_45 rfl, w_iastore (pc' := 47) q243 d243_46 rfl, w_aload_n0 (pc' := 48) q243 d243_47 rfl, w_iload_n1 (pc' := 49) q243 d243_48 rfl, w_iconst (pc' := 50) q243 d243_49 rfl, w_icmp_ne (tg := 57) (pc' := 53) q243 d243_50 (by decide) rfl, w_iconst (pc' := 54) q243 d243_53 rfl, w_goto (tg := 58) q243 d243_54 (by decide), w_iconst (pc' := 58) q243 d243_57 rfl, w_putZ (pc' := 61) q243 d243_58 rfl f243_301 rfl (by decide +kernel), w_aload_n0 (pc' := 62) q243 d243_61 rfl, w_iconst (pc' := 63) q243 d243_62 rfl, w_putZ (pc' := 66) q243 d243_63 rfl f243_307 rfl (by decide +kernel), w_aload_n0 (pc' := 67) q243 d243_66 rfl, w_iconst (pc' := 68) q243 d243_67 rfl, w_putZ (pc' := 71) q243 d243_68 rfl f243_316 rfl (by decide +kernel), w_return q243 d243_71 m243.2.1, gs_off, gs_off0, gs_0off, gs_2, xN_0, xN_2, xN_3, xN_6, xN_7, xN_8, xN_9, xN_10, xN_11, xN_12, xN_13, xN_14, xN_15, xN_16, xN_17, xN_18, xN_19, xN_20, xN_21, xN_22, xN_23, xN_24, xN_25, xN_26, xN_27, xN_28, xN_29, xN_30, xN_31, xN_32, xN_33, xN_34, xN_35, xN_36, xN_37, xN_38, xN_39, xN_40, xN_41, xN_42, xN_43, xN_44, xN_45, xN_46, xN_47, xN_48, xN_49, xN_50, xN_51, xN_52, xN_53, xN_54, xN_55, ti_0, ti_1, ti_2, ti_3, ti_4, ti_5, ti_6, ti_7, ti_8, ti_9, ti_10, ti_16, ti_19, ti_20, ti_29, ti_30, ti_31, ti_32, ti_35, ti_36, ti_38, ti_39, ti_40, ti_41, ti_42, ti_43, ti_44, ti_45, ti_46, ti_47, ti_48, ti_49, ti_50, ti_51, ti_52, ti_53, ti_54, ti_55, ti_56, ti_57, ti_58, ti_59, ti_60, ti_61, ti_62, ti_63, ti_64, ti_65, ti_74, ti_77, ti_126, ti_200, ti_201, ti_202, ti_203, ti_204, ti_205, ti_210, ti_255, ti_256, ti_400, ti_512, ti_600, ti_601, ti_602, ti_1000, ti_1023, ti_1024, ti_2000, ti_10000, ti_12602, ti_999999, ti_m999999, ti_m1, ti_2000000, ti_3000000, xN_1, xN_4, xN_5, xN_60, xN_61, xN_64, xN_200, xN_800, xN_12000, xN_12602, eq_self, and_self, and_true, true_and, if_true, if_false, decide_true, Nat.reduceLeDiff, xc2_int, xc2_ref, xc2_ra, xc2_null, xc2_long, xc2_none, xisaT_ref, xisaT_ra, xisaT_null, xc1T_int, xc1T_ref, xc1T_ra, xc1T_null, xsum_nil, xsum_int, xsum_ref, xsum_ra, xsum_long, xsum_double, xsum_null, xfl_nil, xfl_int, xfl_ref, xfl_ra, xfl_null, xfl_long, xfl_double, List.length_cons, List.length_nil, s0, s22, s23, s24, gM_f, e1, f1, f2, f3, tl', b1, b2, not_true_eq_false, gM_sr, gM_s n40a n40b, gM_s n41a n41b, gM_s n42a n42b, gM_s n43a n43b, z0, z1, xfk, xfv, xak, xan, xcls, xsv', List.getElem?_cons_zero, List.getElem?_cons_succ, List.getD_cons_zero, List.getD_cons_succ, Option.getD_some, Option.isSome_some, if_true, if_pos, xcont, Option.toList_none, Option.toList_some, List.nil_append, List.cons_append]
  · rw [if_neg h2]
    simp (config := { decide := true }) only [w_aload_n0 (pc' := 1) q243 d243_0 rfl, w_getI (pc' := 4) q243 d243_1 rfl f243_282, w_if_eq (tg := 71) (pc' := 7) q243 d243_4 (by decide) rfl, w_aload_n0 (pc' := 8) q243 d243_7 rfl, w_dup (pc' := 9) q243 d243_8 rfl, w_getI (pc' := 12) q243 d243_9 rfl f243_304, w_iconst (pc' := 13) q243 d243_12 rfl, w_iadd (pc' := 14) q243 d243_13 rfl, w_putI (pc' := 17) q243 d243_14 rfl f243_304 rfl (by decide +kernel), w_aload_n0 (pc' := 18) q243 d243_17 rfl, w_getV (pc' := 21) q243 d243_18 rfl f243_74, w_aload_n0 (pc' := 22) q243 d243_21 rfl, w_getI (pc' := 25) q243 d243_22 rfl f243_304, w_iload_n1 (pc' := 26) q243 d243_25 rfl, w_iastore (pc' := 27) q243 d243_26 rfl, w_aload_n0 (pc' := 28) q243 d243_27 rfl, w_getV (pc' := 31) q243 d243_28 rfl f243_77, w_aload_n0 (pc' := 32) q243 d243_31 rfl, w_getI (pc' := 35) q243 d243_32 rfl f243_304, w_iconst (pc' := 36) q243 d243_35 rfl, w_zastore (pc' := 37) q243 d243_36 rfl, w_bastore (pc' := 37) q243 d243_36 rfl, w_aload_n0 (pc' := 38) q243 d243_37 rfl, w_getV (pc' := 41) q243 d243_38 rfl f243_81, w_aload_n0 (pc' := 42) q243 d243_41 rfl, w_getI (pc' := 45) q243 d243_42 rfl f243_304, w_iconst (pc' := 46) q243 d243_45 rfl, w_iastore (pc' := 47) q243 d243_46 rfl, w_aload_n0 (pc' := 48) q243 d243_47 rfl, w_iload_n1 (pc' := 49) q243 d243_48 rfl, w_iconst (pc' := 50) q243 d243_49 rfl, w_icmp_ne (tg := 57) (pc' := 53) q243 d243_50 (by decide) rfl, w_iconst (pc' := 54) q243 d243_53 rfl, w_goto (tg := 58) q243 d243_54 (by decide), w_iconst (pc' := 58) q243 d243_57 rfl, w_putZ (pc' := 61) q243 d243_58 rfl f243_301 rfl (by decide +kernel), w_aload_n0 (pc' := 62) q243 d243_61 rfl, w_iconst (pc' := 63) q243 d243_62 rfl, w_putZ (pc' := 66) q243 d243_63 rfl f243_307 rfl (by decide +kernel), w_aload_n0 (pc' := 67) q243 d243_66 rfl, w_iconst (pc' := 68) q243 d243_67 rfl, w_putZ (pc' := 71) q243 d243_68 rfl f243_316 rfl (by decide +kernel), w_return q243 d243_71 m243.2.1, gs_off, gs_off0, gs_0off, gs_2, xN_0, xN_2, xN_3, xN_6, xN_7, xN_8, xN_9, xN_10, xN_11, xN_12, xN_13, xN_14, xN_15, xN_16, xN_17, xN_18, xN_19, xN_20, xN_21, xN_22, xN_23, xN_24, xN_25, xN_26, xN_27, xN_28, xN_29, xN_30, xN_31, xN_32, xN_33, xN_34, xN_35, xN_36, xN_37, xN_38, xN_39, xN_40, xN_41, xN_42, xN_43, xN_44, xN_45, xN_46, xN_47, xN_48, xN_49, xN_50, xN_51, xN_52, xN_53, xN_54, xN_55, ti_0, ti_1, ti_2, ti_3, ti_4, ti_5, ti_6, ti_7, ti_8, ti_9, ti_10, ti_16, ti_19, ti_20, ti_29, ti_30, ti_31, ti_32, ti_35, ti_36, ti_38, ti_39, ti_40, ti_41, ti_42, ti_43, ti_44, ti_45, ti_46, ti_47, ti_48, ti_49, ti_50, ti_51, ti_52, ti_53, ti_54, ti_55, ti_56, ti_57, ti_58, ti_59, ti_60, ti_61, ti_62, ti_63, ti_64, ti_65, ti_74, ti_77, ti_126, ti_200, ti_201, ti_202, ti_203, ti_204, ti_205, ti_210, ti_255, ti_256, ti_400, ti_512, ti_600, ti_601, ti_602, ti_1000, ti_1023, ti_1024, ti_2000, ti_10000, ti_12602, ti_999999, ti_m999999, ti_m1, ti_2000000, ti_3000000, xN_1, xN_4, xN_5, xN_60, xN_61, xN_64, xN_200, xN_800, xN_12000, xN_12602, eq_self, and_self, and_true, true_and, if_true, if_false, decide_true, Nat.reduceLeDiff, xc2_int, xc2_ref, xc2_ra, xc2_null, xc2_long, xc2_none, xisaT_ref, xisaT_ra, xisaT_null, xc1T_int, xc1T_ref, xc1T_ra, xc1T_null, xsum_nil, xsum_int, xsum_ref, xsum_ra, xsum_long, xsum_double, xsum_null, xfl_nil, xfl_int, xfl_ref, xfl_ra, xfl_null, xfl_long, xfl_double, List.length_cons, List.length_nil, s0, s22, s23, s24, gM_f, e1, f1, f2, f3, tl', b1, b2, tL, h2, not_false_eq_true, gM_sr, gM_s n40a n40b, gM_s n41a n41b, gM_s n42a n42b, gM_s n43a n43b, z0, z1, xfk, xfv, xak, xan, xcls, xsv', List.getElem?_cons_zero, List.getElem?_cons_succ, List.getD_cons_zero, List.getD_cons_succ, Option.getD_some, Option.isSome_some, if_true, if_pos, xcont, Option.toList_none, Option.toList_some, List.nil_append, List.cons_append]
theorem m_level0 {m : Nat} {a L : Int} (hS : MdS S m) : Cw X d 243 [.ref m, .int (iI L)] (hp S (gM g m a 0)) Q = Q (.inl none) (hp S (gM g m a 0)) := by
  have s0 := hS.1
  rw [e243]
  simp (config := { decide := true }) only [w_aload_n0 (pc' := 1) q243 d243_0 rfl, w_getI (pc' := 4) q243 d243_1 rfl f243_282, w_if_eq (tg := 71) (pc' := 7) q243 d243_4 (by decide) rfl, w_aload_n0 (pc' := 8) q243 d243_7 rfl, w_dup (pc' := 9) q243 d243_8 rfl, w_getI (pc' := 12) q243 d243_9 rfl f243_304, w_iconst (pc' := 13) q243 d243_12 rfl, w_iadd (pc' := 14) q243 d243_13 rfl, w_putI (pc' := 17) q243 d243_14 rfl f243_304 rfl (by decide +kernel), w_aload_n0 (pc' := 18) q243 d243_17 rfl, w_getV (pc' := 21) q243 d243_18 rfl f243_74, w_aload_n0 (pc' := 22) q243 d243_21 rfl, w_getI (pc' := 25) q243 d243_22 rfl f243_304, w_iload_n1 (pc' := 26) q243 d243_25 rfl, w_iastore (pc' := 27) q243 d243_26 rfl, w_aload_n0 (pc' := 28) q243 d243_27 rfl, w_getV (pc' := 31) q243 d243_28 rfl f243_77, w_aload_n0 (pc' := 32) q243 d243_31 rfl, w_getI (pc' := 35) q243 d243_32 rfl f243_304, w_iconst (pc' := 36) q243 d243_35 rfl, w_zastore (pc' := 37) q243 d243_36 rfl, w_bastore (pc' := 37) q243 d243_36 rfl, w_aload_n0 (pc' := 38) q243 d243_37 rfl, w_getV (pc' := 41) q243 d243_38 rfl f243_81, w_aload_n0 (pc' := 42) q243 d243_41 rfl, w_getI (pc' := 45) q243 d243_42 rfl f243_304, w_iconst (pc' := 46) q243 d243_45 rfl, w_iastore (pc' := 47) q243 d243_46 rfl, w_aload_n0 (pc' := 48) q243 d243_47 rfl, w_iload_n1 (pc' := 49) q243 d243_48 rfl, w_iconst (pc' := 50) q243 d243_49 rfl, w_icmp_ne (tg := 57) (pc' := 53) q243 d243_50 (by decide) rfl, w_iconst (pc' := 54) q243 d243_53 rfl, w_goto (tg := 58) q243 d243_54 (by decide), w_iconst (pc' := 58) q243 d243_57 rfl, w_putZ (pc' := 61) q243 d243_58 rfl f243_301 rfl (by decide +kernel), w_aload_n0 (pc' := 62) q243 d243_61 rfl, w_iconst (pc' := 63) q243 d243_62 rfl, w_putZ (pc' := 66) q243 d243_63 rfl f243_307 rfl (by decide +kernel), w_aload_n0 (pc' := 67) q243 d243_66 rfl, w_iconst (pc' := 68) q243 d243_67 rfl, w_putZ (pc' := 71) q243 d243_68 rfl f243_316 rfl (by decide +kernel), w_return q243 d243_71 m243.2.1, gs_off, gs_off0, gs_0off, gs_2, xN_0, xN_2, xN_3, xN_6, xN_7, xN_8, xN_9, xN_10, xN_11, xN_12, xN_13, xN_14, xN_15, xN_16, xN_17, xN_18, xN_19, xN_20, xN_21, xN_22, xN_23, xN_24, xN_25, xN_26, xN_27, xN_28, xN_29, xN_30, xN_31, xN_32, xN_33, xN_34, xN_35, xN_36, xN_37, xN_38, xN_39, xN_40, xN_41, xN_42, xN_43, xN_44, xN_45, xN_46, xN_47, xN_48, xN_49, xN_50, xN_51, xN_52, xN_53, xN_54, xN_55, ti_0, ti_1, ti_2, ti_3, ti_4, ti_5, ti_6, ti_7, ti_8, ti_9, ti_10, ti_16, ti_19, ti_20, ti_29, ti_30, ti_31, ti_32, ti_35, ti_36, ti_38, ti_39, ti_40, ti_41, ti_42, ti_43, ti_44, ti_45, ti_46, ti_47, ti_48, ti_49, ti_50, ti_51, ti_52, ti_53, ti_54, ti_55, ti_56, ti_57, ti_58, ti_59, ti_60, ti_61, ti_62, ti_63, ti_64, ti_65, ti_74, ti_77, ti_126, ti_200, ti_201, ti_202, ti_203, ti_204, ti_205, ti_210, ti_255, ti_256, ti_400, ti_512, ti_600, ti_601, ti_602, ti_1000, ti_1023, ti_1024, ti_2000, ti_10000, ti_12602, ti_999999, ti_m999999, ti_m1, ti_2000000, ti_3000000, xN_1, xN_4, xN_5, xN_60, xN_61, xN_64, xN_200, xN_800, xN_12000, xN_12602, eq_self, and_self, and_true, true_and, if_true, if_false, decide_true, Nat.reduceLeDiff, xc2_int, xc2_ref, xc2_ra, xc2_null, xc2_long, xc2_none, xisaT_ref, xisaT_ra, xisaT_null, xc1T_int, xc1T_ref, xc1T_ra, xc1T_null, xsum_nil, xsum_int, xsum_ref, xsum_ra, xsum_long, xsum_double, xsum_null, xfl_nil, xfl_int, xfl_ref, xfl_ra, xfl_null, xfl_long, xfl_double, List.length_cons, List.length_nil, s0, gM_f, xfk, xfv, xak, xan, xcls, xsv', List.getElem?_cons_zero, List.getElem?_cons_succ, List.getD_cons_zero, List.getD_cons_succ, Option.getD_some, Option.isSome_some, if_true, if_pos, xcont, Option.toList_none, Option.toList_some, List.nil_append, List.cons_append]
theorem lvO_rng (o : Int) : 0 ≤ lvO o ∧ lvO o ≤ 4 := by unfold lvO; split <;> (try split) <;> (try split) <;> (try split) <;> omega
theorem MaR_open {m : Nat} {md o l : Int} {st : List Fr} {tk : List Int} (h : MaR g m md st tk) (hm : md ≤ 1) (ho : 0 ≤ o ∧ o ≤ 6) (hd : g m 40 = l) (hl : 0 ≤ l) : MaR (gL g m l (lvO o)) m (if o ≤ 3 then 1 else 0) ((o, 1, 0) :: st) tk := by
  obtain ⟨h1, h2, h3, h4, h5, h6, h7⟩ := h
  have r22 : ∀ j, gL g m l (lvO o) (m + 22) j = if j = l + 1 then lvO o else g (m + 22) j := fun j => by
    unfold gL
    rw [gs_row _ _ _ (by omega), gs_row _ _ _ (by omega), gs_row _ _ _ (by omega), gs_row _ _ _ (by omega), gs_row _ _ _ (by omega), gs_at, gs_row _ _ _ (by omega)]
  have r23 : ∀ j, gL g m l (lvO o) (m + 23) j = if j = l + 1 then 0 else g (m + 23) j := fun j => by
    unfold gL
    rw [gs_row _ _ _ (by omega), gs_row _ _ _ (by omega), gs_row _ _ _ (by omega), gs_row _ _ _ (by omega), gs_at, gs_row _ _ _ (by omega), gs_row _ _ _ (by omega)]
  have r24 : ∀ j, gL g m l (lvO o) (m + 24) j = if j = l + 1 then 0 else g (m + 24) j := fun j => by
    unfold gL
    rw [gs_row _ _ _ (by omega), gs_row _ _ _ (by omega), gs_row _ _ _ (by omega), gs_at, gs_row _ _ _ (by omega), gs_row _ _ _ (by omega), gs_row _ _ _ (by omega)]
  have r21 : gL g m l (lvO o) (m + 21) = g (m + 21) := by
    unfold gL
    rw [gs_row _ _ _ (by omega), gs_row _ _ _ (by omega), gs_row _ _ _ (by omega), gs_row _ _ _ (by omega), gs_row _ _ _ (by omega), gs_row _ _ _ (by omega), gs_row _ _ _ (by omega)]
  have rs : ∀ i, ¬ i = 40 → ¬ i = 41 → ¬ i = 42 → ¬ i = 43 → gL g m l (lvO o) m i = g m i := fun i a b c e => by
    unfold gL
    rw [gs_at, if_neg e, gs_at, if_neg c, gs_at, if_neg b, gs_row _ _ _ (by omega), gs_row _ _ _ (by omega), gs_row _ _ _ (by omega), gs_at, if_neg a]
  have e40 : gL g m l (lvO o) m 40 = l + 1 := by
    unfold gL
    rw [gs_at, if_neg (by decide), gs_at, if_neg (by decide), gs_at, if_neg (by decide), gs_row _ _ _ (by omega), gs_row _ _ _ (by omega), gs_row _ _ _ (by omega), gs_at, if_pos rfl]
  have e41 : gL g m l (lvO o) m 41 = if lvO o = 2 then 1 else 0 := by
    unfold gL
    rw [gs_at, if_neg (by decide), gs_at, if_neg (by decide), gs_at, if_pos rfl]
  have e42 : gL g m l (lvO o) m 42 = 0 := by unfold gL; rw [gs_at, if_neg (by decide), gs_at, if_pos rfl]
  have e43 : gL g m l (lvO o) m 43 = 0 := by unfold gL; rw [gs_at, if_pos rfl]
  have hlv : lvO o = 2 ↔ o ≤ 3 := by unfold lvO; split <;> (try split) <;> (try split) <;> (try split) <;> omega
  refine ⟨?_, ?_, ?_, ?_, ?_, ?_, ?_⟩
  · rw [rs 44 (by decide) (by decide) (by decide) (by decide), h1, if_pos hm]; split <;> rfl
  · rw [e41]
    by_cases h3 : o ≤ 3
    · rw [if_pos (hlv.mpr h3), if_pos h3]; rfl
    · rw [if_neg (fun h => h3 (hlv.mp h)), if_neg h3]; rfl
  · rw [e42]; split <;> rfl
  · rw [e43]; split <;> rfl
  · rw [rs 32 (by decide) (by decide) (by decide) (by decide)]; exact h5
  · rw [r21]; exact h6
  · rw [e40]
    refine ⟨by omega, by rw [r22, if_pos rfl], by rw [r23, if_pos rfl], fun _ => by rw [r24, if_pos rfl]; decide, ?_⟩
    rw [show l + 1 - 1 = g m 40 by omega]
    exact SkM_congr st (g m 40) (fun j hj => ⟨by rw [r22, if_neg (by omega)], by rw [r23, if_neg (by omega)], by rw [r24, if_neg (by omega)]⟩) h7
/-- a mark more; what the model holds then -/
def MaK (g : xGm) (m : Nat) (md : Int) (st : List Fr) (ks : List Int) : Prop :=
  g m 44 = (if md ≤ 1 then 1 else 0) ∧ g m 41 = (if md = 1 then 1 else 0) ∧ g m 42 = (if md = 3 then 1 else 0) ∧ g m 43 = (if md = 4 then 1 else 0) ∧ g m 32 = ks.length ∧ TL (g (m + 21)) 0 ks ∧ SkM (g (m + 22)) (g (m + 23)) (g (m + 24)) (g m 40) st
theorem MaK_add {m : Nat} {md t : Int} {st : List Fr} {ks : List Int} (h : MaK g m md st ks) : MaK (gK g m ks.length t) m md st (ks ++ [t]) := by
  obtain ⟨h1, h2, h3, h4, h5, h6, h7⟩ := h
  have rs : ∀ i, ¬ i = 32 → gK g m ks.length t m i = g m i := fun i hi => by unfold gK; rw [gs_at, if_neg hi, gs_row _ _ _ (by omega)]
  have rr : ∀ j, ¬ j = 21 → ¬ j = 0 → gK g m ks.length t (m + j) = g (m + j) := fun j hj h0 => by unfold gK; rw [gs_row _ _ _ (by omega), gs_row _ _ _ (by omega)]
  refine ⟨by rw [rs _ (by decide)]; exact h1, by rw [rs _ (by decide)]; exact h2, by rw [rs _ (by decide)]; exact h3, by rw [rs _ (by decide)]; exact h4, ?_, ?_, ?_⟩
  · unfold gK; rw [gs_at, if_pos rfl, List.length_append]; rfl
  · unfold gK
    rw [gs_row _ _ _ (by omega), TL_app]
    refine ⟨TL_congr ks 0 (fun j j1 j2 => by rw [gs_at, if_neg (by omega)]) h6, ?_, trivial⟩
    rw [gs_at, if_pos (by omega)]
  · rw [rr 22 (by decide) (by decide), rr 23 (by decide) (by decide), rr 24 (by decide) (by decide), rs _ (by decide)]
    exact h7
def RdM (S : xLm) (g : xGm) (m : Nat) (call : (xO → xH → Prop) → Prop) (r : Rd) : Prop := match r with
  | .inl a' => ∃ g', FrM g g' m ∧ ∀ Q, call Q = Q (.inl none) (hp S (gM g' m a' 0))
  | .inr (a', md', st', tk') => ∃ g', FrM g g' m ∧ MaR g' m md' st' tk' ∧ ∀ Q, call Q = Q (.inl none) (hp S (gM g' m a' 1))
theorem mk_call {k : Int} (hk : 0 ≤ k) : mks [k * 8 + 6] = [200 + k, 40] := by
  unfold mks mks mk1
  rw [if_neg (by omega), if_neg (by omega), if_neg (by omega), if_neg (by omega), if_neg (by omega), show (k * 8 + 6) / 8 = k by omega]
  rfl
theorem m_call {m : Nat} {a md k : Int} {st : List Fr} {tk : List Int} (hS : MdS S m) (hC : McI g m) (ha : 0 ≤ a) (ha2 : a ≤ 900) (hP : MaR g m md st tk) (hm : md ≤ 1) (hk : 0 ≤ k ∧ k ≤ 5) (hn : (mks tk).length + 2 ≤ a) (hst : (st.length : Int) ≤ a) (hst1 : 1 ≤ st.length) :
    (if mch g m a = 40 then ∃ g', FrM g g' m ∧ MaR g' m (if k ≤ 3 then 1 else 0) ((k, 1, 0) :: st) (tk ++ [k * 8 + 6]) ∧ ∀ Q, Cw X (d + 1) 248 [.ref m, .int (iI (200 + k))] (hp S (gM g m a 1)) Q = Q (.inl none) (hp S (gM g' m (a + 1) 1))
    else ∀ Q, Cw X (d + 1) 248 [.ref m, .int (iI (200 + k))] (hp S (gM g m a 1)) Q = Q (.inl none) (hp S (gM g m a 0))) ∧
    (∀ Q, Cw X (d + 1) 248 [.ref m, .int (iI (200 + k))] (hp S (gM g m a 0)) Q = Q (.inl none) (hp S (gM g m a 0))) := by
  have s0 := hS.1
  have hch := mch_rng hC a
  have tc : ti (mch g m a) = mch g m a := ti_eq (by omega) (by omega)
  have t40 : ti 40 = 40 := by decide
  have tk' : ti (200 + k) = 200 + k := ti_eq (by omega) (by omega)
  have t204 : ti 204 = 204 := by decide
  have hlen := SkM_len _ _ hP.2.2.2.2.2.2
  have hn60 := hC.2.1
  have k0 := fun Q => m_takes (X := X) (d := d) (g := g) (a := a) (f := 1) (b := 0) (Q := Q) hS (.inr rfl) (.inl rfl)
  have k1 := fun Q => m_takes (X := X) (d := d) (g := g) (a := a) (f := 1) (b := 1) (Q := Q) hS (.inr rfl) (.inr rfl)
  have j0 := fun Q => m_takes (X := X) (d := d) (g := g) (a := a) (f := 0) (b := 0) (Q := Q) hS (.inl rfl) (.inl rfl)
  have j1 := fun Q => m_takes (X := X) (d := d) (g := g) (a := a) (f := 0) (b := 1) (Q := Q) hS (.inl rfl) (.inr rfl)
  rw [if_neg (show ¬ ((1 : Int) = 1 ∧ (0 : Int) = 1) from fun h => absurd h.2 (by decide))] at k0
  rw [if_pos (show ((1 : Int) = 1 ∧ (1 : Int) = 1) from ⟨rfl, rfl⟩)] at k1
  rw [if_neg (show ¬ ((0 : Int) = 1 ∧ (0 : Int) = 1) from fun h => absurd h.2 (by decide))] at j0
  rw [if_neg (show ¬ ((0 : Int) = 1 ∧ (1 : Int) = 1) from fun h => absurd h.1 (by decide))] at j1
  have tailF : ∀ Q, Wx X (d + 1) 248 18 [some (.ref m), some (.int (iI (200 + k)))] [] (hp S (gM g m a 0)) Q = Q (.inl none) (hp S (gM g m a 0)) := fun Q => by
    by_cases h1 : 204 ≤ 200 + k
    · by_cases h2 : 200 + k = 204
      · rw [h2]
        simp (config := { decide := true }) only [w_aload_n0 (pc' := 19) q248 d248_18 rfl, w_iload_n1 (pc' := 20) q248 d248_19 rfl, w_invv1 (ci := 11) (pc' := 23) q248 d248_20 rfl n248_298 k248_298_11 m242.1, w_aload_n0 (pc' := 24) q248 d248_23 rfl, w_bipush (z' := (40)) (pc' := 26) q248 d248_24 rfl (by decide), w_invv1 (ci := 11) (pc' := 29) q248 d248_26 rfl n248_298 k248_298_11 m242.1, w_aload_n0 (pc' := 30) q248 d248_29 rfl, w_iload_n1 (pc' := 31) q248 d248_30 rfl, w_sipush (z' := (204)) (pc' := 34) q248 d248_31 rfl (by decide), w_icmp_ge (tg := 41) (pc' := 37) q248 d248_34 (by decide) rfl, w_iconst (pc' := 38) q248 d248_37 rfl, w_goto (tg := 53) q248 d248_38 (by decide), w_iload_n1 (pc' := 42) q248 d248_41 rfl, w_sipush (z' := (204)) (pc' := 45) q248 d248_42 rfl (by decide), w_icmp_ne (tg := 52) (pc' := 48) q248 d248_45 (by decide) rfl, w_iconst (pc' := 49) q248 d248_48 rfl, w_goto (tg := 53) q248 d248_49 (by decide), w_iconst (pc' := 53) q248 d248_52 rfl, w_invv1 (ci := 11) (pc' := 56) q248 d248_53 rfl n248_319 k248_319_11 m243.1, w_return q248 d248_56 m248.2.1, gs_off, gs_off0, gs_0off, gs_2, xN_0, xN_2, xN_3, xN_6, xN_7, xN_8, xN_9, xN_10, xN_11, xN_12, xN_13, xN_14, xN_15, xN_16, xN_17, xN_18, xN_19, xN_20, xN_21, xN_22, xN_23, xN_24, xN_25, xN_26, xN_27, xN_28, xN_29, xN_30, xN_31, xN_32, xN_33, xN_34, xN_35, xN_36, xN_37, xN_38, xN_39, xN_40, xN_41, xN_42, xN_43, xN_44, xN_45, xN_46, xN_47, xN_48, xN_49, xN_50, xN_51, xN_52, xN_53, xN_54, xN_55, ti_0, ti_1, ti_2, ti_3, ti_4, ti_5, ti_6, ti_7, ti_8, ti_9, ti_10, ti_16, ti_19, ti_20, ti_29, ti_30, ti_31, ti_32, ti_35, ti_36, ti_38, ti_39, ti_40, ti_41, ti_42, ti_43, ti_44, ti_45, ti_46, ti_47, ti_48, ti_49, ti_50, ti_51, ti_52, ti_53, ti_54, ti_55, ti_56, ti_57, ti_58, ti_59, ti_60, ti_61, ti_62, ti_63, ti_64, ti_65, ti_74, ti_77, ti_126, ti_200, ti_201, ti_202, ti_203, ti_204, ti_205, ti_210, ti_255, ti_256, ti_400, ti_512, ti_600, ti_601, ti_602, ti_1000, ti_1023, ti_1024, ti_2000, ti_10000, ti_12602, ti_999999, ti_m999999, ti_m1, ti_2000000, ti_3000000, xN_1, xN_4, xN_5, xN_60, xN_61, xN_64, xN_200, xN_800, xN_12000, xN_12602, eq_self, and_self, and_true, true_and, if_true, if_false, decide_true, Nat.reduceLeDiff, xc2_int, xc2_ref, xc2_ra, xc2_null, xc2_long, xc2_none, xisaT_ref, xisaT_ra, xisaT_null, xc1T_int, xc1T_ref, xc1T_ra, xc1T_null, xsum_nil, xsum_int, xsum_ref, xsum_ra, xsum_long, xsum_double, xsum_null, xfl_nil, xfl_int, xfl_ref, xfl_ra, xfl_null, xfl_long, xfl_double, List.length_cons, List.length_nil, s0, m_marks0 hS, t204, not_true_eq_false, m_level0 hS, xfk, xfv, xak, xan, xcls, xsv', List.getElem?_cons_zero, List.getElem?_cons_succ, List.getD_cons_zero, List.getD_cons_succ, Option.getD_some, Option.isSome_some, if_true, if_pos, xcont, Option.toList_none, Option.toList_some, List.nil_append, List.cons_append]
      · simp (config := { decide := true }) only [w_aload_n0 (pc' := 19) q248 d248_18 rfl, w_iload_n1 (pc' := 20) q248 d248_19 rfl, w_invv1 (ci := 11) (pc' := 23) q248 d248_20 rfl n248_298 k248_298_11 m242.1, w_aload_n0 (pc' := 24) q248 d248_23 rfl, w_bipush (z' := (40)) (pc' := 26) q248 d248_24 rfl (by decide), w_invv1 (ci := 11) (pc' := 29) q248 d248_26 rfl n248_298 k248_298_11 m242.1, w_aload_n0 (pc' := 30) q248 d248_29 rfl, w_iload_n1 (pc' := 31) q248 d248_30 rfl, w_sipush (z' := (204)) (pc' := 34) q248 d248_31 rfl (by decide), w_icmp_ge (tg := 41) (pc' := 37) q248 d248_34 (by decide) rfl, w_iconst (pc' := 38) q248 d248_37 rfl, w_goto (tg := 53) q248 d248_38 (by decide), w_iload_n1 (pc' := 42) q248 d248_41 rfl, w_sipush (z' := (204)) (pc' := 45) q248 d248_42 rfl (by decide), w_icmp_ne (tg := 52) (pc' := 48) q248 d248_45 (by decide) rfl, w_iconst (pc' := 49) q248 d248_48 rfl, w_goto (tg := 53) q248 d248_49 (by decide), w_iconst (pc' := 53) q248 d248_52 rfl, w_invv1 (ci := 11) (pc' := 56) q248 d248_53 rfl n248_319 k248_319_11 m243.1, w_return q248 d248_56 m248.2.1, gs_off, gs_off0, gs_0off, gs_2, xN_0, xN_2, xN_3, xN_6, xN_7, xN_8, xN_9, xN_10, xN_11, xN_12, xN_13, xN_14, xN_15, xN_16, xN_17, xN_18, xN_19, xN_20, xN_21, xN_22, xN_23, xN_24, xN_25, xN_26, xN_27, xN_28, xN_29, xN_30, xN_31, xN_32, xN_33, xN_34, xN_35, xN_36, xN_37, xN_38, xN_39, xN_40, xN_41, xN_42, xN_43, xN_44, xN_45, xN_46, xN_47, xN_48, xN_49, xN_50, xN_51, xN_52, xN_53, xN_54, xN_55, ti_0, ti_1, ti_2, ti_3, ti_4, ti_5, ti_6, ti_7, ti_8, ti_9, ti_10, ti_16, ti_19, ti_20, ti_29, ti_30, ti_31, ti_32, ti_35, ti_36, ti_38, ti_39, ti_40, ti_41, ti_42, ti_43, ti_44, ti_45, ti_46, ti_47, ti_48, ti_49, ti_50, ti_51, ti_52, ti_53, ti_54, ti_55, ti_56, ti_57, ti_58, ti_59, ti_60, ti_61, ti_62, ti_63, ti_64, ti_65, ti_74, ti_77, ti_126, ti_200, ti_201, ti_202, ti_203, ti_204, ti_205, ti_210, ti_255, ti_256, ti_400, ti_512, ti_600, ti_601, ti_602, ti_1000, ti_1023, ti_1024, ti_2000, ti_10000, ti_12602, ti_999999, ti_m999999, ti_m1, ti_2000000, ti_3000000, xN_1, xN_4, xN_5, xN_60, xN_61, xN_64, xN_200, xN_800, xN_12000, xN_12602, eq_self, and_self, and_true, true_and, if_true, if_false, decide_true, Nat.reduceLeDiff, xc2_int, xc2_ref, xc2_ra, xc2_null, xc2_long, xc2_none, xisaT_ref, xisaT_ra, xisaT_null, xc1T_int, xc1T_ref, xc1T_ra, xc1T_null, xsum_nil, xsum_int, xsum_ref, xsum_ra, xsum_long, xsum_double, xsum_null, xfl_nil, xfl_int, xfl_ref, xfl_ra, xfl_null, xfl_long, xfl_double, List.length_cons, List.length_nil, s0, m_marks0 hS, tk', t204, h1, h2, not_false_eq_true, m_level0 hS, xfk, xfv, xak, xan, xcls, xsv', List.getElem?_cons_zero, List.getElem?_cons_succ, List.getD_cons_zero, List.getD_cons_succ, Option.getD_some, Option.isSome_some, if_true, if_pos, xcont, Option.toList_none, Option.toList_some, List.nil_append, List.cons_append]
    · simp (config := { decide := true }) only [w_aload_n0 (pc' := 19) q248 d248_18 rfl, w_iload_n1 (pc' := 20) q248 d248_19 rfl, w_invv1 (ci := 11) (pc' := 23) q248 d248_20 rfl n248_298 k248_298_11 m242.1, w_aload_n0 (pc' := 24) q248 d248_23 rfl, w_bipush (z' := (40)) (pc' := 26) q248 d248_24 rfl (by decide), w_invv1 (ci := 11) (pc' := 29) q248 d248_26 rfl n248_298 k248_298_11 m242.1, w_aload_n0 (pc' := 30) q248 d248_29 rfl, w_iload_n1 (pc' := 31) q248 d248_30 rfl, w_sipush (z' := (204)) (pc' := 34) q248 d248_31 rfl (by decide), w_icmp_ge (tg := 41) (pc' := 37) q248 d248_34 (by decide) rfl, w_iconst (pc' := 38) q248 d248_37 rfl, w_goto (tg := 53) q248 d248_38 (by decide), w_iload_n1 (pc' := 42) q248 d248_41 rfl, w_sipush (z' := (204)) (pc' := 45) q248 d248_42 rfl (by decide), w_icmp_ne (tg := 52) (pc' := 48) q248 d248_45 (by decide) rfl, w_iconst (pc' := 49) q248 d248_48 rfl, w_goto (tg := 53) q248 d248_49 (by decide), w_iconst (pc' := 53) q248 d248_52 rfl, w_invv1 (ci := 11) (pc' := 56) q248 d248_53 rfl n248_319 k248_319_11 m243.1, w_return q248 d248_56 m248.2.1, gs_off, gs_off0, gs_0off, gs_2, xN_0, xN_2, xN_3, xN_6, xN_7, xN_8, xN_9, xN_10, xN_11, xN_12, xN_13, xN_14, xN_15, xN_16, xN_17, xN_18, xN_19, xN_20, xN_21, xN_22, xN_23, xN_24, xN_25, xN_26, xN_27, xN_28, xN_29, xN_30, xN_31, xN_32, xN_33, xN_34, xN_35, xN_36, xN_37, xN_38, xN_39, xN_40, xN_41, xN_42, xN_43, xN_44, xN_45, xN_46, xN_47, xN_48, xN_49, xN_50, xN_51, xN_52, xN_53, xN_54, xN_55, ti_0, ti_1, ti_2, ti_3, ti_4, ti_5, ti_6, ti_7, ti_8, ti_9, ti_10, ti_16, ti_19, ti_20, ti_29, ti_30, ti_31, ti_32, ti_35, ti_36, ti_38, ti_39, ti_40, ti_41, ti_42, ti_43, ti_44, ti_45, ti_46, ti_47, ti_48, ti_49, ti_50, ti_51, ti_52, ti_53, ti_54, ti_55, ti_56, ti_57, ti_58, ti_59, ti_60, ti_61, ti_62, ti_63, ti_64, ti_65, ti_74, ti_77, ti_126, ti_200, ti_201, ti_202, ti_203, ti_204, ti_205, ti_210, ti_255, ti_256, ti_400, ti_512, ti_600, ti_601, ti_602, ti_1000, ti_1023, ti_1024, ti_2000, ti_10000, ti_12602, ti_999999, ti_m999999, ti_m1, ti_2000000, ti_3000000, xN_1, xN_4, xN_5, xN_60, xN_61, xN_64, xN_200, xN_800, xN_12000, xN_12602, eq_self, and_self, and_true, true_and, if_true, if_false, decide_true, Nat.reduceLeDiff, xc2_int, xc2_ref, xc2_ra, xc2_null, xc2_long, xc2_none, xisaT_ref, xisaT_ra, xisaT_null, xc1T_int, xc1T_ref, xc1T_ra, xc1T_null, xsum_nil, xsum_int, xsum_ref, xsum_ra, xsum_long, xsum_double, xsum_null, xfl_nil, xfl_int, xfl_ref, xfl_ra, xfl_null, xfl_long, xfl_double, List.length_cons, List.length_nil, s0, m_marks0 hS, tk', t204, h1, m_level0 hS, xfk, xfv, xak, xan, xcls, xsv', List.getElem?_cons_zero, List.getElem?_cons_succ, List.getD_cons_zero, List.getD_cons_succ, Option.getD_some, Option.isSome_some, if_true, if_pos, xcont, Option.toList_none, Option.toList_some, List.nil_append, List.cons_append]
  constructor
  · by_cases h40 : mch g m a = 40
    · rw [if_pos h40]
      have hlt := mch_lt (g := g) (m := m) (i := a) (by omega)
      have e32 := hP.2.2.2.2.1
      have mk1' := fun Q => m_marks (X := X) (d := d) (g := g) (a := a + 1) (t := 200 + k) (Q := Q) hS e32 (by omega) (by omega)
      have e32' : gK g m (mks tk).length (200 + k) m 32 = (mks tk).length + 1 := by unfold gK; rw [gs_at, if_pos rfl]
      have mk2' := fun Q => m_marks (X := X) (d := d) (g := gK g m (mks tk).length (200 + k)) (a := a + 1) (t := 40) (Q := Q) hS e32' (by omega) (by omega)
      obtain ⟨g2, eg2⟩ : ∃ g2, g2 = gK (gK g m (mks tk).length (200 + k)) m ((mks tk).length + 1) 40 := ⟨_, rfl⟩
      rw [← eg2] at mk2'
      have hP2 : MaR g2 m md st (tk ++ [k * 8 + 6]) := by
        unfold MaR
        rw [mks_app, mk_call hk.1, eg2]
        have h1 := MaK_add (t := 200 + k) (show MaK g m md st (mks tk) from hP)
        have h2 := MaK_add (t := 40) h1
        rw [List.length_append] at h2
        rw [show mks tk ++ [200 + k, 40] = mks tk ++ [200 + k] ++ [40] by simp]
        exact h2
      have e40 : g2 m 40 = g m 40 := by rw [eg2]; unfold gK; rw [gs_at, if_neg (by decide), gs_row _ _ _ (by omega), gs_at, if_neg (by decide), gs_row _ _ _ (by omega)]
      have ml := fun Q => m_level (X := X) (d := d) (g := g2) (a := a + 1) (l := g m 40) (L := lvO k) (Q := Q) hS e40 (by omega) (by omega) (lvO_rng k)
      refine ⟨gL g2 m (g m 40) (lvO k), FrM_trans (by rw [eg2]; exact FrM_trans gK_Fr gK_Fr) gL_Fr, MaR_open hP2 hm ⟨hk.1, by omega⟩ e40 (by omega), fun Q => ?_⟩
      rw [e248]
      by_cases h1 : 204 ≤ 200 + k
      · by_cases h2 : k = 4
        · have hlv : lvO k = 3 := by unfold lvO; rw [if_neg (by omega), if_pos h2]
          rw [hlv] at ml ⊢
          subst h2
          have e204 : (200 : Int) + 4 = 204 := by decide
          rw [e204] at mk1' mk2'
          simp (config := { decide := true }) only [w_aload_n0 (pc' := 1) q248 d248_0 rfl, w_aload_n0 (pc' := 2) q248 d248_1 rfl, w_invv0 (ci := 11) (pc' := 5) q248 d248_2 rfl n248_288 k248_288_11 m238.1, w_bipush (z' := (40)) (pc' := 7) q248 d248_5 rfl (by decide), w_icmp_ne (tg := 14) (pc' := 10) q248 d248_7 (by decide) rfl, w_iconst (pc' := 11) q248 d248_10 rfl, w_goto (tg := 15) q248 d248_11 (by decide), w_iconst (pc' := 15) q248 d248_14 rfl, w_invv1 (ci := 11) (pc' := 18) q248 d248_15 rfl n248_291 k248_291_11 m245.1, w_aload_n0 (pc' := 19) q248 d248_18 rfl, w_iload_n1 (pc' := 20) q248 d248_19 rfl, w_invv1 (ci := 11) (pc' := 23) q248 d248_20 rfl n248_298 k248_298_11 m242.1, w_aload_n0 (pc' := 24) q248 d248_23 rfl, w_bipush (z' := (40)) (pc' := 26) q248 d248_24 rfl (by decide), w_invv1 (ci := 11) (pc' := 29) q248 d248_26 rfl n248_298 k248_298_11 m242.1, w_aload_n0 (pc' := 30) q248 d248_29 rfl, w_iload_n1 (pc' := 31) q248 d248_30 rfl, w_sipush (z' := (204)) (pc' := 34) q248 d248_31 rfl (by decide), w_icmp_ge (tg := 41) (pc' := 37) q248 d248_34 (by decide) rfl, w_iconst (pc' := 38) q248 d248_37 rfl, w_goto (tg := 53) q248 d248_38 (by decide), w_iload_n1 (pc' := 42) q248 d248_41 rfl, w_sipush (z' := (204)) (pc' := 45) q248 d248_42 rfl (by decide), w_icmp_ne (tg := 52) (pc' := 48) q248 d248_45 (by decide) rfl, w_iconst (pc' := 49) q248 d248_48 rfl, w_goto (tg := 53) q248 d248_49 (by decide), w_iconst (pc' := 53) q248 d248_52 rfl, w_invv1 (ci := 11) (pc' := 56) q248 d248_53 rfl n248_319 k248_319_11 m243.1, w_return q248 d248_56 m248.2.1, gs_off, gs_off0, gs_0off, gs_2, xN_0, xN_2, xN_3, xN_6, xN_7, xN_8, xN_9, xN_10, xN_11, xN_12, xN_13, xN_14, xN_15, xN_16, xN_17, xN_18, xN_19, xN_20, xN_21, xN_22, xN_23, xN_24, xN_25, xN_26, xN_27, xN_28, xN_29, xN_30, xN_31, xN_32, xN_33, xN_34, xN_35, xN_36, xN_37, xN_38, xN_39, xN_40, xN_41, xN_42, xN_43, xN_44, xN_45, xN_46, xN_47, xN_48, xN_49, xN_50, xN_51, xN_52, xN_53, xN_54, xN_55, ti_0, ti_1, ti_2, ti_3, ti_4, ti_5, ti_6, ti_7, ti_8, ti_9, ti_10, ti_16, ti_19, ti_20, ti_29, ti_30, ti_31, ti_32, ti_35, ti_36, ti_38, ti_39, ti_40, ti_41, ti_42, ti_43, ti_44, ti_45, ti_46, ti_47, ti_48, ti_49, ti_50, ti_51, ti_52, ti_53, ti_54, ti_55, ti_56, ti_57, ti_58, ti_59, ti_60, ti_61, ti_62, ti_63, ti_64, ti_65, ti_74, ti_77, ti_126, ti_200, ti_201, ti_202, ti_203, ti_204, ti_205, ti_210, ti_255, ti_256, ti_400, ti_512, ti_600, ti_601, ti_602, ti_1000, ti_1023, ti_1024, ti_2000, ti_10000, ti_12602, ti_999999, ti_m999999, ti_m1, ti_2000000, ti_3000000, xN_1, xN_4, xN_5, xN_60, xN_61, xN_64, xN_200, xN_800, xN_12000, xN_12602, eq_self, and_self, and_true, true_and, if_true, if_false, decide_true, Nat.reduceLeDiff, xc2_int, xc2_ref, xc2_ra, xc2_null, xc2_long, xc2_none, xisaT_ref, xisaT_ra, xisaT_null, xc1T_int, xc1T_ref, xc1T_ra, xc1T_null, xsum_nil, xsum_int, xsum_ref, xsum_ra, xsum_long, xsum_double, xsum_null, xfl_nil, xfl_int, xfl_ref, xfl_ra, xfl_null, xfl_long, xfl_double, List.length_cons, List.length_nil, s0, m_here hS hC ha (show a ≤ 1000 by omega), h40, t40, t204, e204, not_true_eq_false, k1, mk1', mk2', ml, xfk, xfv, xak, xan, xcls, xsv', List.getElem?_cons_zero, List.getElem?_cons_succ, List.getD_cons_zero, List.getD_cons_succ, Option.getD_some, Option.isSome_some, if_true, if_pos, xcont, Option.toList_none, Option.toList_some, List.nil_append, List.cons_append]
        · have hlv : lvO k = 4 := by unfold lvO; rw [if_neg (by omega), if_neg h2, if_pos (by omega)]
          rw [hlv] at ml ⊢
          have h2' : ¬ 200 + k = 204 := by omega
          simp (config := { decide := true }) only [w_aload_n0 (pc' := 1) q248 d248_0 rfl, w_aload_n0 (pc' := 2) q248 d248_1 rfl, w_invv0 (ci := 11) (pc' := 5) q248 d248_2 rfl n248_288 k248_288_11 m238.1, w_bipush (z' := (40)) (pc' := 7) q248 d248_5 rfl (by decide), w_icmp_ne (tg := 14) (pc' := 10) q248 d248_7 (by decide) rfl, w_iconst (pc' := 11) q248 d248_10 rfl, w_goto (tg := 15) q248 d248_11 (by decide), w_iconst (pc' := 15) q248 d248_14 rfl, w_invv1 (ci := 11) (pc' := 18) q248 d248_15 rfl n248_291 k248_291_11 m245.1, w_aload_n0 (pc' := 19) q248 d248_18 rfl, w_iload_n1 (pc' := 20) q248 d248_19 rfl, w_invv1 (ci := 11) (pc' := 23) q248 d248_20 rfl n248_298 k248_298_11 m242.1, w_aload_n0 (pc' := 24) q248 d248_23 rfl, w_bipush (z' := (40)) (pc' := 26) q248 d248_24 rfl (by decide), w_invv1 (ci := 11) (pc' := 29) q248 d248_26 rfl n248_298 k248_298_11 m242.1, w_aload_n0 (pc' := 30) q248 d248_29 rfl, w_iload_n1 (pc' := 31) q248 d248_30 rfl, w_sipush (z' := (204)) (pc' := 34) q248 d248_31 rfl (by decide), w_icmp_ge (tg := 41) (pc' := 37) q248 d248_34 (by decide) rfl, w_iconst (pc' := 38) q248 d248_37 rfl, w_goto (tg := 53) q248 d248_38 (by decide), w_iload_n1 (pc' := 42) q248 d248_41 rfl, w_sipush (z' := (204)) (pc' := 45) q248 d248_42 rfl (by decide), w_icmp_ne (tg := 52) (pc' := 48) q248 d248_45 (by decide) rfl, w_iconst (pc' := 49) q248 d248_48 rfl, w_goto (tg := 53) q248 d248_49 (by decide), w_iconst (pc' := 53) q248 d248_52 rfl, w_invv1 (ci := 11) (pc' := 56) q248 d248_53 rfl n248_319 k248_319_11 m243.1, w_return q248 d248_56 m248.2.1, gs_off, gs_off0, gs_0off, gs_2, xN_0, xN_2, xN_3, xN_6, xN_7, xN_8, xN_9, xN_10, xN_11, xN_12, xN_13, xN_14, xN_15, xN_16, xN_17, xN_18, xN_19, xN_20, xN_21, xN_22, xN_23, xN_24, xN_25, xN_26, xN_27, xN_28, xN_29, xN_30, xN_31, xN_32, xN_33, xN_34, xN_35, xN_36, xN_37, xN_38, xN_39, xN_40, xN_41, xN_42, xN_43, xN_44, xN_45, xN_46, xN_47, xN_48, xN_49, xN_50, xN_51, xN_52, xN_53, xN_54, xN_55, ti_0, ti_1, ti_2, ti_3, ti_4, ti_5, ti_6, ti_7, ti_8, ti_9, ti_10, ti_16, ti_19, ti_20, ti_29, ti_30, ti_31, ti_32, ti_35, ti_36, ti_38, ti_39, ti_40, ti_41, ti_42, ti_43, ti_44, ti_45, ti_46, ti_47, ti_48, ti_49, ti_50, ti_51, ti_52, ti_53, ti_54, ti_55, ti_56, ti_57, ti_58, ti_59, ti_60, ti_61, ti_62, ti_63, ti_64, ti_65, ti_74, ti_77, ti_126, ti_200, ti_201, ti_202, ti_203, ti_204, ti_205, ti_210, ti_255, ti_256, ti_400, ti_512, ti_600, ti_601, ti_602, ti_1000, ti_1023, ti_1024, ti_2000, ti_10000, ti_12602, ti_999999, ti_m999999, ti_m1, ti_2000000, ti_3000000, xN_1, xN_4, xN_5, xN_60, xN_61, xN_64, xN_200, xN_800, xN_12000, xN_12602, eq_self, and_self, and_true, true_and, if_true, if_false, decide_true, Nat.reduceLeDiff, xc2_int, xc2_ref, xc2_ra, xc2_null, xc2_long, xc2_none, xisaT_ref, xisaT_ra, xisaT_null, xc1T_int, xc1T_ref, xc1T_ra, xc1T_null, xsum_nil, xsum_int, xsum_ref, xsum_ra, xsum_long, xsum_double, xsum_null, xfl_nil, xfl_int, xfl_ref, xfl_ra, xfl_null, xfl_long, xfl_double, List.length_cons, List.length_nil, s0, m_here hS hC ha (show a ≤ 1000 by omega), h40, t40, tk', t204, h1, h2', not_true_eq_false, not_false_eq_true, k1, mk1', mk2', ml, xfk, xfv, xak, xan, xcls, xsv', List.getElem?_cons_zero, List.getElem?_cons_succ, List.getD_cons_zero, List.getD_cons_succ, Option.getD_some, Option.isSome_some, if_true, if_pos, xcont, Option.toList_none, Option.toList_some, List.nil_append, List.cons_append]
      · have hlv : lvO k = 2 := by unfold lvO; rw [if_pos (by omega)]
        rw [hlv] at ml ⊢
        simp (config := { decide := true }) only [w_aload_n0 (pc' := 1) q248 d248_0 rfl, w_aload_n0 (pc' := 2) q248 d248_1 rfl, w_invv0 (ci := 11) (pc' := 5) q248 d248_2 rfl n248_288 k248_288_11 m238.1, w_bipush (z' := (40)) (pc' := 7) q248 d248_5 rfl (by decide), w_icmp_ne (tg := 14) (pc' := 10) q248 d248_7 (by decide) rfl, w_iconst (pc' := 11) q248 d248_10 rfl, w_goto (tg := 15) q248 d248_11 (by decide), w_iconst (pc' := 15) q248 d248_14 rfl, w_invv1 (ci := 11) (pc' := 18) q248 d248_15 rfl n248_291 k248_291_11 m245.1, w_aload_n0 (pc' := 19) q248 d248_18 rfl, w_iload_n1 (pc' := 20) q248 d248_19 rfl, w_invv1 (ci := 11) (pc' := 23) q248 d248_20 rfl n248_298 k248_298_11 m242.1, w_aload_n0 (pc' := 24) q248 d248_23 rfl, w_bipush (z' := (40)) (pc' := 26) q248 d248_24 rfl (by decide), w_invv1 (ci := 11) (pc' := 29) q248 d248_26 rfl n248_298 k248_298_11 m242.1, w_aload_n0 (pc' := 30) q248 d248_29 rfl, w_iload_n1 (pc' := 31) q248 d248_30 rfl, w_sipush (z' := (204)) (pc' := 34) q248 d248_31 rfl (by decide), w_icmp_ge (tg := 41) (pc' := 37) q248 d248_34 (by decide) rfl, w_iconst (pc' := 38) q248 d248_37 rfl, w_goto (tg := 53) q248 d248_38 (by decide), w_iload_n1 (pc' := 42) q248 d248_41 rfl, w_sipush (z' := (204)) (pc' := 45) q248 d248_42 rfl (by decide), w_icmp_ne (tg := 52) (pc' := 48) q248 d248_45 (by decide) rfl, w_iconst (pc' := 49) q248 d248_48 rfl, w_goto (tg := 53) q248 d248_49 (by decide), w_iconst (pc' := 53) q248 d248_52 rfl, w_invv1 (ci := 11) (pc' := 56) q248 d248_53 rfl n248_319 k248_319_11 m243.1, w_return q248 d248_56 m248.2.1, gs_off, gs_off0, gs_0off, gs_2, xN_0, xN_2, xN_3, xN_6, xN_7, xN_8, xN_9, xN_10, xN_11, xN_12, xN_13, xN_14, xN_15, xN_16, xN_17, xN_18, xN_19, xN_20, xN_21, xN_22, xN_23, xN_24, xN_25, xN_26, xN_27, xN_28, xN_29, xN_30, xN_31, xN_32, xN_33, xN_34, xN_35, xN_36, xN_37, xN_38, xN_39, xN_40, xN_41, xN_42, xN_43, xN_44, xN_45, xN_46, xN_47, xN_48, xN_49, xN_50, xN_51, xN_52, xN_53, xN_54, xN_55, ti_0, ti_1, ti_2, ti_3, ti_4, ti_5, ti_6, ti_7, ti_8, ti_9, ti_10, ti_16, ti_19, ti_20, ti_29, ti_30, ti_31, ti_32, ti_35, ti_36, ti_38, ti_39, ti_40, ti_41, ti_42, ti_43, ti_44, ti_45, ti_46, ti_47, ti_48, ti_49, ti_50, ti_51, ti_52, ti_53, ti_54, ti_55, ti_56, ti_57, ti_58, ti_59, ti_60, ti_61, ti_62, ti_63, ti_64, ti_65, ti_74, ti_77, ti_126, ti_200, ti_201, ti_202, ti_203, ti_204, ti_205, ti_210, ti_255, ti_256, ti_400, ti_512, ti_600, ti_601, ti_602, ti_1000, ti_1023, ti_1024, ti_2000, ti_10000, ti_12602, ti_999999, ti_m999999, ti_m1, ti_2000000, ti_3000000, xN_1, xN_4, xN_5, xN_60, xN_61, xN_64, xN_200, xN_800, xN_12000, xN_12602, eq_self, and_self, and_true, true_and, if_true, if_false, decide_true, Nat.reduceLeDiff, xc2_int, xc2_ref, xc2_ra, xc2_null, xc2_long, xc2_none, xisaT_ref, xisaT_ra, xisaT_null, xc1T_int, xc1T_ref, xc1T_ra, xc1T_null, xsum_nil, xsum_int, xsum_ref, xsum_ra, xsum_long, xsum_double, xsum_null, xfl_nil, xfl_int, xfl_ref, xfl_ra, xfl_null, xfl_long, xfl_double, List.length_cons, List.length_nil, s0, m_here hS hC ha (show a ≤ 1000 by omega), h40, t40, tk', t204, h1, not_true_eq_false, k1, mk1', mk2', ml, xfk, xfv, xak, xan, xcls, xsv', List.getElem?_cons_zero, List.getElem?_cons_succ, List.getD_cons_zero, List.getD_cons_succ, Option.getD_some, Option.isSome_some, if_true, if_pos, xcont, Option.toList_none, Option.toList_some, List.nil_append, List.cons_append]
    · rw [if_neg h40]
      intro Q
      rw [← tailF Q, e248]
      simp (config := { decide := true }) only [w_aload_n0 (pc' := 1) q248 d248_0 rfl, w_aload_n0 (pc' := 2) q248 d248_1 rfl, w_invv0 (ci := 11) (pc' := 5) q248 d248_2 rfl n248_288 k248_288_11 m238.1, w_bipush (z' := (40)) (pc' := 7) q248 d248_5 rfl (by decide), w_icmp_ne (tg := 14) (pc' := 10) q248 d248_7 (by decide) rfl, w_iconst (pc' := 11) q248 d248_10 rfl, w_goto (tg := 15) q248 d248_11 (by decide), w_iconst (pc' := 15) q248 d248_14 rfl, w_invv1 (ci := 11) (pc' := 18) q248 d248_15 rfl n248_291 k248_291_11 m245.1, gs_off, gs_off0, gs_0off, gs_2, xN_0, xN_2, xN_3, xN_6, xN_7, xN_8, xN_9, xN_10, xN_11, xN_12, xN_13, xN_14, xN_15, xN_16, xN_17, xN_18, xN_19, xN_20, xN_21, xN_22, xN_23, xN_24, xN_25, xN_26, xN_27, xN_28, xN_29, xN_30, xN_31, xN_32, xN_33, xN_34, xN_35, xN_36, xN_37, xN_38, xN_39, xN_40, xN_41, xN_42, xN_43, xN_44, xN_45, xN_46, xN_47, xN_48, xN_49, xN_50, xN_51, xN_52, xN_53, xN_54, xN_55, ti_0, ti_1, ti_2, ti_3, ti_4, ti_5, ti_6, ti_7, ti_8, ti_9, ti_10, ti_16, ti_19, ti_20, ti_29, ti_30, ti_31, ti_32, ti_35, ti_36, ti_38, ti_39, ti_40, ti_41, ti_42, ti_43, ti_44, ti_45, ti_46, ti_47, ti_48, ti_49, ti_50, ti_51, ti_52, ti_53, ti_54, ti_55, ti_56, ti_57, ti_58, ti_59, ti_60, ti_61, ti_62, ti_63, ti_64, ti_65, ti_74, ti_77, ti_126, ti_200, ti_201, ti_202, ti_203, ti_204, ti_205, ti_210, ti_255, ti_256, ti_400, ti_512, ti_600, ti_601, ti_602, ti_1000, ti_1023, ti_1024, ti_2000, ti_10000, ti_12602, ti_999999, ti_m999999, ti_m1, ti_2000000, ti_3000000, xN_1, xN_4, xN_5, xN_60, xN_61, xN_64, xN_200, xN_800, xN_12000, xN_12602, eq_self, and_self, and_true, true_and, if_true, if_false, decide_true, Nat.reduceLeDiff, xc2_int, xc2_ref, xc2_ra, xc2_null, xc2_long, xc2_none, xisaT_ref, xisaT_ra, xisaT_null, xc1T_int, xc1T_ref, xc1T_ra, xc1T_null, xsum_nil, xsum_int, xsum_ref, xsum_ra, xsum_long, xsum_double, xsum_null, xfl_nil, xfl_int, xfl_ref, xfl_ra, xfl_null, xfl_long, xfl_double, List.length_cons, List.length_nil, s0, m_here hS hC ha (show a ≤ 1000 by omega), h40, tc, t40, not_false_eq_true, k0, xfk, xfv, xak, xan, xcls, xsv', List.getElem?_cons_zero, List.getElem?_cons_succ, List.getD_cons_zero, List.getD_cons_succ, Option.getD_some, Option.isSome_some, if_true, if_pos, xcont, Option.toList_none, Option.toList_some, List.nil_append, List.cons_append]
  · intro Q
    rw [← tailF Q, e248]
    by_cases h40 : mch g m a = 40
    · simp (config := { decide := true }) only [w_aload_n0 (pc' := 1) q248 d248_0 rfl, w_aload_n0 (pc' := 2) q248 d248_1 rfl, w_invv0 (ci := 11) (pc' := 5) q248 d248_2 rfl n248_288 k248_288_11 m238.1, w_bipush (z' := (40)) (pc' := 7) q248 d248_5 rfl (by decide), w_icmp_ne (tg := 14) (pc' := 10) q248 d248_7 (by decide) rfl, w_iconst (pc' := 11) q248 d248_10 rfl, w_goto (tg := 15) q248 d248_11 (by decide), w_iconst (pc' := 15) q248 d248_14 rfl, w_invv1 (ci := 11) (pc' := 18) q248 d248_15 rfl n248_291 k248_291_11 m245.1, gs_off, gs_off0, gs_0off, gs_2, xN_0, xN_2, xN_3, xN_6, xN_7, xN_8, xN_9, xN_10, xN_11, xN_12, xN_13, xN_14, xN_15, xN_16, xN_17, xN_18, xN_19, xN_20, xN_21, xN_22, xN_23, xN_24, xN_25, xN_26, xN_27, xN_28, xN_29, xN_30, xN_31, xN_32, xN_33, xN_34, xN_35, xN_36, xN_37, xN_38, xN_39, xN_40, xN_41, xN_42, xN_43, xN_44, xN_45, xN_46, xN_47, xN_48, xN_49, xN_50, xN_51, xN_52, xN_53, xN_54, xN_55, ti_0, ti_1, ti_2, ti_3, ti_4, ti_5, ti_6, ti_7, ti_8, ti_9, ti_10, ti_16, ti_19, ti_20, ti_29, ti_30, ti_31, ti_32, ti_35, ti_36, ti_38, ti_39, ti_40, ti_41, ti_42, ti_43, ti_44, ti_45, ti_46, ti_47, ti_48, ti_49, ti_50, ti_51, ti_52, ti_53, ti_54, ti_55, ti_56, ti_57, ti_58, ti_59, ti_60, ti_61, ti_62, ti_63, ti_64, ti_65, ti_74, ti_77, ti_126, ti_200, ti_201, ti_202, ti_203, ti_204, ti_205, ti_210, ti_255, ti_256, ti_400, ti_512, ti_600, ti_601, ti_602, ti_1000, ti_1023, ti_1024, ti_2000, ti_10000, ti_12602, ti_999999, ti_m999999, ti_m1, ti_2000000, ti_3000000, xN_1, xN_4, xN_5, xN_60, xN_61, xN_64, xN_200, xN_800, xN_12000, xN_12602, eq_self, and_self, and_true, true_and, if_true, if_false, decide_true, Nat.reduceLeDiff, xc2_int, xc2_ref, xc2_ra, xc2_null, xc2_long, xc2_none, xisaT_ref, xisaT_ra, xisaT_null, xc1T_int, xc1T_ref, xc1T_ra, xc1T_null, xsum_nil, xsum_int, xsum_ref, xsum_ra, xsum_long, xsum_double, xsum_null, xfl_nil, xfl_int, xfl_ref, xfl_ra, xfl_null, xfl_long, xfl_double, List.length_cons, List.length_nil, s0, m_here hS hC ha (show a ≤ 1000 by omega), h40, t40, not_true_eq_false, j1, xfk, xfv, xak, xan, xcls, xsv', List.getElem?_cons_zero, List.getElem?_cons_succ, List.getD_cons_zero, List.getD_cons_succ, Option.getD_some, Option.isSome_some, if_true, if_pos, xcont, Option.toList_none, Option.toList_some, List.nil_append, List.cons_append]
    · simp (config := { decide := true }) only [w_aload_n0 (pc' := 1) q248 d248_0 rfl, w_aload_n0 (pc' := 2) q248 d248_1 rfl, w_invv0 (ci := 11) (pc' := 5) q248 d248_2 rfl n248_288 k248_288_11 m238.1, w_bipush (z' := (40)) (pc' := 7) q248 d248_5 rfl (by decide), w_icmp_ne (tg := 14) (pc' := 10) q248 d248_7 (by decide) rfl, w_iconst (pc' := 11) q248 d248_10 rfl, w_goto (tg := 15) q248 d248_11 (by decide), w_iconst (pc' := 15) q248 d248_14 rfl, w_invv1 (ci := 11) (pc' := 18) q248 d248_15 rfl n248_291 k248_291_11 m245.1, gs_off, gs_off0, gs_0off, gs_2, xN_0, xN_2, xN_3, xN_6, xN_7, xN_8, xN_9, xN_10, xN_11, xN_12, xN_13, xN_14, xN_15, xN_16, xN_17, xN_18, xN_19, xN_20, xN_21, xN_22, xN_23, xN_24, xN_25, xN_26, xN_27, xN_28, xN_29, xN_30, xN_31, xN_32, xN_33, xN_34, xN_35, xN_36, xN_37, xN_38, xN_39, xN_40, xN_41, xN_42, xN_43, xN_44, xN_45, xN_46, xN_47, xN_48, xN_49, xN_50, xN_51, xN_52, xN_53, xN_54, xN_55, ti_0, ti_1, ti_2, ti_3, ti_4, ti_5, ti_6, ti_7, ti_8, ti_9, ti_10, ti_16, ti_19, ti_20, ti_29, ti_30, ti_31, ti_32, ti_35, ti_36, ti_38, ti_39, ti_40, ti_41, ti_42, ti_43, ti_44, ti_45, ti_46, ti_47, ti_48, ti_49, ti_50, ti_51, ti_52, ti_53, ti_54, ti_55, ti_56, ti_57, ti_58, ti_59, ti_60, ti_61, ti_62, ti_63, ti_64, ti_65, ti_74, ti_77, ti_126, ti_200, ti_201, ti_202, ti_203, ti_204, ti_205, ti_210, ti_255, ti_256, ti_400, ti_512, ti_600, ti_601, ti_602, ti_1000, ti_1023, ti_1024, ti_2000, ti_10000, ti_12602, ti_999999, ti_m999999, ti_m1, ti_2000000, ti_3000000, xN_1, xN_4, xN_5, xN_60, xN_61, xN_64, xN_200, xN_800, xN_12000, xN_12602, eq_self, and_self, and_true, true_and, if_true, if_false, decide_true, Nat.reduceLeDiff, xc2_int, xc2_ref, xc2_ra, xc2_null, xc2_long, xc2_none, xisaT_ref, xisaT_ra, xisaT_null, xc1T_int, xc1T_ref, xc1T_ra, xc1T_null, xsum_nil, xsum_int, xsum_ref, xsum_ra, xsum_long, xsum_double, xsum_null, xfl_nil, xfl_int, xfl_ref, xfl_ra, xfl_null, xfl_long, xfl_double, List.length_cons, List.length_nil, s0, m_here hS hC ha (show a ≤ 1000 by omega), h40, tc, t40, not_false_eq_true, j0, xfk, xfv, xak, xan, xcls, xsv', List.getElem?_cons_zero, List.getElem?_cons_succ, List.getD_cons_zero, List.getD_cons_succ, Option.getD_some, Option.isSome_some, if_true, if_pos, xcont, Option.toList_none, Option.toList_some, List.nil_append, List.cons_append]
end
