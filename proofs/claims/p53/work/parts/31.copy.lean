/-! State: copying -/
section
/-- a row is another -/
def gr (g : xGm) (h : Nat) (f : Int → Int) : xGm := fun h' => if h' = h then f else g h'
theorem gr_hit (g : xGm) (h : Nat) (f : Int → Int) : gr g h f h = f := if_pos rfl
theorem gr_row {h h' : Nat} (g : xGm) (f : Int → Int) (hne : ¬ h' = h) : gr g h f h' = g h' := if_neg hne
theorem gr_off {g : xGm} {f : Int → Int} {b k k' : Nat} (hk : ¬ k' = k) : gr g (b + k) f (b + k') = g (b + k') := gr_row g f (by omega)
theorem gr_off0 {g : xGm} {f : Int → Int} {b k : Nat} (hk : ¬ k = 0) : gr g (b + k) f b = g b := gr_row g f (by omega)
variable {X : xX} {d : Nat} {w : xH} {S : xLm} {g : xGm} {Q : xO → xH → Prop}
theorem l_takeTokens {b sr N : Nat} {c st n : Int} (hS : StS S b) (hsr : S.1 sr = .inl (0, N)) (hne : ¬ sr = b + 5) (hN : N ≤ 12000) (hc : 0 ≤ c) (hc2 : c < 200) (hn2 : n ≤ 60) (hst : 0 ≤ st) (hst2 : st + n ≤ N) : ∀ (m : Nat) (p : Int) (G : xGm), p + m = n → 0 ≤ p →
    Wx X (d + 1) 151 30 [some (.ref b), some (.int (iI c)), some (.ref sr), some (.int (iI st)), some (.int (iI n)), some (.int (iI n)), some (.int (iI (c * 60))), some (.int (iI p))] [] (hp S G) Q = Q (.inl none) (hp S (gr G (b + 5) (fun i => if c * 60 + p ≤ i ∧ i < c * 60 + p + m then G sr (st + (i - c * 60)) else G (b + 5) i))) := by
  have hS' := hS
  obtain ⟨h0, h1, h2, h3, h4, h5⟩ := hS'
  intro m
  induction m with
  | zero =>
    intro p G hpm h
    have tp : ti p = p := ti_eq (by omega) (by omega)
    have tn : ti n = n := ti_eq (by omega) (by omega)
    have hn : n ≤ p := by omega
    rw [w_iload7 (pc' := 32) q151 d151_30 rfl]
    simp (config := { decide := true }) only [w_iload5 (pc' := 34) q151 d151_32 rfl, w_icmp_ge (tg := 68) (pc' := 37) q151 d151_34 (by decide) rfl, w_iload_n3 (pc' := 38) q151 d151_37 rfl, w_iload7 (pc' := 40) q151 d151_38 rfl, w_iadd (pc' := 41) q151 d151_40 rfl, w_aload_n2 (pc' := 42) q151 d151_41 rfl, w_alen (k := 0) (pc' := 43) q151 d151_42 rfl, w_icmp_ge (tg := 68) (pc' := 46) q151 d151_43 (by decide) rfl, w_aload_n0 (pc' := 47) q151 d151_46 rfl, w_getV (pc' := 50) q151 d151_47 rfl f151_24, w_iload6 (pc' := 52) q151 d151_50 rfl, w_iload7 (pc' := 54) q151 d151_52 rfl, w_iadd (pc' := 55) q151 d151_54 rfl, w_aload_n2 (pc' := 56) q151 d151_55 rfl, w_iload_n3 (pc' := 57) q151 d151_56 rfl, w_iload7 (pc' := 59) q151 d151_57 rfl, w_iadd (pc' := 60) q151 d151_59 rfl, w_iaload (pc' := 61) q151 d151_60 rfl, w_iastore (pc' := 62) q151 d151_61 rfl, w_iinc7 (z := (1)) (pc' := 65) q151 d151_62 rfl, w_goto (tg := 30) q151 d151_65 (by decide), w_return q151 d151_68 m151.2.1, gs_off, gs_off0, gs_0off, gs_2, xN_0, xN_2, xN_3, xN_6, xN_7, xN_8, xN_9, xN_10, xN_11, xN_12, xN_13, xN_14, xN_15, xN_16, xN_17, xN_18, xN_19, xN_20, xN_21, xN_22, xN_23, xN_24, xN_25, xN_26, xN_27, xN_28, xN_29, xN_30, xN_31, xN_32, xN_33, xN_34, xN_35, xN_36, xN_37, xN_38, xN_39, xN_40, xN_41, xN_42, xN_43, xN_44, xN_45, xN_46, xN_47, xN_48, xN_49, xN_50, xN_51, xN_52, xN_53, xN_54, xN_55, ti_0, ti_1, ti_2, ti_3, ti_4, ti_5, ti_6, ti_7, ti_8, ti_9, ti_10, ti_16, ti_19, ti_20, ti_29, ti_30, ti_31, ti_32, ti_35, ti_36, ti_38, ti_39, ti_40, ti_41, ti_42, ti_43, ti_44, ti_45, ti_46, ti_47, ti_48, ti_49, ti_50, ti_51, ti_52, ti_53, ti_54, ti_55, ti_56, ti_57, ti_58, ti_59, ti_60, ti_61, ti_62, ti_63, ti_64, ti_65, ti_74, ti_77, ti_126, ti_200, ti_201, ti_202, ti_203, ti_204, ti_205, ti_210, ti_255, ti_256, ti_400, ti_512, ti_600, ti_601, ti_602, ti_1000, ti_1023, ti_1024, ti_2000, ti_10000, ti_12602, ti_999999, ti_m999999, ti_m1, ti_2000000, ti_3000000, xN_1, xN_4, xN_5, xN_60, xN_61, xN_64, xN_200, xN_800, xN_12000, xN_12602, eq_self, and_self, and_true, true_and, if_true, if_false, decide_true, Nat.reduceLeDiff, xc2_int, xc2_ref, xc2_ra, xc2_null, xc2_long, xc2_none, xisaT_ref, xisaT_ra, xisaT_null, xc1T_int, xc1T_ref, xc1T_ra, xc1T_null, xsum_nil, xsum_int, xsum_ref, xsum_ra, xsum_long, xsum_double, xsum_null, xfl_nil, xfl_int, xfl_ref, xfl_ra, xfl_null, xfl_long, xfl_double, List.length_cons, List.length_nil, h0, tp, tn, hn, xfk, xfv, xak, xan, xcls, xsv', List.getElem?_cons_zero, List.getElem?_cons_succ, List.getD_cons_zero, List.getD_cons_succ, Option.getD_some, Option.isSome_some, if_true, if_pos, xcont, Option.toList_none, Option.toList_some, List.nil_append, List.cons_append]
    congr 2
    funext h' i
    unfold gr
    by_cases e : h' = b + 5
    · subst e; rw [if_pos rfl, if_neg (by omega)]
    · rw [if_neg e]
  | succ m ih =>
    intro p G hpm h
    have tp : ti p = p := ti_eq (by omega) (by omega)
    have tn : ti n = n := ti_eq (by omega) (by omega)
    have hn : ¬ n ≤ p := by omega
    have t1 : ti (c * 60 + p) = c * 60 + p := ti_eq (by omega) (by omega)
    have t2 : ti (st + p) = st + p := ti_eq (by omega) (by omega)
    have tN : ti (N : Int) = N := ti_eq (by omega) (by omega)
    have b1 : 0 ≤ c * 60 + p := by omega
    have b2 : c * 60 + p < 12000 := by omega
    have b3 : 0 ≤ st + p := by omega
    have b4 : st + p < N := by omega
    have b5 : ¬ (N : Int) ≤ st + p := by omega
    rw [w_iload7 (pc' := 32) q151 d151_30 rfl]
    simp (config := { decide := true }) only [w_iload5 (pc' := 34) q151 d151_32 rfl, w_icmp_ge (tg := 68) (pc' := 37) q151 d151_34 (by decide) rfl, w_iload_n3 (pc' := 38) q151 d151_37 rfl, w_iload7 (pc' := 40) q151 d151_38 rfl, w_iadd (pc' := 41) q151 d151_40 rfl, w_aload_n2 (pc' := 42) q151 d151_41 rfl, w_alen (k := 0) (pc' := 43) q151 d151_42 rfl, w_icmp_ge (tg := 68) (pc' := 46) q151 d151_43 (by decide) rfl, w_aload_n0 (pc' := 47) q151 d151_46 rfl, w_getV (pc' := 50) q151 d151_47 rfl f151_24, w_iload6 (pc' := 52) q151 d151_50 rfl, w_iload7 (pc' := 54) q151 d151_52 rfl, w_iadd (pc' := 55) q151 d151_54 rfl, w_aload_n2 (pc' := 56) q151 d151_55 rfl, w_iload_n3 (pc' := 57) q151 d151_56 rfl, w_iload7 (pc' := 59) q151 d151_57 rfl, w_iadd (pc' := 60) q151 d151_59 rfl, w_iaload (pc' := 61) q151 d151_60 rfl, w_iastore (pc' := 62) q151 d151_61 rfl, w_iinc7 (z := (1)) (pc' := 65) q151 d151_62 rfl, w_goto (tg := 30) q151 d151_65 (by decide), w_return q151 d151_68 m151.2.1, gs_off, gs_off0, gs_0off, gs_2, xN_0, xN_2, xN_3, xN_6, xN_7, xN_8, xN_9, xN_10, xN_11, xN_12, xN_13, xN_14, xN_15, xN_16, xN_17, xN_18, xN_19, xN_20, xN_21, xN_22, xN_23, xN_24, xN_25, xN_26, xN_27, xN_28, xN_29, xN_30, xN_31, xN_32, xN_33, xN_34, xN_35, xN_36, xN_37, xN_38, xN_39, xN_40, xN_41, xN_42, xN_43, xN_44, xN_45, xN_46, xN_47, xN_48, xN_49, xN_50, xN_51, xN_52, xN_53, xN_54, xN_55, ti_0, ti_1, ti_2, ti_3, ti_4, ti_5, ti_6, ti_7, ti_8, ti_9, ti_10, ti_16, ti_19, ti_20, ti_29, ti_30, ti_31, ti_32, ti_35, ti_36, ti_38, ti_39, ti_40, ti_41, ti_42, ti_43, ti_44, ti_45, ti_46, ti_47, ti_48, ti_49, ti_50, ti_51, ti_52, ti_53, ti_54, ti_55, ti_56, ti_57, ti_58, ti_59, ti_60, ti_61, ti_62, ti_63, ti_64, ti_65, ti_74, ti_77, ti_126, ti_200, ti_201, ti_202, ti_203, ti_204, ti_205, ti_210, ti_255, ti_256, ti_400, ti_512, ti_600, ti_601, ti_602, ti_1000, ti_1023, ti_1024, ti_2000, ti_10000, ti_12602, ti_999999, ti_m999999, ti_m1, ti_2000000, ti_3000000, xN_1, xN_4, xN_5, xN_60, xN_61, xN_64, xN_200, xN_800, xN_12000, xN_12602, eq_self, and_self, and_true, true_and, if_true, if_false, decide_true, Nat.reduceLeDiff, xc2_int, xc2_ref, xc2_ra, xc2_null, xc2_long, xc2_none, xisaT_ref, xisaT_ra, xisaT_null, xc1T_int, xc1T_ref, xc1T_ra, xc1T_null, xsum_nil, xsum_int, xsum_ref, xsum_ra, xsum_long, xsum_double, xsum_null, xfl_nil, xfl_int, xfl_ref, xfl_ra, xfl_null, xfl_long, xfl_double, List.length_cons, List.length_nil, h0, h5, hsr, tp, tn, hn, t1, t2, tN, b1, b2, b3, b4, b5, xfk, xfv, xak, xan, xcls, xsv', List.getElem?_cons_zero, List.getElem?_cons_succ, List.getD_cons_zero, List.getD_cons_succ, Option.getD_some, Option.isSome_some, if_true, if_pos, xcont, Option.toList_none, Option.toList_some, List.nil_append, List.cons_append]
    rw [ih (p + 1) _ (by omega) (by omega)]
    congr 2
    funext h' i
    unfold gr
    by_cases e : h' = b + 5
    · subst e
      rw [if_pos rfl, if_pos rfl, gs_row _ _ _ hne, gs_at]
      by_cases e1 : i = c * 60 + p
      · rw [if_neg (by omega), if_pos e1, if_pos (by omega), show st + (i - c * 60) = st + p by omega]
      · by_cases e2 : c * 60 + (p + 1) ≤ i ∧ i < c * 60 + (p + 1) + m
        · rw [if_pos e2, if_pos (by omega)]
        · rw [if_neg e2, if_neg e1, if_neg (by omega)]
    · rw [if_neg e, if_neg e, gs_row _ _ _ e]
theorem c_takeTokens {b sr N : Nat} {c st n : Int} (hS : StS S b) (hsr : S.1 sr = .inl (0, N)) (hne : ¬ sr = b + 5) (hne4 : ¬ sr = b + 4) (hN : N ≤ 12000) (hc : 0 ≤ c) (hc2 : c < 200) (hn : 0 ≤ n) (hn2 : n ≤ 60) (hst : 0 ≤ st) (hst2 : st + n ≤ N) :
    Cw X (d + 1) 151 [.ref b, .int (iI c), .ref sr, .int (iI st), .int (iI n)] (hp S g) Q = Q (.inl none) (hp S (gr (gs g (b + 4) c n) (b + 5) (fun i => if c * 60 ≤ i ∧ i < c * 60 + n then g sr (st + (i - c * 60)) else g (b + 5) i))) := by
  have hS' := hS
  obtain ⟨h0, h1, h2, h3, h4, h5⟩ := hS'
  have tn : ti n = n := ti_eq (by omega) (by omega)
  have tc : ti c = c := ti_eq (by omega) (by omega)
  have n1 : ¬ 60 < n := by omega
  have n2 : ¬ n < 0 := by omega
  rw [e151]
  simp (config := { decide := true }) only [w_iload4 (pc' := 2) q151 d151_0 rfl, w_bipush (z' := (60)) (pc' := 4) q151 d151_2 rfl (by decide), w_invs2 (pc' := 7) q151 d151_4 rfl (by decide +kernel) k151_58_99 m409.1, w_istore5 (pc' := 9) q151 d151_7 rfl, w_iload_n1 (pc' := 10) q151 d151_9 rfl, w_bipush (z' := (60)) (pc' := 12) q151 d151_10 rfl (by decide), w_imul (pc' := 13) q151 d151_12 rfl, w_istore6 (pc' := 15) q151 d151_13 rfl, w_aload_n0 (pc' := 16) q151 d151_15 rfl, w_getV (pc' := 19) q151 d151_16 rfl f151_21, w_iload_n1 (pc' := 20) q151 d151_19 rfl, w_iload5 (pc' := 22) q151 d151_20 rfl, w_iconst (pc' := 23) q151 d151_22 rfl, w_invs2 (pc' := 26) q151 d151_23 rfl (by decide +kernel) k151_64_99 m410.1, w_iastore (pc' := 27) q151 d151_26 rfl, w_iconst (pc' := 28) q151 d151_27 rfl, w_istore7 (pc' := 30) q151 d151_28 rfl, gs_off, gs_off0, gs_0off, gs_2, xN_0, xN_2, xN_3, xN_6, xN_7, xN_8, xN_9, xN_10, xN_11, xN_12, xN_13, xN_14, xN_15, xN_16, xN_17, xN_18, xN_19, xN_20, xN_21, xN_22, xN_23, xN_24, xN_25, xN_26, xN_27, xN_28, xN_29, xN_30, xN_31, xN_32, xN_33, xN_34, xN_35, xN_36, xN_37, xN_38, xN_39, xN_40, xN_41, xN_42, xN_43, xN_44, xN_45, xN_46, xN_47, xN_48, xN_49, xN_50, xN_51, xN_52, xN_53, xN_54, xN_55, ti_0, ti_1, ti_2, ti_3, ti_4, ti_5, ti_6, ti_7, ti_8, ti_9, ti_10, ti_16, ti_19, ti_20, ti_29, ti_30, ti_31, ti_32, ti_35, ti_36, ti_38, ti_39, ti_40, ti_41, ti_42, ti_43, ti_44, ti_45, ti_46, ti_47, ti_48, ti_49, ti_50, ti_51, ti_52, ti_53, ti_54, ti_55, ti_56, ti_57, ti_58, ti_59, ti_60, ti_61, ti_62, ti_63, ti_64, ti_65, ti_74, ti_77, ti_126, ti_200, ti_201, ti_202, ti_203, ti_204, ti_205, ti_210, ti_255, ti_256, ti_400, ti_512, ti_600, ti_601, ti_602, ti_1000, ti_1023, ti_1024, ti_2000, ti_10000, ti_12602, ti_999999, ti_m999999, ti_m1, ti_2000000, ti_3000000, xN_1, xN_4, xN_5, xN_60, xN_61, xN_64, xN_200, xN_800, xN_12000, xN_12602, eq_self, and_self, and_true, true_and, if_true, if_false, decide_true, Nat.reduceLeDiff, xc2_int, xc2_ref, xc2_ra, xc2_null, xc2_long, xc2_none, xisaT_ref, xisaT_ra, xisaT_null, xc1T_int, xc1T_ref, xc1T_ra, xc1T_null, xsum_nil, xsum_int, xsum_ref, xsum_ra, xsum_long, xsum_double, xsum_null, xfl_nil, xfl_int, xfl_ref, xfl_ra, xfl_null, xfl_long, xfl_double, List.length_cons, List.length_nil, c_min, c_max, h0, h4, tn, tc, hc, hc2, n1, n2, xfk, xfv, xak, xan, xcls, xsv', List.getElem?_cons_zero, List.getElem?_cons_succ, List.getD_cons_zero, List.getD_cons_succ, Option.getD_some, Option.isSome_some, if_true, if_pos, xcont, Option.toList_none, Option.toList_some, List.nil_append, List.cons_append]
  obtain ⟨m, rfl⟩ : ∃ m : Nat, n = m := ⟨n.toNat, by omega⟩
  rw [l_takeTokens hS hsr hne hN hc hc2 hn2 hst hst2 m 0 _ (by omega) (by omega)]
  congr 2
  funext h' i
  unfold gr
  by_cases e : h' = b + 5
  · subst e
    rw [if_pos rfl, if_pos rfl, gs_row _ _ _ hne4, gs_off (by decide), Int.add_zero]
  · rw [if_neg e, if_neg e]
/-- a cell as the source has it -/
def gT (g : xGm) (b o : Nat) (c s : Int) : xGm :=
  gr (gs (gs (gs (gs g (b + 1) c (g (o + 1) s)) (b + 2) c (g (o + 2) s)) (b + 3) c (g (o + 3) s)) (b + 4) c (g (o + 4) s)) (b + 5) (fun i => if c * 60 ≤ i ∧ i < c * 60 + g (o + 4) s then g (o + 5) (s * 60 + (i - c * 60)) else g (b + 5) i)
theorem c_takeCell {b o : Nat} {c s : Int} (hS : StS S b) (hO : StS S o) (hbo : o + 5 < b ∨ b + 5 < o) (hc : 0 ≤ c) (hc2 : c < 200) (hs : 0 ≤ s) (hs2 : s < 200) (hn : 0 ≤ g (o + 4) s) (hn2 : g (o + 4) s ≤ 60) :
    Cw X (d + 2) 150 [.ref b, .int (iI c), .ref o, .int (iI s)] (hp S g) Q = Q (.inl none) (hp S (gT g b o c s)) := by
  have hS' := hS
  have hO' := hO
  obtain ⟨h0, h1, h2, h3, h4, h5⟩ := hS'
  obtain ⟨o0, o1, o2, o3, o4, o5⟩ := hO'
  have tc : ti c = c := ti_eq (by omega) (by omega)
  have ts : ti s = s := ti_eq (by omega) (by omega)
  have nn : ∀ j k : Nat, j ≤ 5 → k ≤ 5 → (o + j = b + k) = False := fun j k hj hk => eq_false (by omega)
  rw [e150]
  simp (config := { decide := true }) only [w_iload_n1 (pc' := 1) q150 d150_0 rfl, w_invs1 (pc' := 4) q150 d150_1 rfl (by decide +kernel) k150_38_99 m5.1, w_if_eq (tg := 14) (pc' := 7) q150 d150_4 (by decide) rfl, w_iload_n3 (pc' := 8) q150 d150_7 rfl, w_invs1 (pc' := 11) q150 d150_8 rfl (by decide +kernel) k150_38_99 m5.1, w_if_ne (tg := 15) (pc' := 14) q150 d150_11 (by decide) rfl, w_return q150 d150_14 m150.2.1, w_aload_n0 (pc' := 16) q150 d150_15 rfl, w_getV (pc' := 19) q150 d150_16 rfl f150_9, w_iload_n1 (pc' := 20) q150 d150_19 rfl, w_aload_n2 (pc' := 21) q150 d150_20 rfl, w_getV (pc' := 24) q150 d150_21 rfl f150_9, w_iload_n3 (pc' := 25) q150 d150_24 rfl, w_iaload (pc' := 26) q150 d150_25 rfl, w_iastore (pc' := 27) q150 d150_26 rfl, w_aload_n0 (pc' := 28) q150 d150_27 rfl, w_getV (pc' := 31) q150 d150_28 rfl f150_15, w_iload_n1 (pc' := 32) q150 d150_31 rfl, w_aload_n2 (pc' := 33) q150 d150_32 rfl, w_getV (pc' := 36) q150 d150_33 rfl f150_15, w_iload_n3 (pc' := 37) q150 d150_36 rfl, w_iaload (pc' := 38) q150 d150_37 rfl, w_iastore (pc' := 39) q150 d150_38 rfl, w_aload_n0 (pc' := 40) q150 d150_39 rfl, w_getV (pc' := 43) q150 d150_40 rfl f150_18, w_iload_n1 (pc' := 44) q150 d150_43 rfl, w_aload_n2 (pc' := 45) q150 d150_44 rfl, w_getV (pc' := 48) q150 d150_45 rfl f150_18, w_iload_n3 (pc' := 49) q150 d150_48 rfl, w_iaload (pc' := 50) q150 d150_49 rfl, w_iastore (pc' := 51) q150 d150_50 rfl, w_aload_n0 (pc' := 52) q150 d150_51 rfl, w_iload_n1 (pc' := 53) q150 d150_52 rfl, w_aload_n2 (pc' := 54) q150 d150_53 rfl, w_getV (pc' := 57) q150 d150_54 rfl f150_24, w_iload_n3 (pc' := 58) q150 d150_57 rfl, w_bipush (z' := (60)) (pc' := 60) q150 d150_58 rfl (by decide), w_imul (pc' := 61) q150 d150_60 rfl, w_aload_n2 (pc' := 62) q150 d150_61 rfl, w_getV (pc' := 65) q150 d150_62 rfl f150_21, w_iload_n3 (pc' := 66) q150 d150_65 rfl, w_iaload (pc' := 67) q150 d150_66 rfl, w_invv4 (ci := 9) (pc' := 70) q150 d150_67 rfl n150_42 k150_42_9 m151.1, w_return q150 d150_70 m150.2.1, gs_off, gs_off0, gs_0off, gs_2, xN_0, xN_2, xN_3, xN_6, xN_7, xN_8, xN_9, xN_10, xN_11, xN_12, xN_13, xN_14, xN_15, xN_16, xN_17, xN_18, xN_19, xN_20, xN_21, xN_22, xN_23, xN_24, xN_25, xN_26, xN_27, xN_28, xN_29, xN_30, xN_31, xN_32, xN_33, xN_34, xN_35, xN_36, xN_37, xN_38, xN_39, xN_40, xN_41, xN_42, xN_43, xN_44, xN_45, xN_46, xN_47, xN_48, xN_49, xN_50, xN_51, xN_52, xN_53, xN_54, xN_55, ti_0, ti_1, ti_2, ti_3, ti_4, ti_5, ti_6, ti_7, ti_8, ti_9, ti_10, ti_16, ti_19, ti_20, ti_29, ti_30, ti_31, ti_32, ti_35, ti_36, ti_38, ti_39, ti_40, ti_41, ti_42, ti_43, ti_44, ti_45, ti_46, ti_47, ti_48, ti_49, ti_50, ti_51, ti_52, ti_53, ti_54, ti_55, ti_56, ti_57, ti_58, ti_59, ti_60, ti_61, ti_62, ti_63, ti_64, ti_65, ti_74, ti_77, ti_126, ti_200, ti_201, ti_202, ti_203, ti_204, ti_205, ti_210, ti_255, ti_256, ti_400, ti_512, ti_600, ti_601, ti_602, ti_1000, ti_1023, ti_1024, ti_2000, ti_10000, ti_12602, ti_999999, ti_m999999, ti_m1, ti_2000000, ti_3000000, xN_1, xN_4, xN_5, xN_60, xN_61, xN_64, xN_200, xN_800, xN_12000, xN_12602, eq_self, and_self, and_true, true_and, if_true, if_false, decide_true, Nat.reduceLeDiff, xc2_int, xc2_ref, xc2_ra, xc2_null, xc2_long, xc2_none, xisaT_ref, xisaT_ra, xisaT_null, xc1T_int, xc1T_ref, xc1T_ra, xc1T_null, xsum_nil, xsum_int, xsum_ref, xsum_ra, xsum_long, xsum_double, xsum_null, xfl_nil, xfl_int, xfl_ref, xfl_ra, xfl_null, xfl_long, xfl_double, List.length_cons, List.length_nil, c_isCell, h0, h1, h2, h3, h4, h5, o0, o1, o2, o3, o4, o5, tc, ts, hc, hc2, hs, hs2, xfk, xfv, xak, xan, xcls, xsv', List.getElem?_cons_zero, List.getElem?_cons_succ, List.getD_cons_zero, List.getD_cons_succ, Option.getD_some, Option.isSome_some, if_true, if_pos, xcont, Option.toList_none, Option.toList_some, List.nil_append, List.cons_append, gs_num, nn]
  rw [c_takeTokens hS o5 (by omega) (by omega) (by decide) hc hc2 hn hn2 (by omega) (by omega)]
  simp (config := { decide := true }) only [gs_off, gs_off0, gs_0off, gs_2, xN_0, xN_2, xN_3, xN_6, xN_7, xN_8, xN_9, xN_10, xN_11, xN_12, xN_13, xN_14, xN_15, xN_16, xN_17, xN_18, xN_19, xN_20, xN_21, xN_22, xN_23, xN_24, xN_25, xN_26, xN_27, xN_28, xN_29, xN_30, xN_31, xN_32, xN_33, xN_34, xN_35, xN_36, xN_37, xN_38, xN_39, xN_40, xN_41, xN_42, xN_43, xN_44, xN_45, xN_46, xN_47, xN_48, xN_49, xN_50, xN_51, xN_52, xN_53, xN_54, xN_55, ti_0, ti_1, ti_2, ti_3, ti_4, ti_5, ti_6, ti_7, ti_8, ti_9, ti_10, ti_16, ti_19, ti_20, ti_29, ti_30, ti_31, ti_32, ti_35, ti_36, ti_38, ti_39, ti_40, ti_41, ti_42, ti_43, ti_44, ti_45, ti_46, ti_47, ti_48, ti_49, ti_50, ti_51, ti_52, ti_53, ti_54, ti_55, ti_56, ti_57, ti_58, ti_59, ti_60, ti_61, ti_62, ti_63, ti_64, ti_65, ti_74, ti_77, ti_126, ti_200, ti_201, ti_202, ti_203, ti_204, ti_205, ti_210, ti_255, ti_256, ti_400, ti_512, ti_600, ti_601, ti_602, ti_1000, ti_1023, ti_1024, ti_2000, ti_10000, ti_12602, ti_999999, ti_m999999, ti_m1, ti_2000000, ti_3000000, xN_1, xN_4, xN_5, xN_60, xN_61, xN_64, xN_200, xN_800, xN_12000, xN_12602, eq_self, and_self, and_true, true_and, if_true, if_false, decide_true, Nat.reduceLeDiff, xc2_int, xc2_ref, xc2_ra, xc2_null, xc2_long, xc2_none, xisaT_ref, xisaT_ra, xisaT_null, xc1T_int, xc1T_ref, xc1T_ra, xc1T_null, xsum_nil, xsum_int, xsum_ref, xsum_ra, xsum_long, xsum_double, xsum_null, xfl_nil, xfl_int, xfl_ref, xfl_ra, xfl_null, xfl_long, xfl_double, List.length_cons, List.length_nil, xfk, xfv, xak, xan, xcls, xsv', List.getElem?_cons_zero, List.getElem?_cons_succ, List.getD_cons_zero, List.getD_cons_succ, Option.getD_some, Option.isSome_some, if_true, if_pos, xcont, Option.toList_none, Option.toList_some, List.nil_append, List.cons_append, w_return q150 d150_70 m150.2.1, gs_num, nn, gs_off]
  rfl
/-- the cells below n as the source has them -/
def gA (g : xGm) (b o : Nat) (n : Int) : xGm := fun h i =>
  if h = b + 1 then (if 0 ≤ i ∧ i < n then g (o + 1) i else g (b + 1) i)
  else if h = b + 2 then (if 0 ≤ i ∧ i < n then g (o + 2) i else g (b + 2) i)
  else if h = b + 3 then (if 0 ≤ i ∧ i < n then g (o + 3) i else g (b + 3) i)
  else if h = b + 4 then (if 0 ≤ i ∧ i < n then g (o + 4) i else g (b + 4) i)
  else if h = b + 5 then (if 0 ≤ i ∧ i < n * 60 ∧ i % 60 < g (o + 4) (i / 60) then g (o + 5) i else g (b + 5) i)
  else g h i
theorem gA_0 (g : xGm) (b o : Nat) : gA g b o 0 = g := by
  funext h i
  unfold gA
  have e : ¬ (0 ≤ i ∧ i < 0) := by omega
  have e2 : ¬ (0 ≤ i ∧ i < 0 * 60 ∧ i % 60 < g (o + 4) (i / 60)) := by omega
  simp only [if_neg e, if_neg e2]
  by_cases h1 : h = b + 1
  · rw [if_pos h1, h1]
  rw [if_neg h1]
  by_cases h2 : h = b + 2
  · rw [if_pos h2, h2]
  rw [if_neg h2]
  by_cases h3 : h = b + 3
  · rw [if_pos h3, h3]
  rw [if_neg h3]
  by_cases h4 : h = b + 4
  · rw [if_pos h4, h4]
  rw [if_neg h4]
  by_cases h5 : h = b + 5
  · rw [if_pos h5, h5]
  rw [if_neg h5]
theorem gA_row {g : xGm} {b o : Nat} {n : Int} {h : Nat} (hh : h < b + 1 ∨ b + 5 < h) : gA g b o n h = g h := by
  funext i
  unfold gA
  rw [if_neg (by omega), if_neg (by omega), if_neg (by omega), if_neg (by omega), if_neg (by omega)]
theorem gA_5 {g : xGm} {b o : Nat} {n i : Int} : gA g b o n (b + 5) i = if 0 ≤ i ∧ i < n * 60 ∧ i % 60 < g (o + 4) (i / 60) then g (o + 5) i else g (b + 5) i := by
  unfold gA
  rw [if_neg (by omega), if_neg (by omega), if_neg (by omega), if_neg (by omega), if_pos rfl]
theorem gA_step {g : xGm} {b o : Nat} {c : Int} (hbo : o + 5 < b ∨ b + 5 < o) (hc : 0 ≤ c) (hn : ∀ j, 0 ≤ j → j < 200 → 0 ≤ g (o + 4) j ∧ g (o + 4) j ≤ 60) (hc2 : c < 200) : gT (gA g b o c) b o c c = gA g b o (c + 1) := by
  have r : ∀ k : Nat, 1 ≤ k → k ≤ 5 → gA g b o c (o + k) = g (o + k) := fun k h1 h2 => gA_row (by omega)
  unfold gT
  rw [r 1 (by omega) (by omega), r 2 (by omega) (by omega), r 3 (by omega) (by omega), r 4 (by omega) (by omega), r 5 (by omega) (by omega)]
  have hcn := hn c hc hc2
  funext h i
  unfold gr
  by_cases h5 : h = b + 5
  · subst h5
    rw [if_pos rfl]
    rw [gA_5, gA_5]
    by_cases e1 : c * 60 ≤ i ∧ i < c * 60 + g (o + 4) c
    · have e3 : i / 60 = c := by omega
      have e4 : i % 60 = i - c * 60 := by omega
      rw [if_pos e1, if_pos ⟨by omega, by omega, by rw [e3, e4]; omega⟩, show c * 60 + (i - c * 60) = i by omega]
    · rw [if_neg e1]
      by_cases e2 : 0 ≤ i ∧ i < c * 60 ∧ i % 60 < g (o + 4) (i / 60)
      · rw [if_pos e2, if_pos ⟨e2.1, by omega, e2.2.2⟩]
      · rw [if_neg e2, if_neg]
        rintro ⟨f1, f2, f3⟩
        by_cases f4 : i < c * 60
        · exact e2 ⟨f1, f4, f3⟩
        · have e3 : i / 60 = c := by omega
          rw [e3] at f3
          exact e1 ⟨by omega, by omega⟩
  · rw [if_neg h5]
    have hm : ∀ k : Nat, 1 ≤ k → k ≤ 4 → ∀ z : Int, (if i = c then g (o + k) c else (if 0 ≤ i ∧ i < c then g (o + k) i else z)) = if 0 ≤ i ∧ i < c + 1 then g (o + k) i else z := by
      intro k _ _ z
      by_cases e : i = c
      · rw [if_pos e, if_pos (by omega), e]
      · rw [if_neg e]
        by_cases e2 : 0 ≤ i ∧ i < c
        · rw [if_pos e2, if_pos (by omega)]
        · rw [if_neg e2, if_neg (by omega)]
    unfold gs gA
    by_cases h4 : h = b + 4
    · subst h4
      have := hm 4 (by omega) (by omega) (g (b + 4) i)
      simp (config := { decide := true }) only [true_and, false_and, if_false, if_true, Nat.add_left_cancel_iff]
      exact this
    by_cases h3 : h = b + 3
    · subst h3
      have := hm 3 (by omega) (by omega) (g (b + 3) i)
      simp (config := { decide := true }) only [true_and, false_and, if_false, if_true, Nat.add_left_cancel_iff]
      exact this
    by_cases h2 : h = b + 2
    · subst h2
      have := hm 2 (by omega) (by omega) (g (b + 2) i)
      simp (config := { decide := true }) only [true_and, false_and, if_false, if_true, Nat.add_left_cancel_iff]
      exact this
    by_cases h1 : h = b + 1
    · subst h1
      have := hm 1 (by omega) (by omega) (g (b + 1) i)
      simp (config := { decide := true }) only [true_and, false_and, if_false, if_true, Nat.add_left_cancel_iff]
      exact this
    · simp only [h1, h2, h3, h4, h5, false_and, if_false]
theorem l_takeAll {b o : Nat} (hS : StS S b) (hO : StS S o) (hbo : o + 5 < b ∨ b + 5 < o) (hn : ∀ j, 0 ≤ j → j < 200 → 0 ≤ g (o + 4) j ∧ g (o + 4) j ≤ 60) : ∀ (m : Nat) (c : Int), c + m = 200 → 0 ≤ c →
    Wx X (d + 3) 149 2 [some (.ref b), some (.ref o), some (.int (iI c))] [] (hp S (gA g b o c)) Q = Q (.inl none) (hp S (gs (gs (gA g b o 200) b 5 (g o 5)) b 6 (g o 6))) := by
  have hS' := hS
  have hO' := hO
  obtain ⟨h0, h1, h2, h3, h4, h5⟩ := hS'
  obtain ⟨o0, o1, o2, o3, o4, o5⟩ := hO'
  intro m
  induction m with
  | zero =>
    intro c hc h
    obtain rfl : c = 200 := by omega
    have e1 : gA g b o 200 o = g o := gA_row (by omega)
    have e2 : (o = b) = False := eq_false (by omega)
    rw [w_iload_n2 (pc' := 3) q149 d149_2 rfl]
    simp (config := { decide := true }) only [w_sipush (z' := (200)) (pc' := 6) q149 d149_3 rfl (by decide), w_icmp_ge (tg := 22) (pc' := 9) q149 d149_6 (by decide) rfl, w_aload_n0 (pc' := 10) q149 d149_9 rfl, w_iload_n2 (pc' := 11) q149 d149_10 rfl, w_aload_n1 (pc' := 12) q149 d149_11 rfl, w_iload_n2 (pc' := 13) q149 d149_12 rfl, w_invv3 (ci := 9) (pc' := 16) q149 d149_13 rfl n149_27 k149_27_9 m150.1, w_iinc2 (z := (1)) (pc' := 19) q149 d149_16 rfl, w_goto (tg := 2) q149 d149_19 (by decide), w_aload_n0 (pc' := 23) q149 d149_22 rfl, w_aload_n1 (pc' := 24) q149 d149_23 rfl, w_getI (pc' := 27) q149 d149_24 rfl f149_31, w_putI (pc' := 30) q149 d149_27 rfl f149_31 rfl (by decide +kernel), w_aload_n0 (pc' := 31) q149 d149_30 rfl, w_aload_n1 (pc' := 32) q149 d149_31 rfl, w_getI (pc' := 35) q149 d149_32 rfl f149_35, w_putI (pc' := 38) q149 d149_35 rfl f149_35 rfl (by decide +kernel), w_return q149 d149_38 m149.2.1, gs_off, gs_off0, gs_0off, gs_2, xN_0, xN_2, xN_3, xN_6, xN_7, xN_8, xN_9, xN_10, xN_11, xN_12, xN_13, xN_14, xN_15, xN_16, xN_17, xN_18, xN_19, xN_20, xN_21, xN_22, xN_23, xN_24, xN_25, xN_26, xN_27, xN_28, xN_29, xN_30, xN_31, xN_32, xN_33, xN_34, xN_35, xN_36, xN_37, xN_38, xN_39, xN_40, xN_41, xN_42, xN_43, xN_44, xN_45, xN_46, xN_47, xN_48, xN_49, xN_50, xN_51, xN_52, xN_53, xN_54, xN_55, ti_0, ti_1, ti_2, ti_3, ti_4, ti_5, ti_6, ti_7, ti_8, ti_9, ti_10, ti_16, ti_19, ti_20, ti_29, ti_30, ti_31, ti_32, ti_35, ti_36, ti_38, ti_39, ti_40, ti_41, ti_42, ti_43, ti_44, ti_45, ti_46, ti_47, ti_48, ti_49, ti_50, ti_51, ti_52, ti_53, ti_54, ti_55, ti_56, ti_57, ti_58, ti_59, ti_60, ti_61, ti_62, ti_63, ti_64, ti_65, ti_74, ti_77, ti_126, ti_200, ti_201, ti_202, ti_203, ti_204, ti_205, ti_210, ti_255, ti_256, ti_400, ti_512, ti_600, ti_601, ti_602, ti_1000, ti_1023, ti_1024, ti_2000, ti_10000, ti_12602, ti_999999, ti_m999999, ti_m1, ti_2000000, ti_3000000, xN_1, xN_4, xN_5, xN_60, xN_61, xN_64, xN_200, xN_800, xN_12000, xN_12602, eq_self, and_self, and_true, true_and, if_true, if_false, decide_true, Nat.reduceLeDiff, xc2_int, xc2_ref, xc2_ra, xc2_null, xc2_long, xc2_none, xisaT_ref, xisaT_ra, xisaT_null, xc1T_int, xc1T_ref, xc1T_ra, xc1T_null, xsum_nil, xsum_int, xsum_ref, xsum_ra, xsum_long, xsum_double, xsum_null, xfl_nil, xfl_int, xfl_ref, xfl_ra, xfl_null, xfl_long, xfl_double, List.length_cons, List.length_nil, h0, o0, e1, e2, gs_num, xfk, xfv, xak, xan, xcls, xsv', List.getElem?_cons_zero, List.getElem?_cons_succ, List.getD_cons_zero, List.getD_cons_succ, Option.getD_some, Option.isSome_some, if_true, if_pos, xcont, Option.toList_none, Option.toList_some, List.nil_append, List.cons_append]
  | succ m ih =>
    intro c hc h
    have tc : ti c = c := ti_eq (by omega) (by omega)
    have hn0 : ¬ 200 ≤ c := by omega
    have e4 : gA g b o c (o + 4) = g (o + 4) := gA_row (by omega)
    have hcn := hn c h (by omega)
    rw [w_iload_n2 (pc' := 3) q149 d149_2 rfl]
    simp (config := { decide := true }) only [w_sipush (z' := (200)) (pc' := 6) q149 d149_3 rfl (by decide), w_icmp_ge (tg := 22) (pc' := 9) q149 d149_6 (by decide) rfl, w_aload_n0 (pc' := 10) q149 d149_9 rfl, w_iload_n2 (pc' := 11) q149 d149_10 rfl, w_aload_n1 (pc' := 12) q149 d149_11 rfl, w_iload_n2 (pc' := 13) q149 d149_12 rfl, w_invv3 (ci := 9) (pc' := 16) q149 d149_13 rfl n149_27 k149_27_9 m150.1, w_iinc2 (z := (1)) (pc' := 19) q149 d149_16 rfl, w_goto (tg := 2) q149 d149_19 (by decide), w_aload_n0 (pc' := 23) q149 d149_22 rfl, w_aload_n1 (pc' := 24) q149 d149_23 rfl, w_getI (pc' := 27) q149 d149_24 rfl f149_31, w_putI (pc' := 30) q149 d149_27 rfl f149_31 rfl (by decide +kernel), w_aload_n0 (pc' := 31) q149 d149_30 rfl, w_aload_n1 (pc' := 32) q149 d149_31 rfl, w_getI (pc' := 35) q149 d149_32 rfl f149_35, w_putI (pc' := 38) q149 d149_35 rfl f149_35 rfl (by decide +kernel), w_return q149 d149_38 m149.2.1, gs_off, gs_off0, gs_0off, gs_2, xN_0, xN_2, xN_3, xN_6, xN_7, xN_8, xN_9, xN_10, xN_11, xN_12, xN_13, xN_14, xN_15, xN_16, xN_17, xN_18, xN_19, xN_20, xN_21, xN_22, xN_23, xN_24, xN_25, xN_26, xN_27, xN_28, xN_29, xN_30, xN_31, xN_32, xN_33, xN_34, xN_35, xN_36, xN_37, xN_38, xN_39, xN_40, xN_41, xN_42, xN_43, xN_44, xN_45, xN_46, xN_47, xN_48, xN_49, xN_50, xN_51, xN_52, xN_53, xN_54, xN_55, ti_0, ti_1, ti_2, ti_3, ti_4, ti_5, ti_6, ti_7, ti_8, ti_9, ti_10, ti_16, ti_19, ti_20, ti_29, ti_30, ti_31, ti_32, ti_35, ti_36, ti_38, ti_39, ti_40, ti_41, ti_42, ti_43, ti_44, ti_45, ti_46, ti_47, ti_48, ti_49, ti_50, ti_51, ti_52, ti_53, ti_54, ti_55, ti_56, ti_57, ti_58, ti_59, ti_60, ti_61, ti_62, ti_63, ti_64, ti_65, ti_74, ti_77, ti_126, ti_200, ti_201, ti_202, ti_203, ti_204, ti_205, ti_210, ti_255, ti_256, ti_400, ti_512, ti_600, ti_601, ti_602, ti_1000, ti_1023, ti_1024, ti_2000, ti_10000, ti_12602, ti_999999, ti_m999999, ti_m1, ti_2000000, ti_3000000, xN_1, xN_4, xN_5, xN_60, xN_61, xN_64, xN_200, xN_800, xN_12000, xN_12602, eq_self, and_self, and_true, true_and, if_true, if_false, decide_true, Nat.reduceLeDiff, xc2_int, xc2_ref, xc2_ra, xc2_null, xc2_long, xc2_none, xisaT_ref, xisaT_ra, xisaT_null, xc1T_int, xc1T_ref, xc1T_ra, xc1T_null, xsum_nil, xsum_int, xsum_ref, xsum_ra, xsum_long, xsum_double, xsum_null, xfl_nil, xfl_int, xfl_ref, xfl_ra, xfl_null, xfl_long, xfl_double, List.length_cons, List.length_nil, h0, tc, hn0, xfk, xfv, xak, xan, xcls, xsv', List.getElem?_cons_zero, List.getElem?_cons_succ, List.getD_cons_zero, List.getD_cons_succ, Option.getD_some, Option.isSome_some, if_true, if_pos, xcont, Option.toList_none, Option.toList_some, List.nil_append, List.cons_append]
    rw [c_takeCell hS hO hbo h (by omega) h (by omega) (by rw [e4]; exact hcn.1) (by rw [e4]; exact hcn.2), gA_step hbo h hn (by omega)]
    simp (config := { decide := true }) only [w_iinc2 (z := (1)) (pc' := 19) q149 d149_16 rfl, w_goto (tg := 2) q149 d149_19 (by decide), gs_off, gs_off0, gs_0off, gs_2, xN_0, xN_2, xN_3, xN_6, xN_7, xN_8, xN_9, xN_10, xN_11, xN_12, xN_13, xN_14, xN_15, xN_16, xN_17, xN_18, xN_19, xN_20, xN_21, xN_22, xN_23, xN_24, xN_25, xN_26, xN_27, xN_28, xN_29, xN_30, xN_31, xN_32, xN_33, xN_34, xN_35, xN_36, xN_37, xN_38, xN_39, xN_40, xN_41, xN_42, xN_43, xN_44, xN_45, xN_46, xN_47, xN_48, xN_49, xN_50, xN_51, xN_52, xN_53, xN_54, xN_55, ti_0, ti_1, ti_2, ti_3, ti_4, ti_5, ti_6, ti_7, ti_8, ti_9, ti_10, ti_16, ti_19, ti_20, ti_29, ti_30, ti_31, ti_32, ti_35, ti_36, ti_38, ti_39, ti_40, ti_41, ti_42, ti_43, ti_44, ti_45, ti_46, ti_47, ti_48, ti_49, ti_50, ti_51, ti_52, ti_53, ti_54, ti_55, ti_56, ti_57, ti_58, ti_59, ti_60, ti_61, ti_62, ti_63, ti_64, ti_65, ti_74, ti_77, ti_126, ti_200, ti_201, ti_202, ti_203, ti_204, ti_205, ti_210, ti_255, ti_256, ti_400, ti_512, ti_600, ti_601, ti_602, ti_1000, ti_1023, ti_1024, ti_2000, ti_10000, ti_12602, ti_999999, ti_m999999, ti_m1, ti_2000000, ti_3000000, xN_1, xN_4, xN_5, xN_60, xN_61, xN_64, xN_200, xN_800, xN_12000, xN_12602, eq_self, and_self, and_true, true_and, if_true, if_false, decide_true, Nat.reduceLeDiff, xc2_int, xc2_ref, xc2_ra, xc2_null, xc2_long, xc2_none, xisaT_ref, xisaT_ra, xisaT_null, xc1T_int, xc1T_ref, xc1T_ra, xc1T_null, xsum_nil, xsum_int, xsum_ref, xsum_ra, xsum_long, xsum_double, xsum_null, xfl_nil, xfl_int, xfl_ref, xfl_ra, xfl_null, xfl_long, xfl_double, List.length_cons, List.length_nil, xfk, xfv, xak, xan, xcls, xsv', List.getElem?_cons_zero, List.getElem?_cons_succ, List.getD_cons_zero, List.getD_cons_succ, Option.getD_some, Option.isSome_some, if_true, if_pos, xcont, Option.toList_none, Option.toList_some, List.nil_append, List.cons_append]
    exact ih (c + 1) (by omega) (by omega)
theorem c_takeAll {b o : Nat} (hS : StS S b) (hO : StS S o) (hbo : o + 5 < b ∨ b + 5 < o) (hn : ∀ j, 0 ≤ j → j < 200 → 0 ≤ g (o + 4) j ∧ g (o + 4) j ≤ 60) :
    Cw X (d + 3) 149 [.ref b, .ref o] (hp S g) Q = Q (.inl none) (hp S (gs (gs (gA g b o 200) b 5 (g o 5)) b 6 (g o 6))) := by
  rw [e149]
  simp (config := { decide := true }) only [w_iconst (pc' := 1) q149 d149_0 rfl, w_istore_n2 (pc' := 2) q149 d149_1 rfl, gs_off, gs_off0, gs_0off, gs_2, xN_0, xN_2, xN_3, xN_6, xN_7, xN_8, xN_9, xN_10, xN_11, xN_12, xN_13, xN_14, xN_15, xN_16, xN_17, xN_18, xN_19, xN_20, xN_21, xN_22, xN_23, xN_24, xN_25, xN_26, xN_27, xN_28, xN_29, xN_30, xN_31, xN_32, xN_33, xN_34, xN_35, xN_36, xN_37, xN_38, xN_39, xN_40, xN_41, xN_42, xN_43, xN_44, xN_45, xN_46, xN_47, xN_48, xN_49, xN_50, xN_51, xN_52, xN_53, xN_54, xN_55, ti_0, ti_1, ti_2, ti_3, ti_4, ti_5, ti_6, ti_7, ti_8, ti_9, ti_10, ti_16, ti_19, ti_20, ti_29, ti_30, ti_31, ti_32, ti_35, ti_36, ti_38, ti_39, ti_40, ti_41, ti_42, ti_43, ti_44, ti_45, ti_46, ti_47, ti_48, ti_49, ti_50, ti_51, ti_52, ti_53, ti_54, ti_55, ti_56, ti_57, ti_58, ti_59, ti_60, ti_61, ti_62, ti_63, ti_64, ti_65, ti_74, ti_77, ti_126, ti_200, ti_201, ti_202, ti_203, ti_204, ti_205, ti_210, ti_255, ti_256, ti_400, ti_512, ti_600, ti_601, ti_602, ti_1000, ti_1023, ti_1024, ti_2000, ti_10000, ti_12602, ti_999999, ti_m999999, ti_m1, ti_2000000, ti_3000000, xN_1, xN_4, xN_5, xN_60, xN_61, xN_64, xN_200, xN_800, xN_12000, xN_12602, eq_self, and_self, and_true, true_and, if_true, if_false, decide_true, Nat.reduceLeDiff, xc2_int, xc2_ref, xc2_ra, xc2_null, xc2_long, xc2_none, xisaT_ref, xisaT_ra, xisaT_null, xc1T_int, xc1T_ref, xc1T_ra, xc1T_null, xsum_nil, xsum_int, xsum_ref, xsum_ra, xsum_long, xsum_double, xsum_null, xfl_nil, xfl_int, xfl_ref, xfl_ra, xfl_null, xfl_long, xfl_double, List.length_cons, List.length_nil, xfk, xfv, xak, xan, xcls, xsv', List.getElem?_cons_zero, List.getElem?_cons_succ, List.getD_cons_zero, List.getD_cons_succ, Option.getD_some, Option.isSome_some, if_true, if_pos, xcont, Option.toList_none, Option.toList_some, List.nil_append, List.cons_append]
  have := l_takeAll (X := X) (d := d) (Q := Q) hS hO hbo hn 200 0 (by omega) (by omega)
  rw [gA_0] at this
  exact this
end
