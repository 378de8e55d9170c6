/-! The class: the text of a formula -/
section
variable {X : xX} {S S' S1 S2 : xLm} {g g' g1 g2 G : xGm} {d c p k t o y b m : Nat} {w : xH} {Q : xO → xH → Prop} {L : List Int} {cap cap' cap2 : Nat} {P : Pd} {A : Sh} {sn : Option Sh} {H : List Sh}
theorem c_ensure0 {n : Int} (hI : SbI S g b m L cap) (hn : 0 ≤ n) (h : n ≤ cap) : ∀ Q, Cw X (d + 3) 394 [.ref b, .int (iI n)] (hp S g) Q = Q (.inl none) (hp S g) := fun Q => by
  obtain ⟨a, s0, s1, hab, hal, hc, n1, n3, hr, hT, hl⟩ := hI
  have tc : ti ((cap : Nat) : Int) = (cap : Nat) := ti_eq (by omega) (by omega)
  have t1 : ti (n - (cap : Nat)) = n - (cap : Nat) := ti_eq (by omega) (by omega)
  have h1 : n - ((cap : Nat) : Int) ≤ 0 := by omega
  rw [e394]
  simp (config := { decide := true }) only [w_aload_n0 (pc' := 1) q394 d394_0 rfl, w_getV (pc' := 4) q394 d394_1 rfl f394_15, w_alen (k := 0) (pc' := 5) q394 d394_4 rfl, w_alenS (pc' := 5) q394 d394_4 rfl, w_alenB (pc' := 5) q394 d394_4 rfl, w_aload_n0 (pc' := 6) q394 d394_5 rfl, w_getI (pc' := 9) q394 d394_6 rfl f394_22, w_ishr (pc' := 10) q394 d394_9 rfl, w_istore_n2 (pc' := 11) q394 d394_10 rfl, w_iload_n1 (pc' := 12) q394 d394_11 rfl, w_iload_n2 (pc' := 13) q394 d394_12 rfl, w_isub (pc' := 14) q394 d394_13 rfl, w_if_le (tg := 38) (pc' := 17) q394 d394_14 (by decide) rfl, w_return q394 d394_38 m394.2.1, gs_off, gs_off0, gs_0off, gs_2, xN_0, xN_2, xN_3, xN_6, xN_7, xN_8, xN_9, xN_10, xN_11, xN_12, xN_13, xN_14, xN_15, xN_16, xN_17, xN_18, xN_19, xN_20, xN_21, xN_22, xN_23, xN_24, xN_25, xN_26, xN_27, xN_28, xN_29, xN_30, xN_31, xN_32, xN_33, xN_34, xN_35, xN_36, xN_37, xN_38, xN_39, xN_40, xN_41, xN_42, xN_43, xN_44, xN_45, xN_46, xN_47, xN_48, xN_49, xN_50, xN_51, xN_52, xN_53, xN_54, xN_55, ti_0, ti_1, ti_2, ti_3, ti_4, ti_5, ti_6, ti_7, ti_8, ti_9, ti_10, ti_16, ti_19, ti_20, ti_29, ti_30, ti_31, ti_32, ti_35, ti_36, ti_38, ti_39, ti_40, ti_41, ti_42, ti_43, ti_44, ti_45, ti_46, ti_47, ti_48, ti_49, ti_50, ti_51, ti_52, ti_53, ti_54, ti_55, ti_56, ti_57, ti_58, ti_59, ti_60, ti_61, ti_62, ti_63, ti_64, ti_65, ti_74, ti_77, ti_126, ti_200, ti_201, ti_202, ti_203, ti_204, ti_205, ti_210, ti_255, ti_256, ti_400, ti_512, ti_600, ti_601, ti_602, ti_1000, ti_1023, ti_1024, ti_2000, ti_10000, ti_12602, ti_999999, ti_m999999, ti_m1, ti_2000000, ti_3000000, xN_1, xN_4, xN_5, xN_60, xN_61, xN_64, xN_200, xN_800, xN_12000, xN_12602, eq_self, and_self, and_true, true_and, if_true, if_false, decide_true, Nat.reduceLeDiff, xc2_int, xc2_ref, xc2_ra, xc2_null, xc2_long, xc2_none, xisaT_ref, xisaT_ra, xisaT_null, xc1T_int, xc1T_ref, xc1T_ra, xc1T_null, xsum_nil, xsum_int, xsum_ref, xsum_ra, xsum_long, xsum_double, xsum_null, xfl_nil, xfl_int, xfl_ref, xfl_ra, xfl_null, xfl_long, xfl_double, List.length_cons, List.length_nil, s0, s1, n1, xshr_0, tc, t1, h1, xfk, xfv, xak, xan, xcls, xsv', List.getElem?_cons_zero, List.getElem?_cons_succ, List.getD_cons_zero, List.getD_cons_succ, Option.getD_some, Option.isSome_some, if_true, if_pos, xcont, Option.toList_none, Option.toList_some, List.nil_append, List.cons_append]
/-- the builder is emptied -/
theorem c_setLen (hI : SbI S g b m L cap) : ∃ g', (∀ h, ¬ h = b → g' h = g h) ∧ SbI S g' b m [] cap ∧ ∀ Q, Cw X (d + 5) 386 [.ref b, .int (iI 0)] (hp S g) Q = Q (.inl none) (hp S g') := by
  have k1 := c_ensure0 (X := X) (d := d) (n := 0) hI (by decide) (by omega)
  obtain ⟨a, s0, s1, hab, hal, hc, e1, e3, hr, hT, hl⟩ := hI
  have ra : a = b → b + 1 < m → False := fun e h => by rcases hab with h | h <;> omega
  have tl : ti ((L.length : Nat) : Int) = (L.length : Nat) := ti_eq (by omega) (by omega)
  have l0 : ¬ ((L.length : Nat) : Int) < 0 := by omega
  have l0' : (0 : Int) ≤ (L.length : Nat) := by omega
  obtain ⟨G, eG⟩ : ∃ G, G = if ((L.length : Nat) : Int) ≤ 0 then gs g b 3 0 else gs (gs g b 2 1) b 3 0 := ⟨_, rfl⟩
  have hG : ∀ h, ¬ h = b → G h = g h := fun h hh => by
    rw [eG]; split
    · rw [gs_row _ _ _ hh]
    · rw [gs_row _ _ _ hh, gs_row _ _ _ hh]
  have hG1 : G b 1 = 0 := by
    rw [eG]; split
    · rw [gs_at, if_neg (by decide)]; exact e1
    · rw [gs_at, if_neg (by decide), gs_at, if_neg (by decide)]; exact e1
  have hG3 : G b 3 = 0 := by
    rw [eG]; split
    · rw [gs_at, if_pos rfl]
    · rw [gs_at, if_pos rfl]
  have k393 : ∀ Q, Cw X (d + 4) 393 [.ref b, .int (iI 0)] (hp S g) Q = Q (.inl none) (hp S G) := fun Q => by
    rw [e393, eG]
    by_cases h : ((L.length : Nat) : Int) ≤ 0
    · rw [if_pos h]
      simp (config := { decide := true }) only [w_iload_n1 (pc' := 1) q393 d393_0 rfl, w_if_ge (tg := 13) (pc' := 4) q393 d393_1 (by decide) rfl, w_aload_n0 (pc' := 14) q393 d393_13 rfl, w_iload_n1 (pc' := 15) q393 d393_14 rfl, w_invv1 (ci := 1) (pc' := 18) q393 d393_15 rfl n393_100 k393_100_1 m394.1, w_aload_n0 (pc' := 19) q393 d393_18 rfl, w_getI (pc' := 22) q393 d393_19 rfl f393_79, w_iload_n1 (pc' := 23) q393 d393_22 rfl, w_icmp_ge (tg := 63) (pc' := 26) q393 d393_23 (by decide) rfl, w_aload_n0 (pc' := 64) q393 d393_63 rfl, w_getI (pc' := 67) q393 d393_64 rfl f393_79, w_iload_n1 (pc' := 68) q393 d393_67 rfl, w_icmp_le (tg := 76) (pc' := 71) q393 d393_68 (by decide) rfl, w_aload_n0 (pc' := 72) q393 d393_71 rfl, w_iconst (pc' := 73) q393 d393_72 rfl, w_putZ (pc' := 76) q393 d393_73 rfl f393_73 rfl (by decide +kernel), w_aload_n0 (pc' := 77) q393 d393_76 rfl, w_iload_n1 (pc' := 78) q393 d393_77 rfl, w_putI (pc' := 81) q393 d393_78 rfl f393_79 rfl (by decide +kernel), w_return q393 d393_81 m393.2.1, gs_off, gs_off0, gs_0off, gs_2, xN_0, xN_2, xN_3, xN_6, xN_7, xN_8, xN_9, xN_10, xN_11, xN_12, xN_13, xN_14, xN_15, xN_16, xN_17, xN_18, xN_19, xN_20, xN_21, xN_22, xN_23, xN_24, xN_25, xN_26, xN_27, xN_28, xN_29, xN_30, xN_31, xN_32, xN_33, xN_34, xN_35, xN_36, xN_37, xN_38, xN_39, xN_40, xN_41, xN_42, xN_43, xN_44, xN_45, xN_46, xN_47, xN_48, xN_49, xN_50, xN_51, xN_52, xN_53, xN_54, xN_55, ti_0, ti_1, ti_2, ti_3, ti_4, ti_5, ti_6, ti_7, ti_8, ti_9, ti_10, ti_16, ti_19, ti_20, ti_29, ti_30, ti_31, ti_32, ti_35, ti_36, ti_38, ti_39, ti_40, ti_41, ti_42, ti_43, ti_44, ti_45, ti_46, ti_47, ti_48, ti_49, ti_50, ti_51, ti_52, ti_53, ti_54, ti_55, ti_56, ti_57, ti_58, ti_59, ti_60, ti_61, ti_62, ti_63, ti_64, ti_65, ti_74, ti_77, ti_126, ti_200, ti_201, ti_202, ti_203, ti_204, ti_205, ti_210, ti_255, ti_256, ti_400, ti_512, ti_600, ti_601, ti_602, ti_1000, ti_1023, ti_1024, ti_2000, ti_10000, ti_12602, ti_999999, ti_m999999, ti_m1, ti_2000000, ti_3000000, xN_1, xN_4, xN_5, xN_60, xN_61, xN_64, xN_200, xN_800, xN_12000, xN_12602, eq_self, and_self, and_true, true_and, if_true, if_false, decide_true, Nat.reduceLeDiff, xc2_int, xc2_ref, xc2_ra, xc2_null, xc2_long, xc2_none, xisaT_ref, xisaT_ra, xisaT_null, xc1T_int, xc1T_ref, xc1T_ra, xc1T_null, xsum_nil, xsum_int, xsum_ref, xsum_ra, xsum_long, xsum_double, xsum_null, xfl_nil, xfl_int, xfl_ref, xfl_ra, xfl_null, xfl_long, xfl_double, List.length_cons, List.length_nil, s0, ti_0, Int.le_refl, k1, e3, tl, l0, l0', h, xfk, xfv, xak, xan, xcls, xsv', List.getElem?_cons_zero, List.getElem?_cons_succ, List.getD_cons_zero, List.getD_cons_succ, Option.getD_some, Option.isSome_some, if_true, if_pos, xcont, Option.toList_none, Option.toList_some, List.nil_append, List.cons_append]
    · rw [if_neg h]
      simp (config := { decide := true }) only [w_iload_n1 (pc' := 1) q393 d393_0 rfl, w_if_ge (tg := 13) (pc' := 4) q393 d393_1 (by decide) rfl, w_aload_n0 (pc' := 14) q393 d393_13 rfl, w_iload_n1 (pc' := 15) q393 d393_14 rfl, w_invv1 (ci := 1) (pc' := 18) q393 d393_15 rfl n393_100 k393_100_1 m394.1, w_aload_n0 (pc' := 19) q393 d393_18 rfl, w_getI (pc' := 22) q393 d393_19 rfl f393_79, w_iload_n1 (pc' := 23) q393 d393_22 rfl, w_icmp_ge (tg := 63) (pc' := 26) q393 d393_23 (by decide) rfl, w_aload_n0 (pc' := 64) q393 d393_63 rfl, w_getI (pc' := 67) q393 d393_64 rfl f393_79, w_iload_n1 (pc' := 68) q393 d393_67 rfl, w_icmp_le (tg := 76) (pc' := 71) q393 d393_68 (by decide) rfl, w_aload_n0 (pc' := 72) q393 d393_71 rfl, w_iconst (pc' := 73) q393 d393_72 rfl, w_putZ (pc' := 76) q393 d393_73 rfl f393_73 rfl (by decide +kernel), w_aload_n0 (pc' := 77) q393 d393_76 rfl, w_iload_n1 (pc' := 78) q393 d393_77 rfl, w_putI (pc' := 81) q393 d393_78 rfl f393_79 rfl (by decide +kernel), w_return q393 d393_81 m393.2.1, gs_off, gs_off0, gs_0off, gs_2, xN_0, xN_2, xN_3, xN_6, xN_7, xN_8, xN_9, xN_10, xN_11, xN_12, xN_13, xN_14, xN_15, xN_16, xN_17, xN_18, xN_19, xN_20, xN_21, xN_22, xN_23, xN_24, xN_25, xN_26, xN_27, xN_28, xN_29, xN_30, xN_31, xN_32, xN_33, xN_34, xN_35, xN_36, xN_37, xN_38, xN_39, xN_40, xN_41, xN_42, xN_43, xN_44, xN_45, xN_46, xN_47, xN_48, xN_49, xN_50, xN_51, xN_52, xN_53, xN_54, xN_55, ti_0, ti_1, ti_2, ti_3, ti_4, ti_5, ti_6, ti_7, ti_8, ti_9, ti_10, ti_16, ti_19, ti_20, ti_29, ti_30, ti_31, ti_32, ti_35, ti_36, ti_38, ti_39, ti_40, ti_41, ti_42, ti_43, ti_44, ti_45, ti_46, ti_47, ti_48, ti_49, ti_50, ti_51, ti_52, ti_53, ti_54, ti_55, ti_56, ti_57, ti_58, ti_59, ti_60, ti_61, ti_62, ti_63, ti_64, ti_65, ti_74, ti_77, ti_126, ti_200, ti_201, ti_202, ti_203, ti_204, ti_205, ti_210, ti_255, ti_256, ti_400, ti_512, ti_600, ti_601, ti_602, ti_1000, ti_1023, ti_1024, ti_2000, ti_10000, ti_12602, ti_999999, ti_m999999, ti_m1, ti_2000000, ti_3000000, xN_1, xN_4, xN_5, xN_60, xN_61, xN_64, xN_200, xN_800, xN_12000, xN_12602, eq_self, and_self, and_true, true_and, if_true, if_false, decide_true, Nat.reduceLeDiff, xc2_int, xc2_ref, xc2_ra, xc2_null, xc2_long, xc2_none, xisaT_ref, xisaT_ra, xisaT_null, xc1T_int, xc1T_ref, xc1T_ra, xc1T_null, xsum_nil, xsum_int, xsum_ref, xsum_ra, xsum_long, xsum_double, xsum_null, xfl_nil, xfl_int, xfl_ref, xfl_ra, xfl_null, xfl_long, xfl_double, List.length_cons, List.length_nil, s0, ti_0, ti_1, Int.le_refl, k1, e3, tl, l0, l0', h, or_true, xfk, xfv, xak, xan, xcls, xsv', List.getElem?_cons_zero, List.getElem?_cons_succ, List.getD_cons_zero, List.getD_cons_succ, Option.getD_some, Option.isSome_some, if_true, if_pos, xcont, Option.toList_none, Option.toList_some, List.nil_append, List.cons_append]
  have ne : ¬ a = b := by
    intro e
    subst e
    rw [s0] at s1
    cases s1
  refine ⟨G, hG, ⟨a, s0, s1, hab, hal, hc, hG1, hG3, ?_, trivial, by show ((0 : Nat) : Int) ≤ _; omega⟩, fun Q => ?_⟩
  · unfold rg
    rw [hG a ne]
    exact hr
  · rw [e386]
    simp (config := { decide := true }) only [w_aload_n0 (pc' := 1) q386 d386_0 rfl, w_iload_n1 (pc' := 2) q386 d386_1 rfl, w_invp1 (pc' := 5) q386 d386_2 rfl (by decide +kernel) k386_333_98 m393.1, w_return q386 d386_5 m386.2.1, gs_off, gs_off0, gs_0off, gs_2, xN_0, xN_2, xN_3, xN_6, xN_7, xN_8, xN_9, xN_10, xN_11, xN_12, xN_13, xN_14, xN_15, xN_16, xN_17, xN_18, xN_19, xN_20, xN_21, xN_22, xN_23, xN_24, xN_25, xN_26, xN_27, xN_28, xN_29, xN_30, xN_31, xN_32, xN_33, xN_34, xN_35, xN_36, xN_37, xN_38, xN_39, xN_40, xN_41, xN_42, xN_43, xN_44, xN_45, xN_46, xN_47, xN_48, xN_49, xN_50, xN_51, xN_52, xN_53, xN_54, xN_55, ti_0, ti_1, ti_2, ti_3, ti_4, ti_5, ti_6, ti_7, ti_8, ti_9, ti_10, ti_16, ti_19, ti_20, ti_29, ti_30, ti_31, ti_32, ti_35, ti_36, ti_38, ti_39, ti_40, ti_41, ti_42, ti_43, ti_44, ti_45, ti_46, ti_47, ti_48, ti_49, ti_50, ti_51, ti_52, ti_53, ti_54, ti_55, ti_56, ti_57, ti_58, ti_59, ti_60, ti_61, ti_62, ti_63, ti_64, ti_65, ti_74, ti_77, ti_126, ti_200, ti_201, ti_202, ti_203, ti_204, ti_205, ti_210, ti_255, ti_256, ti_400, ti_512, ti_600, ti_601, ti_602, ti_1000, ti_1023, ti_1024, ti_2000, ti_10000, ti_12602, ti_999999, ti_m999999, ti_m1, ti_2000000, ti_3000000, xN_1, xN_4, xN_5, xN_60, xN_61, xN_64, xN_200, xN_800, xN_12000, xN_12602, eq_self, and_self, and_true, true_and, if_true, if_false, decide_true, Nat.reduceLeDiff, xc2_int, xc2_ref, xc2_ra, xc2_null, xc2_long, xc2_none, xisaT_ref, xisaT_ra, xisaT_null, xc1T_int, xc1T_ref, xc1T_ra, xc1T_null, xsum_nil, xsum_int, xsum_ref, xsum_ra, xsum_long, xsum_double, xsum_null, xfl_nil, xfl_int, xfl_ref, xfl_ra, xfl_null, xfl_long, xfl_double, List.length_cons, List.length_nil, s0, k393, xfk, xfv, xak, xan, xcls, xsv', List.getElem?_cons_zero, List.getElem?_cons_succ, List.getD_cons_zero, List.getD_cons_succ, Option.getD_some, Option.isSome_some, if_true, if_pos, xcont, Option.toList_none, Option.toList_some, List.nil_append, List.cons_append]
theorem TxI_Sb (h : TxC S g b m cap) : ∃ L, SbI S g b m L cap := by
  obtain ⟨a, t1, t2, t3, t4, t5, t6, t7, t8, t9⟩ := h
  have hT := TL_rng (r := g a) (g b 3).toNat 0
  have e : (fun i : Nat => g a (0 + (i : Int))) = fun i : Nat => g a i := by funext i; rw [Int.zero_add]
  rw [e] at hT
  exact ⟨_, a, t1, t2, t3, t4, t5, t6, by rw [List.length_map, List.length_range]; omega, t9, hT, by rw [List.length_map, List.length_range]; omega⟩
theorem Sb_TxI (h : SbI S g b m L cap) : TxC S g b m cap := by
  obtain ⟨a, t1, t2, t3, t4, t5, t6, t7, t9, -, t8⟩ := h
  exact ⟨a, t1, t2, t3, t4, t5, t6, by omega, by omega, t9⟩
/-- the text of a cell -/
noncomputable def ceT (A : Sh) (z : Int) : List Int := if A.1 z = 2 then 61 :: fmT (mks (A.2.2.1 z)) else []
theorem ceT_len {z : Int} : ((ceT A z).length : Int) = qLen A z := by
  unfold ceT qLen
  split
  · rw [List.length_cons]; omega
  · rfl
theorem ceT_chr {z q : Int} (hq : 0 ≤ q) : atL (ceT A z) q = qChr A z q := by
  unfold ceT qChr
  split
  · rfl
  · exact atL_out (by show ((0 : Nat) : Int) ≤ q; omega)
theorem Tr_chr {Ls : List Int} (hL : ∀ x ∈ Ls, okG x ∧ (x % 8 = 5 → x / 8 ≤ 127)) : ∀ x ∈ fmT (mks Ls), 0 ≤ x ∧ x ≤ 127 := by
  induction Ls with
  | nil => intro x hx; cases hx
  | cons t Ls ih =>
    rw [mks_cons, fmT_app]
    intro x hx
    rcases List.mem_append.mp hx with hx | hx
    · obtain ⟨hg, h5⟩ := hL t List.mem_cons_self
      have hdec : ∀ v : Int, 0 ≤ v → v ≤ 999999 → ∀ x ∈ dec v, 0 ≤ x ∧ x ≤ 127 := fun v v0 v1 x hx => by
        rw [dec_eq ⟨v0, v1⟩, List.mem_reverse] at hx
        have := digF_rng 2 v v0 (by show v < 1000000; omega) x hx
        omega
      have hsp : ∀ s : Int, okS s → ∀ x ∈ spT s, 0 ≤ x ∧ x ≤ 127 := fun s hs x hx => by
        unfold okS at hs
        unfold spT at hx
        simp only [List.mem_append, List.mem_singleton] at hx
        rcases hx with hx | hx | hx | hx
        · split at hx
          · rw [List.mem_singleton] at hx; omega
          · cases hx
        · omega
        · split at hx
          · rw [List.mem_singleton] at hx; omega
          · cases hx
        · exact hdec _ (by omega) (by omega) x hx
      rcases hg with ⟨e, h1, h2⟩ | ⟨e, h1⟩ | e | ⟨e, h1, h2⟩ | ⟨e, h1, h2, h3⟩ | ⟨e, h1, h2⟩
      · unfold mk1 at hx
        rw [if_pos e, fmT_1] at hx
        unfold txM at hx
        rw [if_neg (by omega), if_neg (by omega), if_pos (by omega)] at hx
        exact hdec _ (by omega) (by omega) x hx
      · unfold mk1 at hx
        rw [if_neg (by omega), if_pos e, fmT_1, txM_spm h1] at hx
        exact hsp _ h1 x hx
      · subst e
        have et : ∀ x ∈ fmT (mk1 4), 0 ≤ x ∧ x ≤ 127 := by decide
        exact et x hx
      · unfold mk1 at hx
        rw [if_neg (by omega), if_neg (by omega), if_pos e, fmT_cons, fmT_cons, fmT_1, txM_spm h1, txM_spm h2] at hx
        simp only [List.mem_append] at hx
        rcases hx with hx | hx | hx
        · exact hsp _ h1 x hx
        · have e58 : ∀ x ∈ txM 58, 0 ≤ x ∧ x ≤ 127 := by decide
          exact e58 x hx
        · exact hsp _ h2 x hx
      · have := h5 e
        unfold mk1 at hx
        rw [if_neg (by omega), if_neg (by omega), if_neg (by omega), if_neg (by omega), if_pos e, fmT_1] at hx
        unfold txM at hx
        rw [if_pos h2, List.mem_singleton] at hx
        omega
      · obtain ⟨k, ek⟩ : ∃ k : Nat, t / 8 = k := ⟨(t / 8).toNat, by omega⟩
        have hk : k < 6 := by omega
        have et : fmT (mk1 t) = wdL k := by
          unfold mk1
          rw [if_neg (by omega), if_neg (by omega), if_neg (by omega), if_neg (by omega), if_neg (by omega), ek]
          have hk6 : k = 0 ∨ k = 1 ∨ k = 2 ∨ k = 3 ∨ k = 4 ∨ k = 5 := by omega
          rcases hk6 with rfl | rfl | rfl | rfl | rfl | rfl <;> decide
        rw [et] at hx
        exact (wd_rng hk).1 x hx
    · exact ih (fun y hy => hL y (List.mem_cons_of_mem _ hy)) x hx
theorem ceT_rng {z : Int} (hA : ShOK A) (hz : 0 ≤ z ∧ z < 200) : (∀ x ∈ ceT A z, 0 ≤ x ∧ x ≤ 127) ∧ (ceT A z).length ≤ 601 := by
  unfold ceT
  by_cases e : A.1 z = 2
  · rw [if_pos e]
    obtain ⟨⟨v, r, n, hT⟩, hl⟩ := (hA z hz.1 hz.2).2.1 e
    have hok : ∀ x ∈ A.2.2.1 z, okG x ∧ (x % 8 = 5 → x / 8 ≤ 127) := fun x hx => ⟨Tr_okG _ _ _ _ _ hT x hx, Tr_sg _ _ _ _ _ hT x hx⟩
    refine ⟨fun x hx => ?_, ?_⟩
    · rcases List.mem_cons.mp hx with e | e
      · omega
      · exact Tr_chr hok x e
    · have := fmT_len _ (mks_okT _ (fun x hx => (hok x hx).1))
      rw [List.length_cons]
      omega
  · rw [if_neg e]
    exact ⟨fun x hx => absurd hx List.not_mem_nil, Nat.zero_le _⟩
/-- a formula is written -/
theorem c_write {z : Int} (hS : CsS S c p k t o y b m) (hm : m ≤ S.2.1) (hM : StA g (k + 1) A) (hA : ShOK A) (hst : StI g (k + 1)) (hI : SbI S g b m [] cap) (hz : 0 ≤ z ∧ z < 200) :
    SbP S g b m cap (ceT A z) (fun S' g' => ∀ Q, Cw X (d + 8) 166 [.ref (k + 1), .int (iI z), .ref b] (hp S g) Q = Q (.inl none) (hp S' g')) := by
  have hS' := hS
  obtain ⟨c0, ⟨hp0, hk0, ht0, ho0, hy0⟩, hL⟩ := hS
  obtain ⟨k0, kS, kL⟩ := id hk0
  obtain ⟨s0, s1, s2, s3, s4, s5⟩ := id kS
  obtain ⟨a1, a2, a3, a4⟩ := hM.1 z hz.1 hz.2
  have tz : ti z = z := ti_eq (by omega) (by omega)
  obtain ⟨z1, z2⟩ := id hz
  have hk := hst.1 z
  rw [a1] at hk
  have tk : ti (A.1 z) = A.1 z := ti_eq (by omega) (by omega)
  unfold ceT
  by_cases e : A.1 z = 2
  · rw [if_pos e]
    obtain ⟨⟨v, r, n, hT⟩, hl⟩ := (hA z hz.1 hz.2).2.1 e
    have hok : ∀ x ∈ A.2.2.1 z, okG x ∧ (x % 8 = 5 → x / 8 ≤ 127) := fun x hx => ⟨Tr_okG _ _ _ _ _ hT x hx, Tr_sg _ _ _ _ _ hT x hx⟩
    have hc := hst.2.2.2.1 z
    have htl := tkl_len g (k + 1) z
    have hTL := tkl_TL (g := g) (a := k + 1) (x := z)
    rw [a3 e] at htl hTL
    obtain ⟨bb, sb⟩ := SbI_s hI
    rw [show 61 :: fmT (mks (A.2.2.1 z)) = ([] ++ [61]) ++ fmT (mks (A.2.2.1 z)) from rfl]
    refine SbP_bind (Sb_one (X := X) (d := d + 2) (P2 := fun S' g' => ∀ Q, Cw X (d + 7) 382 [.ref b, .int (iI 61)] (hp S g) Q = Q (.inl (some (.ref b))) (hp S' g')) hm (by omega) hI (by decide) (by decide) (fun S' g' k => k)) (fun S1 g1 cap1 X1 m1 I1 k1 => ?_)
    obtain ⟨y1, y2, y3, y4, y5⟩ := X1
    have r4 : g1 (k + 1 + 4) = g (k + 1 + 4) := y3 _ (by omega) (by omega) (by omega)
    have r5 : g1 (k + 1 + 5) = g (k + 1 + 5) := y3 _ (by omega) (by omega) (by omega)
    obtain ⟨S2, g2, cap2, v1, v2, v3, v4⟩ := l_write (X := X) (d := d) (a := k + 1) (z := z) (n := g (k + 1 + 4) z) (by omega) (by omega) hz hc.2 (A.2.2.1 z) 0 S1 g1 ([] ++ [61]) cap1 (StS_congr (fun i hi => y1 _ (by omega) (by omega)) kS) m1 I1 (by rw [r4]) (by rw [r5]; exact hTL) (by omega) (Int.le_refl _) hok (by show (1 : Int) + _ ≤ _; omega)
    refine ⟨S2, g2, cap2, v1, v2, v3, fun Q => ?_⟩
    rw [e166]
    simp (config := { decide := true }) only [w_aload_n0 (pc' := 1) q166 d166_0 rfl, w_getV (pc' := 4) q166 d166_1 rfl f166_9, w_iload_n1 (pc' := 5) q166 d166_4 rfl, w_iaload (pc' := 6) q166 d166_5 rfl, w_iconst (pc' := 7) q166 d166_6 rfl, w_icmp_eq (tg := 11) (pc' := 10) q166 d166_7 (by decide) rfl, w_return q166 d166_10 m166.2.1, w_aload_n2 (pc' := 12) q166 d166_11 rfl, w_bipush (z' := (61)) (pc' := 14) q166 d166_12 rfl (by decide), w_invv1 (ci := 1) (pc' := 17) q166 d166_14 rfl n166_81 k166_81_1 m382.1, w_pop (pc' := 18) q166 d166_17 rfl, w_iload_n1 (pc' := 19) q166 d166_18 rfl, w_bipush (z' := (60)) (pc' := 21) q166 d166_19 rfl (by decide), w_imul (pc' := 22) q166 d166_21 rfl, w_istore_n3 (pc' := 23) q166 d166_22 rfl, w_iconst (pc' := 24) q166 d166_23 rfl, w_istore4 (pc' := 26) q166 d166_24 rfl, gs_off, gs_off0, gs_0off, gs_2, xN_0, xN_2, xN_3, xN_6, xN_7, xN_8, xN_9, xN_10, xN_11, xN_12, xN_13, xN_14, xN_15, xN_16, xN_17, xN_18, xN_19, xN_20, xN_21, xN_22, xN_23, xN_24, xN_25, xN_26, xN_27, xN_28, xN_29, xN_30, xN_31, xN_32, xN_33, xN_34, xN_35, xN_36, xN_37, xN_38, xN_39, xN_40, xN_41, xN_42, xN_43, xN_44, xN_45, xN_46, xN_47, xN_48, xN_49, xN_50, xN_51, xN_52, xN_53, xN_54, xN_55, ti_0, ti_1, ti_2, ti_3, ti_4, ti_5, ti_6, ti_7, ti_8, ti_9, ti_10, ti_16, ti_19, ti_20, ti_29, ti_30, ti_31, ti_32, ti_35, ti_36, ti_38, ti_39, ti_40, ti_41, ti_42, ti_43, ti_44, ti_45, ti_46, ti_47, ti_48, ti_49, ti_50, ti_51, ti_52, ti_53, ti_54, ti_55, ti_56, ti_57, ti_58, ti_59, ti_60, ti_61, ti_62, ti_63, ti_64, ti_65, ti_74, ti_77, ti_126, ti_200, ti_201, ti_202, ti_203, ti_204, ti_205, ti_210, ti_255, ti_256, ti_400, ti_512, ti_600, ti_601, ti_602, ti_1000, ti_1023, ti_1024, ti_2000, ti_10000, ti_12602, ti_999999, ti_m999999, ti_m1, ti_2000000, ti_3000000, xN_1, xN_4, xN_5, xN_60, xN_61, xN_64, xN_200, xN_800, xN_12000, xN_12602, eq_self, and_self, and_true, true_and, if_true, if_false, decide_true, Nat.reduceLeDiff, xc2_int, xc2_ref, xc2_ra, xc2_null, xc2_long, xc2_none, xisaT_ref, xisaT_ra, xisaT_null, xc1T_int, xc1T_ref, xc1T_ra, xc1T_null, xsum_nil, xsum_int, xsum_ref, xsum_ra, xsum_long, xsum_double, xsum_null, xfl_nil, xfl_int, xfl_ref, xfl_ra, xfl_null, xfl_long, xfl_double, List.length_cons, List.length_nil, s0, s1, tz, z1, z2, a1, e, sb, k1, xfk, xfv, xak, xan, xcls, xsv', List.getElem?_cons_zero, List.getElem?_cons_succ, List.getD_cons_zero, List.getD_cons_succ, Option.getD_some, Option.isSome_some, if_true, if_pos, xcont, Option.toList_none, Option.toList_some, List.nil_append, List.cons_append]
    rw [v4 Q]
  · rw [if_neg e]
    refine ⟨S, g, cap, SbX_refl, hI, hm, fun Q => ?_⟩
    rw [e166]
    simp (config := { decide := true }) only [w_aload_n0 (pc' := 1) q166 d166_0 rfl, w_getV (pc' := 4) q166 d166_1 rfl f166_9, w_iload_n1 (pc' := 5) q166 d166_4 rfl, w_iaload (pc' := 6) q166 d166_5 rfl, w_iconst (pc' := 7) q166 d166_6 rfl, w_icmp_eq (tg := 11) (pc' := 10) q166 d166_7 (by decide) rfl, w_return q166 d166_10 m166.2.1, gs_off, gs_off0, gs_0off, gs_2, xN_0, xN_2, xN_3, xN_6, xN_7, xN_8, xN_9, xN_10, xN_11, xN_12, xN_13, xN_14, xN_15, xN_16, xN_17, xN_18, xN_19, xN_20, xN_21, xN_22, xN_23, xN_24, xN_25, xN_26, xN_27, xN_28, xN_29, xN_30, xN_31, xN_32, xN_33, xN_34, xN_35, xN_36, xN_37, xN_38, xN_39, xN_40, xN_41, xN_42, xN_43, xN_44, xN_45, xN_46, xN_47, xN_48, xN_49, xN_50, xN_51, xN_52, xN_53, xN_54, xN_55, ti_0, ti_1, ti_2, ti_3, ti_4, ti_5, ti_6, ti_7, ti_8, ti_9, ti_10, ti_16, ti_19, ti_20, ti_29, ti_30, ti_31, ti_32, ti_35, ti_36, ti_38, ti_39, ti_40, ti_41, ti_42, ti_43, ti_44, ti_45, ti_46, ti_47, ti_48, ti_49, ti_50, ti_51, ti_52, ti_53, ti_54, ti_55, ti_56, ti_57, ti_58, ti_59, ti_60, ti_61, ti_62, ti_63, ti_64, ti_65, ti_74, ti_77, ti_126, ti_200, ti_201, ti_202, ti_203, ti_204, ti_205, ti_210, ti_255, ti_256, ti_400, ti_512, ti_600, ti_601, ti_602, ti_1000, ti_1023, ti_1024, ti_2000, ti_10000, ti_12602, ti_999999, ti_m999999, ti_m1, ti_2000000, ti_3000000, xN_1, xN_4, xN_5, xN_60, xN_61, xN_64, xN_200, xN_800, xN_12000, xN_12602, eq_self, and_self, and_true, true_and, if_true, if_false, decide_true, Nat.reduceLeDiff, xc2_int, xc2_ref, xc2_ra, xc2_null, xc2_long, xc2_none, xisaT_ref, xisaT_ra, xisaT_null, xc1T_int, xc1T_ref, xc1T_ra, xc1T_null, xsum_nil, xsum_int, xsum_ref, xsum_ra, xsum_long, xsum_double, xsum_null, xfl_nil, xfl_int, xfl_ref, xfl_ra, xfl_null, xfl_long, xfl_double, List.length_cons, List.length_nil, s0, s1, tz, z1, z2, a1, tk, e, xfk, xfv, xak, xan, xcls, xsv', List.getElem?_cons_zero, List.getElem?_cons_succ, List.getD_cons_zero, List.getD_cons_succ, Option.getD_some, Option.isSome_some, if_true, if_pos, xcont, Option.toList_none, Option.toList_some, List.nil_append, List.cons_append]
theorem c_sbChar {q : Int} (hI : SbI S g b m L cap) (hx : ∀ x ∈ L, 0 ≤ x ∧ x ≤ 127) (hq : 0 ≤ q ∧ q < L.length) : ∀ Q, Cw X (d + 3) 384 [.ref b, .int (iI q)] (hp S g) Q = Q (.inl (some (.int (iI (atL L q))))) (hp S g) := fun Q => by
  obtain ⟨a, s0, s1, hab, hal, hc, e1, e3, hr, hT, hl⟩ := hI
  have er := TL_mk L 0 hT q hq.1 hq.2
  rw [Int.zero_add] at er
  have hv := hx _ (mkat_mem hq.1 hq.2)
  have ea : atL L q = mkat L q := by
    unfold atL mkat
    rw [if_neg (by omega), List.getD_eq_getElem?_getD, List.getElem?_eq_getElem (by omega)]
    rfl
  rw [ea]
  obtain ⟨v, ev⟩ : ∃ v, mkat L q = v := ⟨_, rfl⟩
  rw [ev] at er hv ⊢
  have tq : ti q = q := ti_eq (by omega) (by omega)
  have tl : ti ((L.length : Nat) : Int) = (L.length : Nat) := ti_eq (by omega) (by omega)
  have tc : ti ((cap : Nat) : Int) = (cap : Nat) := ti_eq (by omega) (by omega)
  have hmn : (if ((cap : Nat) : Int) < (L.length : Nat) then ((cap : Nat) : Int) else (L.length : Nat)) = (L.length : Nat) := if_neg (by omega)
  have x1 : xand v 255 = v := by rw [xand_255 hv.1 (by omega)]; omega
  have x2 : xnc v = v := by rw [xnc_pos hv.1 (by omega)]; omega
  obtain ⟨q1, q2⟩ := hq
  have q3 : q < (cap : Nat) := by omega
  have kck := fun w Q => c_strCheck (X := X) (d := d) (w := w) (Q := Q) (i := q) (n := L.length) (show 0 ≤ ti q by omega) (show ti q < ti (L.length : Nat) by omega)
  have k391 : ∀ Q, Cw X (d + 2) 391 [.ref b, .int (iI q)] (hp S g) Q = Q (.inl (some (.int (iI v)))) (hp S g) := fun Q => by
    rw [e391]
    simp (config := { decide := true }) only [w_aload_n0 (pc' := 1) q391 d391_0 rfl, w_getI (pc' := 4) q391 d391_1 rfl f391_22, w_istore_n2 (pc' := 5) q391 d391_4 rfl, w_aload_n0 (pc' := 6) q391 d391_5 rfl, w_getV (pc' := 9) q391 d391_6 rfl f391_15, w_astore_n3 (pc' := 10) q391 d391_9 rfl, w_aload_n0 (pc' := 11) q391 d391_10 rfl, w_getI (pc' := 14) q391 d391_11 rfl f391_79, w_aload_n3 (pc' := 15) q391 d391_14 rfl, w_alen (k := 0) (pc' := 16) q391 d391_15 rfl, w_alenS (pc' := 16) q391 d391_15 rfl, w_alenB (pc' := 16) q391 d391_15 rfl, w_iload_n2 (pc' := 17) q391 d391_16 rfl, w_ishr (pc' := 18) q391 d391_17 rfl, w_invs2 (pc' := 21) q391 d391_18 rfl (by decide +kernel) k391_138_99 m409.1, w_istore4 (pc' := 23) q391 d391_21 rfl, w_iload_n1 (pc' := 24) q391 d391_23 rfl, w_iload4 (pc' := 26) q391 d391_24 rfl, w_invs2 (pc' := 29) q391 d391_26 rfl (by decide +kernel) k391_144_99 m403.1, w_iload_n2 (pc' := 30) q391 d391_29 rfl, w_if_ne (tg := 42) (pc' := 33) q391 d391_30 (by decide) rfl, w_aload_n3 (pc' := 34) q391 d391_33 rfl, w_iload_n1 (pc' := 35) q391 d391_34 rfl, w_zaload (pc' := 36) q391 d391_35 rfl, w_baload (pc' := 36) q391 d391_35 rfl, w_baloadS (pc' := 36) q391 d391_35 rfl, w_sipush (z' := (255)) (pc' := 39) q391 d391_36 rfl (by decide), w_iand (pc' := 40) q391 d391_39 rfl, w_i2c (pc' := 41) q391 d391_40 rfl, w_creturn q391 d391_41 m391.2.1, gs_off, gs_off0, gs_0off, gs_2, xN_0, xN_2, xN_3, xN_6, xN_7, xN_8, xN_9, xN_10, xN_11, xN_12, xN_13, xN_14, xN_15, xN_16, xN_17, xN_18, xN_19, xN_20, xN_21, xN_22, xN_23, xN_24, xN_25, xN_26, xN_27, xN_28, xN_29, xN_30, xN_31, xN_32, xN_33, xN_34, xN_35, xN_36, xN_37, xN_38, xN_39, xN_40, xN_41, xN_42, xN_43, xN_44, xN_45, xN_46, xN_47, xN_48, xN_49, xN_50, xN_51, xN_52, xN_53, xN_54, xN_55, ti_0, ti_1, ti_2, ti_3, ti_4, ti_5, ti_6, ti_7, ti_8, ti_9, ti_10, ti_16, ti_19, ti_20, ti_29, ti_30, ti_31, ti_32, ti_35, ti_36, ti_38, ti_39, ti_40, ti_41, ti_42, ti_43, ti_44, ti_45, ti_46, ti_47, ti_48, ti_49, ti_50, ti_51, ti_52, ti_53, ti_54, ti_55, ti_56, ti_57, ti_58, ti_59, ti_60, ti_61, ti_62, ti_63, ti_64, ti_65, ti_74, ti_77, ti_126, ti_200, ti_201, ti_202, ti_203, ti_204, ti_205, ti_210, ti_255, ti_256, ti_400, ti_512, ti_600, ti_601, ti_602, ti_1000, ti_1023, ti_1024, ti_2000, ti_10000, ti_12602, ti_999999, ti_m999999, ti_m1, ti_2000000, ti_3000000, xN_1, xN_4, xN_5, xN_60, xN_61, xN_64, xN_200, xN_800, xN_12000, xN_12602, eq_self, and_self, and_true, true_and, if_true, if_false, decide_true, Nat.reduceLeDiff, xc2_int, xc2_ref, xc2_ra, xc2_null, xc2_long, xc2_none, xisaT_ref, xisaT_ra, xisaT_null, xc1T_int, xc1T_ref, xc1T_ra, xc1T_null, xsum_nil, xsum_int, xsum_ref, xsum_ra, xsum_long, xsum_double, xsum_null, xfl_nil, xfl_int, xfl_ref, xfl_ra, xfl_null, xfl_long, xfl_double, List.length_cons, List.length_nil, s0, s1, e1, e3, xshr_0, tc, tl, c_min, hmn, kck, tq, q1, q3, er, x1, x2, xcb_eq hv.1 (show v < 65536 by omega), xfk, xfv, xak, xan, xcls, xsv', List.getElem?_cons_zero, List.getElem?_cons_succ, List.getD_cons_zero, List.getD_cons_succ, Option.getD_some, Option.isSome_some, if_true, if_pos, xcont, Option.toList_none, Option.toList_some, List.nil_append, List.cons_append]
  rw [e384]
  simp (config := { decide := true }) only [w_aload_n0 (pc' := 1) q384 d384_0 rfl, w_iload_n1 (pc' := 2) q384 d384_1 rfl, w_invp1 (pc' := 5) q384 d384_2 rfl (by decide +kernel) k384_329_98 m391.1, w_creturn q384 d384_5 m384.2.1, gs_off, gs_off0, gs_0off, gs_2, xN_0, xN_2, xN_3, xN_6, xN_7, xN_8, xN_9, xN_10, xN_11, xN_12, xN_13, xN_14, xN_15, xN_16, xN_17, xN_18, xN_19, xN_20, xN_21, xN_22, xN_23, xN_24, xN_25, xN_26, xN_27, xN_28, xN_29, xN_30, xN_31, xN_32, xN_33, xN_34, xN_35, xN_36, xN_37, xN_38, xN_39, xN_40, xN_41, xN_42, xN_43, xN_44, xN_45, xN_46, xN_47, xN_48, xN_49, xN_50, xN_51, xN_52, xN_53, xN_54, xN_55, ti_0, ti_1, ti_2, ti_3, ti_4, ti_5, ti_6, ti_7, ti_8, ti_9, ti_10, ti_16, ti_19, ti_20, ti_29, ti_30, ti_31, ti_32, ti_35, ti_36, ti_38, ti_39, ti_40, ti_41, ti_42, ti_43, ti_44, ti_45, ti_46, ti_47, ti_48, ti_49, ti_50, ti_51, ti_52, ti_53, ti_54, ti_55, ti_56, ti_57, ti_58, ti_59, ti_60, ti_61, ti_62, ti_63, ti_64, ti_65, ti_74, ti_77, ti_126, ti_200, ti_201, ti_202, ti_203, ti_204, ti_205, ti_210, ti_255, ti_256, ti_400, ti_512, ti_600, ti_601, ti_602, ti_1000, ti_1023, ti_1024, ti_2000, ti_10000, ti_12602, ti_999999, ti_m999999, ti_m1, ti_2000000, ti_3000000, xN_1, xN_4, xN_5, xN_60, xN_61, xN_64, xN_200, xN_800, xN_12000, xN_12602, eq_self, and_self, and_true, true_and, if_true, if_false, decide_true, Nat.reduceLeDiff, xc2_int, xc2_ref, xc2_ra, xc2_null, xc2_long, xc2_none, xisaT_ref, xisaT_ra, xisaT_null, xc1T_int, xc1T_ref, xc1T_ra, xc1T_null, xsum_nil, xsum_int, xsum_ref, xsum_ra, xsum_long, xsum_double, xsum_null, xfl_nil, xfl_int, xfl_ref, xfl_ra, xfl_null, xfl_long, xfl_double, List.length_cons, List.length_nil, s0, k391, xcb_eq hv.1 (show v < 65536 by omega), xfk, xfv, xak, xan, xcls, xsv', List.getElem?_cons_zero, List.getElem?_cons_succ, List.getD_cons_zero, List.getD_cons_succ, Option.getD_some, Option.isSome_some, if_true, if_pos, xcont, Option.toList_none, Option.toList_some, List.nil_append, List.cons_append]
/-- the text of a cell is in the builder -/
theorem c_writeFormula {z : Int} {cap0 : Nat} (hS : CsS S c p k t o y b m) (hm : m ≤ S.2.1) (hI : CdI g c p k t o y P A sn H) (ht : TxC S g b m cap0) (hz : 0 ≤ z ∧ z < 200) :
    ∃ S' g' cap, CsS S' c p k t o y b m ∧ (SEx S S' b 30 4000 ∧ cap0 ≤ cap ∧ S'.2.2.1 + cap0 ≤ S.2.2.1 + cap ∧ S'.2.2.2 + 2 * cap0 ≤ S.2.2.2 + 2 * cap) ∧ (∀ h, ¬ h = b → ¬ h = b + 1 → h < m → g' h = g h) ∧ SbI S' g' b m (ceT A z) cap ∧ CdI g' c p k t o y P A sn H ∧ ∀ Q, Cw X (d + 9) 44 [.ref c, .int (iI z)] (hp S g) Q = Q (.inl none) (hp S' g') := by
  have hS' := hS
  obtain ⟨c0, ⟨hp0, hk0, ht0, ho0, hy0⟩, hL⟩ := hS
  obtain ⟨k0, kS, kL⟩ := id hk0
  have b0 := kS.1
  obtain ⟨L0, i0⟩ := TxI_Sb ht
  obtain ⟨g1, f1, i1, k1⟩ := c_setLen (X := X) (d := d + 3) i0
  obtain ⟨bb, sb⟩ := SbI_s i1
  obtain ⟨hC, hM, hA⟩ := hI.2.1
  obtain ⟨S2, g2, cap2, X2, i2, m2, k2⟩ := c_write (X := X) (d := d) (g := g1) hS' hm (StA_congr (fun j _ => f1 _ (by omega)) hM) hA (StI_congr (fun j _ _ => f1 _ (by omega)) hC.1) i1 hz
  obtain ⟨y1, y2, y3, ⟨e, y4, y6⟩, y5⟩ := X2
  have hcap : 16 ≤ cap0 ∧ cap2 ≤ 1400 := by
    obtain ⟨a, -, -, -, -, h, -⟩ := i1
    obtain ⟨a', -, -, -, -, h', -⟩ := i2
    exact ⟨h.1, h'.2⟩
  have he : e ≤ 6 := by
    refine Classical.byContradiction fun hn => ?_
    have h7 : 2 ^ 7 ≤ 2 ^ e := Nat.pow_le_pow_right (by decide) (by omega)
    have h8 : 16 * 2 ^ 7 ≤ cap0 * 2 ^ e := Nat.mul_le_mul hcap.1 h7
    omega
  have hle : cap0 + e ≤ cap2 := by
    have h9 : cap0 * (e + 1) ≤ cap0 * 2 ^ e := Nat.mul_le_mul (Nat.le_refl _) (Nat.lt_two_pow_self)
    have h10 : cap0 * (e + 1) = cap0 * e + cap0 := by rw [Nat.mul_add, Nat.mul_one]
    have h11 : 1 * e ≤ cap0 * e := Nat.mul_le_mul (by omega) (Nat.le_refl _)
    omega
  have hr : ∀ h, ¬ h = b → ¬ h = b + 1 → h < m → g2 h = g h := fun h h1 h2 h3 => (y3 h h1 h2 h3).trans (f1 h h1)
  refine ⟨S2, g2, cap2, CsS_ext hS' (fun h hh => y1 h (by omega) (by omega)) y2, ⟨⟨y1, y2, by omega, by omega⟩, by omega, by omega, by omega⟩, hr, i2, CdI_high (by omega) (fun h hh => hr h (by omega) (by omega) (by omega)) hI, fun Q => ?_⟩
  rw [e44]
  simp (config := { decide := true }) only [w_aload_n0 (pc' := 1) q44 d44_0 rfl, w_getV (pc' := 4) q44 d44_1 rfl f44_43, w_iconst (pc' := 5) q44 d44_4 rfl, w_invv1 (ci := 1) (pc' := 8) q44 d44_5 rfl n44_299 k44_299_1 m386.1, w_aload_n0 (pc' := 9) q44 d44_8 rfl, w_getV (pc' := 12) q44 d44_9 rfl f44_19, w_getV (pc' := 15) q44 d44_12 rfl f44_80, w_iload_n1 (pc' := 16) q44 d44_15 rfl, w_aload_n0 (pc' := 17) q44 d44_16 rfl, w_getV (pc' := 20) q44 d44_17 rfl f44_43, w_invv2 (ci := 9) (pc' := 23) q44 d44_20 rfl n44_302 k44_302_9 m166.1, w_return q44 d44_23 m44.2.1, gs_off, gs_off0, gs_0off, gs_2, xN_0, xN_2, xN_3, xN_6, xN_7, xN_8, xN_9, xN_10, xN_11, xN_12, xN_13, xN_14, xN_15, xN_16, xN_17, xN_18, xN_19, xN_20, xN_21, xN_22, xN_23, xN_24, xN_25, xN_26, xN_27, xN_28, xN_29, xN_30, xN_31, xN_32, xN_33, xN_34, xN_35, xN_36, xN_37, xN_38, xN_39, xN_40, xN_41, xN_42, xN_43, xN_44, xN_45, xN_46, xN_47, xN_48, xN_49, xN_50, xN_51, xN_52, xN_53, xN_54, xN_55, ti_0, ti_1, ti_2, ti_3, ti_4, ti_5, ti_6, ti_7, ti_8, ti_9, ti_10, ti_16, ti_19, ti_20, ti_29, ti_30, ti_31, ti_32, ti_35, ti_36, ti_38, ti_39, ti_40, ti_41, ti_42, ti_43, ti_44, ti_45, ti_46, ti_47, ti_48, ti_49, ti_50, ti_51, ti_52, ti_53, ti_54, ti_55, ti_56, ti_57, ti_58, ti_59, ti_60, ti_61, ti_62, ti_63, ti_64, ti_65, ti_74, ti_77, ti_126, ti_200, ti_201, ti_202, ti_203, ti_204, ti_205, ti_210, ti_255, ti_256, ti_400, ti_512, ti_600, ti_601, ti_602, ti_1000, ti_1023, ti_1024, ti_2000, ti_10000, ti_12602, ti_999999, ti_m999999, ti_m1, ti_2000000, ti_3000000, xN_1, xN_4, xN_5, xN_60, xN_61, xN_64, xN_200, xN_800, xN_12000, xN_12602, eq_self, and_self, and_true, true_and, if_true, if_false, decide_true, Nat.reduceLeDiff, xc2_int, xc2_ref, xc2_ra, xc2_null, xc2_long, xc2_none, xisaT_ref, xisaT_ra, xisaT_null, xc1T_int, xc1T_ref, xc1T_ra, xc1T_null, xsum_nil, xsum_int, xsum_ref, xsum_ra, xsum_long, xsum_double, xsum_null, xfl_nil, xfl_int, xfl_ref, xfl_ra, xfl_null, xfl_long, xfl_double, List.length_cons, List.length_nil, c0, k0, b0, sb, k1, k2, xfk, xfv, xak, xan, xcls, xsv', List.getElem?_cons_zero, List.getElem?_cons_succ, List.getD_cons_zero, List.getD_cons_succ, Option.getD_some, Option.isSome_some, if_true, if_pos, xcont, Option.toList_none, Option.toList_some, List.nil_append, List.cons_append]
theorem q_formulaLength {z : Int} (hS : CsS S c p k t o y b m) (hm : m ≤ S.2.1) (hI : CdI g c p k t o y P A sn H) (ht : TxI S g b m) (tz : ti z = z) :
    (¬ isB z → CRs X S g c p k t o y b m 43 (d + 12) [.ref c, .int (iI z)] (.inr 0) P A sn H) ∧
    (isB z → CRs X S g c p k t o y b m 43 (d + 12) [.ref c, .int (iI z)] (.inl (some (.int (iI (qLen A z))))) P A sn H) := by
  have c0 := hS.1
  have hrz := c_requireCell (X := X) (S := S) (g := g) (d := d + 10) tz
  have h43 : xMh 43 = [] := by decide +kernel
  refine ⟨fun h => CR_x hI fun Q => ?_, fun h => ?_⟩
  · have r1 := hrz.2 h
    rw [e43]
    simp (config := { decide := true }) only [w_iload_n1 (pc' := 1) q43 d43_0 rfl, w_invs1 (pc' := 4) q43 d43_1 rfl (by decide +kernel) k43_74_99 m15.1, gs_off, gs_off0, gs_0off, gs_2, xN_0, xN_2, xN_3, xN_6, xN_7, xN_8, xN_9, xN_10, xN_11, xN_12, xN_13, xN_14, xN_15, xN_16, xN_17, xN_18, xN_19, xN_20, xN_21, xN_22, xN_23, xN_24, xN_25, xN_26, xN_27, xN_28, xN_29, xN_30, xN_31, xN_32, xN_33, xN_34, xN_35, xN_36, xN_37, xN_38, xN_39, xN_40, xN_41, xN_42, xN_43, xN_44, xN_45, xN_46, xN_47, xN_48, xN_49, xN_50, xN_51, xN_52, xN_53, xN_54, xN_55, ti_0, ti_1, ti_2, ti_3, ti_4, ti_5, ti_6, ti_7, ti_8, ti_9, ti_10, ti_16, ti_19, ti_20, ti_29, ti_30, ti_31, ti_32, ti_35, ti_36, ti_38, ti_39, ti_40, ti_41, ti_42, ti_43, ti_44, ti_45, ti_46, ti_47, ti_48, ti_49, ti_50, ti_51, ti_52, ti_53, ti_54, ti_55, ti_56, ti_57, ti_58, ti_59, ti_60, ti_61, ti_62, ti_63, ti_64, ti_65, ti_74, ti_77, ti_126, ti_200, ti_201, ti_202, ti_203, ti_204, ti_205, ti_210, ti_255, ti_256, ti_400, ti_512, ti_600, ti_601, ti_602, ti_1000, ti_1023, ti_1024, ti_2000, ti_10000, ti_12602, ti_999999, ti_m999999, ti_m1, ti_2000000, ti_3000000, xN_1, xN_4, xN_5, xN_60, xN_61, xN_64, xN_200, xN_800, xN_12000, xN_12602, eq_self, and_self, and_true, true_and, if_true, if_false, decide_true, Nat.reduceLeDiff, xc2_int, xc2_ref, xc2_ra, xc2_null, xc2_long, xc2_none, xisaT_ref, xisaT_ra, xisaT_null, xc1T_int, xc1T_ref, xc1T_ra, xc1T_null, xsum_nil, xsum_int, xsum_ref, xsum_ra, xsum_long, xsum_double, xsum_null, xfl_nil, xfl_int, xfl_ref, xfl_ra, xfl_null, xfl_long, xfl_double, List.length_cons, List.length_nil, r1, xth_n h43, xfk, xfv, xak, xan, xcls, xsv', List.getElem?_cons_zero, List.getElem?_cons_succ, List.getD_cons_zero, List.getD_cons_succ, Option.getD_some, Option.isSome_some, if_true, if_pos, xcont, Option.toList_none, Option.toList_some, List.nil_append, List.cons_append]
  · have r1 := hrz.1 h
    obtain ⟨cap0, ht⟩ := ht
    obtain ⟨S', g', cap, hS2, ⟨x1, xc, xd, xe⟩, x2, x3, x4, x5⟩ := c_writeFormula (X := X) (d := d + 2) hS hm hI ht h
    have c0n := hS2.1
    obtain ⟨bb, sb⟩ := SbI_s x3
    have kl := c_sbLen (X := X) (d := d + 10) x3
    rw [ceT_len] at kl
    refine ⟨S', g', x1, fun j j1 j2 => x2 j (by have := hS.2.2; omega) (by have := hS.2.2; omega) j2, fun cap1 h1 => by cases TxC_uniq ht h1; exact ⟨cap, xc, Sb_TxI x3, by omega, by omega⟩, x4, fun Q => ?_⟩
    rw [e43]
    simp (config := { decide := true }) only [w_iload_n1 (pc' := 1) q43 d43_0 rfl, w_invs1 (pc' := 4) q43 d43_1 rfl (by decide +kernel) k43_74_99 m15.1, w_aload_n0 (pc' := 5) q43 d43_4 rfl, w_iload_n1 (pc' := 6) q43 d43_5 rfl, w_invv1 (ci := 10) (pc' := 9) q43 d43_6 rfl n43_198 k43_198_10 m44.1, w_aload_n0 (pc' := 10) q43 d43_9 rfl, w_getV (pc' := 13) q43 d43_10 rfl f43_43, w_invv0 (ci := 1) (pc' := 16) q43 d43_13 rfl n43_201 k43_201_1 m385.1, w_ireturn q43 d43_16 m43.2.1, gs_off, gs_off0, gs_0off, gs_2, xN_0, xN_2, xN_3, xN_6, xN_7, xN_8, xN_9, xN_10, xN_11, xN_12, xN_13, xN_14, xN_15, xN_16, xN_17, xN_18, xN_19, xN_20, xN_21, xN_22, xN_23, xN_24, xN_25, xN_26, xN_27, xN_28, xN_29, xN_30, xN_31, xN_32, xN_33, xN_34, xN_35, xN_36, xN_37, xN_38, xN_39, xN_40, xN_41, xN_42, xN_43, xN_44, xN_45, xN_46, xN_47, xN_48, xN_49, xN_50, xN_51, xN_52, xN_53, xN_54, xN_55, ti_0, ti_1, ti_2, ti_3, ti_4, ti_5, ti_6, ti_7, ti_8, ti_9, ti_10, ti_16, ti_19, ti_20, ti_29, ti_30, ti_31, ti_32, ti_35, ti_36, ti_38, ti_39, ti_40, ti_41, ti_42, ti_43, ti_44, ti_45, ti_46, ti_47, ti_48, ti_49, ti_50, ti_51, ti_52, ti_53, ti_54, ti_55, ti_56, ti_57, ti_58, ti_59, ti_60, ti_61, ti_62, ti_63, ti_64, ti_65, ti_74, ti_77, ti_126, ti_200, ti_201, ti_202, ti_203, ti_204, ti_205, ti_210, ti_255, ti_256, ti_400, ti_512, ti_600, ti_601, ti_602, ti_1000, ti_1023, ti_1024, ti_2000, ti_10000, ti_12602, ti_999999, ti_m999999, ti_m1, ti_2000000, ti_3000000, xN_1, xN_4, xN_5, xN_60, xN_61, xN_64, xN_200, xN_800, xN_12000, xN_12602, eq_self, and_self, and_true, true_and, if_true, if_false, decide_true, Nat.reduceLeDiff, xc2_int, xc2_ref, xc2_ra, xc2_null, xc2_long, xc2_none, xisaT_ref, xisaT_ra, xisaT_null, xc1T_int, xc1T_ref, xc1T_ra, xc1T_null, xsum_nil, xsum_int, xsum_ref, xsum_ra, xsum_long, xsum_double, xsum_null, xfl_nil, xfl_int, xfl_ref, xfl_ra, xfl_null, xfl_long, xfl_double, List.length_cons, List.length_nil, r1, c0, x5, c0n, sb, kl, xfk, xfv, xak, xan, xcls, xsv', List.getElem?_cons_zero, List.getElem?_cons_succ, List.getD_cons_zero, List.getD_cons_succ, Option.getD_some, Option.isSome_some, if_true, if_pos, xcont, Option.toList_none, Option.toList_some, List.nil_append, List.cons_append]
theorem q_formulaCharacter {z q : Int} (hS : CsS S c p k t o y b m) (hm : m ≤ S.2.1) (hI : CdI g c p k t o y P A sn H) (ht : TxI S g b m) (tz : ti z = z) (tq : ti q = q) :
    (¬ (isB z ∧ 0 ≤ q) → CRs X S g c p k t o y b m 45 (d + 12) [.ref c, .int (iI z), .int (iI q)] (.inr 0) P A sn H) ∧
    (isB z ∧ 0 ≤ q → CRs X S g c p k t o y b m 45 (d + 12) [.ref c, .int (iI z), .int (iI q)] (.inl (some (.int (iI (qChr A z q))))) P A sn H) := by
  have c0 := hS.1
  have hrz := c_requireCell (X := X) (S := S) (g := g) (d := d + 10) tz
  have hrq := c_requirePlace (X := X) (S := S) (g := g) (d := d + 10) tq
  have h45 : xMh 45 = [] := by decide +kernel
  refine ⟨fun h => CR_x hI fun Q => ?_, fun ⟨h, hq⟩ => ?_⟩
  · rw [e45]
    by_cases h1 : isB z
    · have r1 := hrz.1 h1
      have r2 := hrq.2 (fun e => h ⟨h1, e⟩)
      simp (config := { decide := true }) only [w_iload_n1 (pc' := 1) q45 d45_0 rfl, w_invs1 (pc' := 4) q45 d45_1 rfl (by decide +kernel) k45_74_99 m15.1, w_iload_n2 (pc' := 5) q45 d45_4 rfl, w_invs1 (pc' := 8) q45 d45_5 rfl (by decide +kernel) k45_203_99 m46.1, gs_off, gs_off0, gs_0off, gs_2, xN_0, xN_2, xN_3, xN_6, xN_7, xN_8, xN_9, xN_10, xN_11, xN_12, xN_13, xN_14, xN_15, xN_16, xN_17, xN_18, xN_19, xN_20, xN_21, xN_22, xN_23, xN_24, xN_25, xN_26, xN_27, xN_28, xN_29, xN_30, xN_31, xN_32, xN_33, xN_34, xN_35, xN_36, xN_37, xN_38, xN_39, xN_40, xN_41, xN_42, xN_43, xN_44, xN_45, xN_46, xN_47, xN_48, xN_49, xN_50, xN_51, xN_52, xN_53, xN_54, xN_55, ti_0, ti_1, ti_2, ti_3, ti_4, ti_5, ti_6, ti_7, ti_8, ti_9, ti_10, ti_16, ti_19, ti_20, ti_29, ti_30, ti_31, ti_32, ti_35, ti_36, ti_38, ti_39, ti_40, ti_41, ti_42, ti_43, ti_44, ti_45, ti_46, ti_47, ti_48, ti_49, ti_50, ti_51, ti_52, ti_53, ti_54, ti_55, ti_56, ti_57, ti_58, ti_59, ti_60, ti_61, ti_62, ti_63, ti_64, ti_65, ti_74, ti_77, ti_126, ti_200, ti_201, ti_202, ti_203, ti_204, ti_205, ti_210, ti_255, ti_256, ti_400, ti_512, ti_600, ti_601, ti_602, ti_1000, ti_1023, ti_1024, ti_2000, ti_10000, ti_12602, ti_999999, ti_m999999, ti_m1, ti_2000000, ti_3000000, xN_1, xN_4, xN_5, xN_60, xN_61, xN_64, xN_200, xN_800, xN_12000, xN_12602, eq_self, and_self, and_true, true_and, if_true, if_false, decide_true, Nat.reduceLeDiff, xc2_int, xc2_ref, xc2_ra, xc2_null, xc2_long, xc2_none, xisaT_ref, xisaT_ra, xisaT_null, xc1T_int, xc1T_ref, xc1T_ra, xc1T_null, xsum_nil, xsum_int, xsum_ref, xsum_ra, xsum_long, xsum_double, xsum_null, xfl_nil, xfl_int, xfl_ref, xfl_ra, xfl_null, xfl_long, xfl_double, List.length_cons, List.length_nil, r1, r2, xth_n h45, xfk, xfv, xak, xan, xcls, xsv', List.getElem?_cons_zero, List.getElem?_cons_succ, List.getD_cons_zero, List.getD_cons_succ, Option.getD_some, Option.isSome_some, if_true, if_pos, xcont, Option.toList_none, Option.toList_some, List.nil_append, List.cons_append]
    · have r1 := hrz.2 h1
      simp (config := { decide := true }) only [w_iload_n1 (pc' := 1) q45 d45_0 rfl, w_invs1 (pc' := 4) q45 d45_1 rfl (by decide +kernel) k45_74_99 m15.1, gs_off, gs_off0, gs_0off, gs_2, xN_0, xN_2, xN_3, xN_6, xN_7, xN_8, xN_9, xN_10, xN_11, xN_12, xN_13, xN_14, xN_15, xN_16, xN_17, xN_18, xN_19, xN_20, xN_21, xN_22, xN_23, xN_24, xN_25, xN_26, xN_27, xN_28, xN_29, xN_30, xN_31, xN_32, xN_33, xN_34, xN_35, xN_36, xN_37, xN_38, xN_39, xN_40, xN_41, xN_42, xN_43, xN_44, xN_45, xN_46, xN_47, xN_48, xN_49, xN_50, xN_51, xN_52, xN_53, xN_54, xN_55, ti_0, ti_1, ti_2, ti_3, ti_4, ti_5, ti_6, ti_7, ti_8, ti_9, ti_10, ti_16, ti_19, ti_20, ti_29, ti_30, ti_31, ti_32, ti_35, ti_36, ti_38, ti_39, ti_40, ti_41, ti_42, ti_43, ti_44, ti_45, ti_46, ti_47, ti_48, ti_49, ti_50, ti_51, ti_52, ti_53, ti_54, ti_55, ti_56, ti_57, ti_58, ti_59, ti_60, ti_61, ti_62, ti_63, ti_64, ti_65, ti_74, ti_77, ti_126, ti_200, ti_201, ti_202, ti_203, ti_204, ti_205, ti_210, ti_255, ti_256, ti_400, ti_512, ti_600, ti_601, ti_602, ti_1000, ti_1023, ti_1024, ti_2000, ti_10000, ti_12602, ti_999999, ti_m999999, ti_m1, ti_2000000, ti_3000000, xN_1, xN_4, xN_5, xN_60, xN_61, xN_64, xN_200, xN_800, xN_12000, xN_12602, eq_self, and_self, and_true, true_and, if_true, if_false, decide_true, Nat.reduceLeDiff, xc2_int, xc2_ref, xc2_ra, xc2_null, xc2_long, xc2_none, xisaT_ref, xisaT_ra, xisaT_null, xc1T_int, xc1T_ref, xc1T_ra, xc1T_null, xsum_nil, xsum_int, xsum_ref, xsum_ra, xsum_long, xsum_double, xsum_null, xfl_nil, xfl_int, xfl_ref, xfl_ra, xfl_null, xfl_long, xfl_double, List.length_cons, List.length_nil, r1, xth_n h45, xfk, xfv, xak, xan, xcls, xsv', List.getElem?_cons_zero, List.getElem?_cons_succ, List.getD_cons_zero, List.getD_cons_succ, Option.getD_some, Option.isSome_some, if_true, if_pos, xcont, Option.toList_none, Option.toList_some, List.nil_append, List.cons_append]
  · have r1 := hrz.1 h
    have r2 := (c_requirePlace (X := X) (S := S) (g := g) (d := d + 11) tq).1 hq
    obtain ⟨cap0, ht⟩ := ht
    obtain ⟨S', g', cap, hS2, ⟨x1, xc, xd, xe⟩, x2, x3, x4, x5⟩ := c_writeFormula (X := X) (d := d + 2) hS hm hI ht h
    have c0n := hS2.1
    obtain ⟨bb, sb⟩ := SbI_s x3
    have kl := c_sbLen (X := X) (d := d + 10) x3
    obtain ⟨w1, w2⟩ := ceT_rng (A := A) hI.2.1.2.2 h
    have tl : ti (((ceT A z).length : Nat) : Int) = ((ceT A z).length : Nat) := ti_eq (by omega) (by omega)
    rw [← ceT_chr hq]
    refine ⟨S', g', x1, fun j j1 j2 => x2 j (by have := hS.2.2; omega) (by have := hS.2.2; omega) j2, fun cap1 h1 => by cases TxC_uniq ht h1; exact ⟨cap, xc, Sb_TxI x3, by omega, by omega⟩, x4, fun Q => ?_⟩
    rw [e45]
    by_cases hl : q < (ceT A z).length
    · have kc := c_sbChar (X := X) (d := d + 8) x3 w1 ⟨hq, hl⟩
      simp (config := { decide := true }) only [w_iload_n1 (pc' := 1) q45 d45_0 rfl, w_invs1 (pc' := 4) q45 d45_1 rfl (by decide +kernel) k45_74_99 m15.1, w_iload_n2 (pc' := 5) q45 d45_4 rfl, w_invs1 (pc' := 8) q45 d45_5 rfl (by decide +kernel) k45_203_99 m46.1, w_aload_n0 (pc' := 9) q45 d45_8 rfl, w_iload_n1 (pc' := 10) q45 d45_9 rfl, w_invv1 (ci := 10) (pc' := 13) q45 d45_10 rfl n45_198 k45_198_10 m44.1, w_iload_n2 (pc' := 14) q45 d45_13 rfl, w_aload_n0 (pc' := 15) q45 d45_14 rfl, w_getV (pc' := 18) q45 d45_15 rfl f45_43, w_invv0 (ci := 1) (pc' := 21) q45 d45_18 rfl n45_201 k45_201_1 m385.1, w_icmp_lt (tg := 26) (pc' := 24) q45 d45_21 (by decide) rfl, w_iconst (pc' := 25) q45 d45_24 rfl, w_ireturn q45 d45_25 m45.2.1, w_aload_n0 (pc' := 27) q45 d45_26 rfl, w_getV (pc' := 30) q45 d45_27 rfl f45_43, w_iload_n2 (pc' := 31) q45 d45_30 rfl, w_invv1 (ci := 1) (pc' := 34) q45 d45_31 rfl n45_206 k45_206_1 m384.1, w_ireturn q45 d45_34 m45.2.1, gs_off, gs_off0, gs_0off, gs_2, xN_0, xN_2, xN_3, xN_6, xN_7, xN_8, xN_9, xN_10, xN_11, xN_12, xN_13, xN_14, xN_15, xN_16, xN_17, xN_18, xN_19, xN_20, xN_21, xN_22, xN_23, xN_24, xN_25, xN_26, xN_27, xN_28, xN_29, xN_30, xN_31, xN_32, xN_33, xN_34, xN_35, xN_36, xN_37, xN_38, xN_39, xN_40, xN_41, xN_42, xN_43, xN_44, xN_45, xN_46, xN_47, xN_48, xN_49, xN_50, xN_51, xN_52, xN_53, xN_54, xN_55, ti_0, ti_1, ti_2, ti_3, ti_4, ti_5, ti_6, ti_7, ti_8, ti_9, ti_10, ti_16, ti_19, ti_20, ti_29, ti_30, ti_31, ti_32, ti_35, ti_36, ti_38, ti_39, ti_40, ti_41, ti_42, ti_43, ti_44, ti_45, ti_46, ti_47, ti_48, ti_49, ti_50, ti_51, ti_52, ti_53, ti_54, ti_55, ti_56, ti_57, ti_58, ti_59, ti_60, ti_61, ti_62, ti_63, ti_64, ti_65, ti_74, ti_77, ti_126, ti_200, ti_201, ti_202, ti_203, ti_204, ti_205, ti_210, ti_255, ti_256, ti_400, ti_512, ti_600, ti_601, ti_602, ti_1000, ti_1023, ti_1024, ti_2000, ti_10000, ti_12602, ti_999999, ti_m999999, ti_m1, ti_2000000, ti_3000000, xN_1, xN_4, xN_5, xN_60, xN_61, xN_64, xN_200, xN_800, xN_12000, xN_12602, eq_self, and_self, and_true, true_and, if_true, if_false, decide_true, Nat.reduceLeDiff, xc2_int, xc2_ref, xc2_ra, xc2_null, xc2_long, xc2_none, xisaT_ref, xisaT_ra, xisaT_null, xc1T_int, xc1T_ref, xc1T_ra, xc1T_null, xsum_nil, xsum_int, xsum_ref, xsum_ra, xsum_long, xsum_double, xsum_null, xfl_nil, xfl_int, xfl_ref, xfl_ra, xfl_null, xfl_long, xfl_double, List.length_cons, List.length_nil, r1, r2, c0, x5, c0n, sb, kl, tq, tl, hl, kc, xfk, xfv, xak, xan, xcls, xsv', List.getElem?_cons_zero, List.getElem?_cons_succ, List.getD_cons_zero, List.getD_cons_succ, Option.getD_some, Option.isSome_some, if_true, if_pos, xcont, Option.toList_none, Option.toList_some, List.nil_append, List.cons_append]
    · rw [atL_out (by omega)]
      simp (config := { decide := true }) only [w_iload_n1 (pc' := 1) q45 d45_0 rfl, w_invs1 (pc' := 4) q45 d45_1 rfl (by decide +kernel) k45_74_99 m15.1, w_iload_n2 (pc' := 5) q45 d45_4 rfl, w_invs1 (pc' := 8) q45 d45_5 rfl (by decide +kernel) k45_203_99 m46.1, w_aload_n0 (pc' := 9) q45 d45_8 rfl, w_iload_n1 (pc' := 10) q45 d45_9 rfl, w_invv1 (ci := 10) (pc' := 13) q45 d45_10 rfl n45_198 k45_198_10 m44.1, w_iload_n2 (pc' := 14) q45 d45_13 rfl, w_aload_n0 (pc' := 15) q45 d45_14 rfl, w_getV (pc' := 18) q45 d45_15 rfl f45_43, w_invv0 (ci := 1) (pc' := 21) q45 d45_18 rfl n45_201 k45_201_1 m385.1, w_icmp_lt (tg := 26) (pc' := 24) q45 d45_21 (by decide) rfl, w_iconst (pc' := 25) q45 d45_24 rfl, w_ireturn q45 d45_25 m45.2.1, w_aload_n0 (pc' := 27) q45 d45_26 rfl, w_getV (pc' := 30) q45 d45_27 rfl f45_43, w_iload_n2 (pc' := 31) q45 d45_30 rfl, w_invv1 (ci := 1) (pc' := 34) q45 d45_31 rfl n45_206 k45_206_1 m384.1, w_ireturn q45 d45_34 m45.2.1, gs_off, gs_off0, gs_0off, gs_2, xN_0, xN_2, xN_3, xN_6, xN_7, xN_8, xN_9, xN_10, xN_11, xN_12, xN_13, xN_14, xN_15, xN_16, xN_17, xN_18, xN_19, xN_20, xN_21, xN_22, xN_23, xN_24, xN_25, xN_26, xN_27, xN_28, xN_29, xN_30, xN_31, xN_32, xN_33, xN_34, xN_35, xN_36, xN_37, xN_38, xN_39, xN_40, xN_41, xN_42, xN_43, xN_44, xN_45, xN_46, xN_47, xN_48, xN_49, xN_50, xN_51, xN_52, xN_53, xN_54, xN_55, ti_0, ti_1, ti_2, ti_3, ti_4, ti_5, ti_6, ti_7, ti_8, ti_9, ti_10, ti_16, ti_19, ti_20, ti_29, ti_30, ti_31, ti_32, ti_35, ti_36, ti_38, ti_39, ti_40, ti_41, ti_42, ti_43, ti_44, ti_45, ti_46, ti_47, ti_48, ti_49, ti_50, ti_51, ti_52, ti_53, ti_54, ti_55, ti_56, ti_57, ti_58, ti_59, ti_60, ti_61, ti_62, ti_63, ti_64, ti_65, ti_74, ti_77, ti_126, ti_200, ti_201, ti_202, ti_203, ti_204, ti_205, ti_210, ti_255, ti_256, ti_400, ti_512, ti_600, ti_601, ti_602, ti_1000, ti_1023, ti_1024, ti_2000, ti_10000, ti_12602, ti_999999, ti_m999999, ti_m1, ti_2000000, ti_3000000, xN_1, xN_4, xN_5, xN_60, xN_61, xN_64, xN_200, xN_800, xN_12000, xN_12602, eq_self, and_self, and_true, true_and, if_true, if_false, decide_true, Nat.reduceLeDiff, xc2_int, xc2_ref, xc2_ra, xc2_null, xc2_long, xc2_none, xisaT_ref, xisaT_ra, xisaT_null, xc1T_int, xc1T_ref, xc1T_ra, xc1T_null, xsum_nil, xsum_int, xsum_ref, xsum_ra, xsum_long, xsum_double, xsum_null, xfl_nil, xfl_int, xfl_ref, xfl_ra, xfl_null, xfl_long, xfl_double, List.length_cons, List.length_nil, r1, r2, c0, x5, c0n, sb, kl, tq, tl, hl, xfk, xfv, xak, xan, xcls, xsv', List.getElem?_cons_zero, List.getElem?_cons_succ, List.getD_cons_zero, List.getD_cons_succ, Option.getD_some, Option.isSome_some, if_true, if_pos, xcont, Option.toList_none, Option.toList_some, List.nil_append, List.cons_append]
end
