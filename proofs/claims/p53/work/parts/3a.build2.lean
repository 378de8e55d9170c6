/-! Links: building, the whole; chains; counts -/
section
variable {X : xX} {d : Nat} {S : xLm} {g : xGm} {Q : xO → xH → Prop}
theorem l_clearRow {l b : Nat} {c : Int} (hS : LkS S l) (hc : 0 ≤ c) (hc2 : c < 200) : ∀ (m : Nat) (p : Int) (g : xGm), p + m = 4 → 0 ≤ p →
    Wx X d 100 23 [some (.ref l), some (.ref b), some (.int (iI c)), some (.int (iI p))] [] (hp S g) Q = Wx X d 100 45 [some (.ref l), some (.ref b), some (.int (iI c)), some (.int (iI 4))] [] (hp S (gr g (l + 1) (fun j => if c * 4 + p ≤ j ∧ j < c * 4 + 4 then 0 else g (l + 1) j))) Q := by
  have hS' := hS
  obtain ⟨h0, h1, h2, h3, h4, h5, h6, h7, h8⟩ := hS'
  intro m
  induction m with
  | zero =>
    intro p g hp0 h
    obtain rfl : p = 4 := by omega
    have e : gr g (l + 1) (fun j => if c * 4 + 4 ≤ j ∧ j < c * 4 + 4 then 0 else g (l + 1) j) = g := by
      funext h' j
      unfold gr
      split
      · next e => subst e; dsimp only; rw [if_neg (by omega)]
      · rfl
    rw [w_iload_n3 (pc' := 24) q100 d100_23 rfl, e]
    simp (config := { decide := true }) only [w_iconst (pc' := 25) q100 d100_24 rfl, w_icmp_ge (tg := 45) (pc' := 28) q100 d100_25 (by decide) rfl, gs_off, gs_off0, gs_0off, gs_2, xN_0, xN_2, xN_3, xN_6, xN_7, xN_8, xN_9, xN_10, xN_11, xN_12, xN_13, xN_14, xN_15, xN_16, xN_17, xN_18, xN_19, xN_20, xN_21, xN_22, xN_23, xN_24, xN_25, xN_26, xN_27, xN_28, xN_29, xN_30, xN_31, xN_32, xN_33, xN_34, xN_35, xN_36, xN_37, xN_38, xN_39, xN_40, xN_41, xN_42, xN_43, xN_44, xN_45, xN_46, xN_47, xN_48, xN_49, xN_50, xN_51, xN_52, xN_53, xN_54, xN_55, ti_0, ti_1, ti_2, ti_3, ti_4, ti_5, ti_6, ti_7, ti_8, ti_9, ti_10, ti_16, ti_19, ti_20, ti_29, ti_30, ti_31, ti_32, ti_35, ti_36, ti_38, ti_39, ti_40, ti_41, ti_42, ti_43, ti_44, ti_45, ti_46, ti_47, ti_48, ti_49, ti_50, ti_51, ti_52, ti_53, ti_54, ti_55, ti_56, ti_57, ti_58, ti_59, ti_60, ti_61, ti_62, ti_63, ti_64, ti_65, ti_74, ti_77, ti_126, ti_200, ti_201, ti_202, ti_203, ti_204, ti_205, ti_210, ti_255, ti_256, ti_400, ti_512, ti_600, ti_601, ti_602, ti_1000, ti_1023, ti_1024, ti_2000, ti_10000, ti_12602, ti_999999, ti_m999999, ti_m1, ti_2000000, ti_3000000, xN_1, xN_4, xN_5, xN_60, xN_61, xN_64, xN_200, xN_800, xN_12000, xN_12602, eq_self, and_self, and_true, true_and, if_true, if_false, decide_true, Nat.reduceLeDiff, xc2_int, xc2_ref, xc2_ra, xc2_null, xc2_long, xc2_none, xisaT_ref, xisaT_ra, xisaT_null, xc1T_int, xc1T_ref, xc1T_ra, xc1T_null, xsum_nil, xsum_int, xsum_ref, xsum_ra, xsum_long, xsum_double, xsum_null, xfl_nil, xfl_int, xfl_ref, xfl_ra, xfl_null, xfl_long, xfl_double, List.length_cons, List.length_nil, xfk, xfv, xak, xan, xcls, xsv', List.getElem?_cons_zero, List.getElem?_cons_succ, List.getD_cons_zero, List.getD_cons_succ, Option.getD_some, Option.isSome_some, if_true, if_pos, xcont, Option.toList_none, Option.toList_some, List.nil_append, List.cons_append]
  | succ m ih =>
    intro p g hp0 h
    have tp : ti p = p := ti_eq (by omega) (by omega)
    have hlt : ¬ 4 ≤ p := by omega
    have t1 : ti (c * 4 + p) = c * 4 + p := ti_eq (by omega) (by omega)
    have b1 : 0 ≤ c * 4 + p := by omega
    have b2 : c * 4 + p < 800 := by omega
    rw [w_iload_n3 (pc' := 24) q100 d100_23 rfl]
    simp (config := { decide := true }) only [w_iconst (pc' := 25) q100 d100_24 rfl, w_icmp_ge (tg := 45) (pc' := 28) q100 d100_25 (by decide) rfl, w_aload_n0 (pc' := 29) q100 d100_28 rfl, w_getV (pc' := 32) q100 d100_29 rfl f100_11, w_iload_n2 (pc' := 33) q100 d100_32 rfl, w_iconst (pc' := 34) q100 d100_33 rfl, w_imul (pc' := 35) q100 d100_34 rfl, w_iload_n3 (pc' := 36) q100 d100_35 rfl, w_iadd (pc' := 37) q100 d100_36 rfl, w_lconst0 (pc' := 38) q100 d100_37 rfl, w_lastore (pc' := 39) q100 d100_38 rfl, w_iinc3 (z := (1)) (pc' := 42) q100 d100_39 rfl, w_goto (tg := 23) q100 d100_42 (by decide), gs_off, gs_off0, gs_0off, gs_2, xN_0, xN_2, xN_3, xN_6, xN_7, xN_8, xN_9, xN_10, xN_11, xN_12, xN_13, xN_14, xN_15, xN_16, xN_17, xN_18, xN_19, xN_20, xN_21, xN_22, xN_23, xN_24, xN_25, xN_26, xN_27, xN_28, xN_29, xN_30, xN_31, xN_32, xN_33, xN_34, xN_35, xN_36, xN_37, xN_38, xN_39, xN_40, xN_41, xN_42, xN_43, xN_44, xN_45, xN_46, xN_47, xN_48, xN_49, xN_50, xN_51, xN_52, xN_53, xN_54, xN_55, ti_0, ti_1, ti_2, ti_3, ti_4, ti_5, ti_6, ti_7, ti_8, ti_9, ti_10, ti_16, ti_19, ti_20, ti_29, ti_30, ti_31, ti_32, ti_35, ti_36, ti_38, ti_39, ti_40, ti_41, ti_42, ti_43, ti_44, ti_45, ti_46, ti_47, ti_48, ti_49, ti_50, ti_51, ti_52, ti_53, ti_54, ti_55, ti_56, ti_57, ti_58, ti_59, ti_60, ti_61, ti_62, ti_63, ti_64, ti_65, ti_74, ti_77, ti_126, ti_200, ti_201, ti_202, ti_203, ti_204, ti_205, ti_210, ti_255, ti_256, ti_400, ti_512, ti_600, ti_601, ti_602, ti_1000, ti_1023, ti_1024, ti_2000, ti_10000, ti_12602, ti_999999, ti_m999999, ti_m1, ti_2000000, ti_3000000, xN_1, xN_4, xN_5, xN_60, xN_61, xN_64, xN_200, xN_800, xN_12000, xN_12602, eq_self, and_self, and_true, true_and, if_true, if_false, decide_true, Nat.reduceLeDiff, xc2_int, xc2_ref, xc2_ra, xc2_null, xc2_long, xc2_none, xisaT_ref, xisaT_ra, xisaT_null, xc1T_int, xc1T_ref, xc1T_ra, xc1T_null, xsum_nil, xsum_int, xsum_ref, xsum_ra, xsum_long, xsum_double, xsum_null, xfl_nil, xfl_int, xfl_ref, xfl_ra, xfl_null, xfl_long, xfl_double, List.length_cons, List.length_nil, h0, h1, tp, hlt, t1, b1, b2, xfk, xfv, xak, xan, xcls, xsv', List.getElem?_cons_zero, List.getElem?_cons_succ, List.getD_cons_zero, List.getD_cons_succ, Option.getD_some, Option.isSome_some, if_true, if_pos, xcont, Option.toList_none, Option.toList_some, List.nil_append, List.cons_append]
    rw [ih (p + 1) _ (by omega) (by omega)]
    congr 2
    funext h' j
    unfold gr
    split
    · next e =>
      subst e
      dsimp only
      rw [gs_at]
      by_cases e1 : j = c * 4 + p
      · rw [if_neg (by omega), if_pos e1, if_pos (by omega)]
      · by_cases e2 : c * 4 + (p + 1) ≤ j ∧ j < c * 4 + 4
        · rw [if_pos e2, if_pos (by omega)]
        · rw [if_neg e2, if_neg e1, if_neg (by omega)]
    · next e => rw [gs_row _ _ _ e]
theorem bt_row {r r' : Int → Int} {c o : Int} (h : ∀ j, r' j = if c * 4 ≤ j ∧ j < c * 4 + 4 then 0 else r j) (ho : 0 ≤ o) (ho2 : o < 256) (c' : Int) : bt r' c' o = if c' = c then false else bt r c' o := by
  by_cases e : c' = c
  · subst e
    rw [if_pos rfl]
    unfold bt
    rw [h, if_pos (by omega), tb_0]
  · rw [if_neg e]
    unfold bt
    rw [h, if_neg (by omega)]
/-- building: so far -/
def BuI (g0 g : xGm) (b l : Nat) (c : Int) : Prop :=
  (∀ h, h < l ∨ l + 5 < h → g h = g0 h) ∧ (∀ c' o, 0 ≤ c' → c' < c → 0 ≤ o → o < 256 → (bt (g (l + 1)) c' o = true ↔ rfC g0 b c' o)) ∧ g l 2 = sumf (ind (fmC g0 b)) 0 c.toNat ∧ (∀ k : Nat, k < c → fmC g0 b k = true → g (l + 2) (sumf (ind (fmC g0 b)) 0 k) = k) ∧ rg g (l + 2) 0 199 ∧ (∀ c', 0 ≤ c' → c' < c → g (l + 4) c' = -1) ∧ rg g (l + 3) 0 199 ∧ rg g (l + 4) (-1) 199 ∧ rg g (l + 5) 0 200
theorem l_build {b l : Nat} (hS : LkS S l) (hB : StS S b) (hbl : b + 5 < l) {g0 : xGm} (hI : StI g0 b) : ∀ (m : Nat) (c : Int) (g : xGm) (y : Option Value), BuI g0 g b l c → c + m = 200 → 0 ≤ c →
    ∃ g', (∀ h, h < l ∨ l + 5 < h → g' h = g0 h) ∧ LkI (fmC g0 b) (rfC g0 b) g' l ∧ ∀ Q, Wx X (d + 3) 100 7 [some (.ref l), some (.ref b), some (.int (iI c)), y] [] (hp S g) Q = Q (.inl none) (hp S g') := by
  have hS' := hS
  obtain ⟨h0, h1, h2, h3, h4, h5, h6, h7, h8⟩ := hS'
  have hB' := hB
  obtain ⟨b0, b1, b2, b3, b4, b5⟩ := hB'
  intro m
  induction m with
  | zero =>
    intro c g y hI' hc h
    obtain rfl : c = 200 := by omega
    obtain ⟨a1, a2, a3, a4, a5, a6, a7, a8, a9⟩ := hI'
    obtain ⟨g', j1, j2, j3⟩ := c_buildOrder (X := X) (d := d) (F := fmC g0 b) (R := rfC g0 b) (n := g l 2) hS rfl a5 ⟨a3, fun k k1 k2 => a4 k (by omega) k2⟩ (fun c' o c1 c2 o1 o2 => a2 c' o c1 c2 o1 o2) (fun c' c1 c2 => a6 c' c1 c2) a7 a8 a9
    refine ⟨g', fun h' hh => ?_, j2, fun Q => ?_⟩
    · rw [j1 h' (by omega) (by omega) (by omega) (by omega), a1 h' hh]
    · rw [w_iload_n2 (pc' := 8) q100 d100_7 rfl]
      simp (config := { decide := true }) only [w_sipush (z' := (200)) (pc' := 11) q100 d100_8 rfl (by decide), w_icmp_ge (tg := 87) (pc' := 14) q100 d100_11 (by decide) rfl, w_aload_n0 (pc' := 88) q100 d100_87 rfl, w_invv0 (ci := 6) (pc' := 91) q100 d100_88 rfl n100_51 k100_51_6 m104.1, w_return q100 d100_91 m100.2.1, gs_off, gs_off0, gs_0off, gs_2, xN_0, xN_2, xN_3, xN_6, xN_7, xN_8, xN_9, xN_10, xN_11, xN_12, xN_13, xN_14, xN_15, xN_16, xN_17, xN_18, xN_19, xN_20, xN_21, xN_22, xN_23, xN_24, xN_25, xN_26, xN_27, xN_28, xN_29, xN_30, xN_31, xN_32, xN_33, xN_34, xN_35, xN_36, xN_37, xN_38, xN_39, xN_40, xN_41, xN_42, xN_43, xN_44, xN_45, xN_46, xN_47, xN_48, xN_49, xN_50, xN_51, xN_52, xN_53, xN_54, xN_55, ti_0, ti_1, ti_2, ti_3, ti_4, ti_5, ti_6, ti_7, ti_8, ti_9, ti_10, ti_16, ti_19, ti_20, ti_29, ti_30, ti_31, ti_32, ti_35, ti_36, ti_38, ti_39, ti_40, ti_41, ti_42, ti_43, ti_44, ti_45, ti_46, ti_47, ti_48, ti_49, ti_50, ti_51, ti_52, ti_53, ti_54, ti_55, ti_56, ti_57, ti_58, ti_59, ti_60, ti_61, ti_62, ti_63, ti_64, ti_65, ti_74, ti_77, ti_126, ti_200, ti_201, ti_202, ti_203, ti_204, ti_205, ti_210, ti_255, ti_256, ti_400, ti_512, ti_600, ti_601, ti_602, ti_1000, ti_1023, ti_1024, ti_2000, ti_10000, ti_12602, ti_999999, ti_m999999, ti_m1, ti_2000000, ti_3000000, xN_1, xN_4, xN_5, xN_60, xN_61, xN_64, xN_200, xN_800, xN_12000, xN_12602, eq_self, and_self, and_true, true_and, if_true, if_false, decide_true, Nat.reduceLeDiff, xc2_int, xc2_ref, xc2_ra, xc2_null, xc2_long, xc2_none, xisaT_ref, xisaT_ra, xisaT_null, xc1T_int, xc1T_ref, xc1T_ra, xc1T_null, xsum_nil, xsum_int, xsum_ref, xsum_ra, xsum_long, xsum_double, xsum_null, xfl_nil, xfl_int, xfl_ref, xfl_ra, xfl_null, xfl_long, xfl_double, List.length_cons, List.length_nil, h0, j3, xfk, xfv, xak, xan, xcls, xsv', List.getElem?_cons_zero, List.getElem?_cons_succ, List.getD_cons_zero, List.getD_cons_succ, Option.getD_some, Option.isSome_some, if_true, if_pos, xcont, Option.toList_none, Option.toList_some, List.nil_append, List.cons_append]
  | succ m ih =>
    intro c g y hI' hc h
    obtain ⟨a1, a2, a3, a4, a5, a6, a7, a8, a9⟩ := hI'
    have tc : ti c = c := ti_eq (by omega) (by omega)
    have hlt : ¬ 200 ≤ c := by omega
    have c2 : c < 200 := by omega
    obtain ⟨k, hk⟩ : ∃ k : Nat, c = k := ⟨c.toNat, by omega⟩
    have hkr := ind_rng (fmC g0 b) k 0
    obtain ⟨n, en⟩ : ∃ n, sumf (ind (fmC g0 b)) 0 k = n := ⟨_, rfl⟩
    have hn : g l 2 = n := by rw [a3, hk, Int.toNat_natCast, en]
    have tn : ti n = n := ti_eq (by omega) (by omega)
    have n1 : 0 ≤ n := by omega
    have n2 : n < 200 := by omega
    obtain ⟨g1, eg1⟩ : ∃ g1, g1 = gs g (l + 4) c (-1) := ⟨_, rfl⟩
    obtain ⟨g2, eg2⟩ : ∃ g2, g2 = gr g1 (l + 1) (fun j => if c * 4 ≤ j ∧ j < c * 4 + 4 then 0 else g1 (l + 1) j) := ⟨_, rfl⟩
    have r1 : ∀ h', ¬ h' = l + 4 → g1 h' = g h' := fun h' hh => by rw [eg1]; exact gs_row _ _ _ hh
    have r2 : ∀ h', ¬ h' = l + 4 → ¬ h' = l + 1 → g2 h' = g h' := fun h' hh h2 => by rw [eg2, gr_row _ _ h2]; exact r1 h' hh
    have r24 : ∀ i, g2 (l + 4) i = if i = c then -1 else g (l + 4) i := fun i => by rw [eg2, gr_row _ _ (by omega), eg1, gs_at]
    have r21 : ∀ c' o, 0 ≤ o → o < 256 → bt (g2 (l + 1)) c' o = if c' = c then false else bt (g (l + 1)) c' o := fun c' o o1 o2 => by
      refine (bt_row (r := g1 (l + 1)) (fun j => by rw [eg2, gr_hit]) o1 o2 c').trans ?_
      rw [r1 (l + 1) (by omega)]
    have ek : g (b + 1) = g0 (b + 1) := a1 _ (by omega)
    have hkr2 := hI.1 c
    have tk : ti (g0 (b + 1) c) = g0 (b + 1) c := ti_eq (by omega) (by omega)
    have pre : ∀ Q, Wx X (d + 3) 100 7 [some (.ref l), some (.ref b), some (.int (iI c)), y] [] (hp S g) Q = Wx X (d + 3) 100 45 [some (.ref l), some (.ref b), some (.int (iI c)), some (.int (iI 4))] [] (hp S g2) Q := fun Q => by
      rw [w_iload_n2 (pc' := 8) q100 d100_7 rfl]
      simp (config := { decide := true }) only [w_sipush (z' := (200)) (pc' := 11) q100 d100_8 rfl (by decide), w_icmp_ge (tg := 87) (pc' := 14) q100 d100_11 (by decide) rfl, w_aload_n0 (pc' := 15) q100 d100_14 rfl, w_getV (pc' := 18) q100 d100_15 rfl f100_22, w_iload_n2 (pc' := 19) q100 d100_18 rfl, w_iconst (pc' := 20) q100 d100_19 rfl, w_iastore (pc' := 21) q100 d100_20 rfl, w_iconst (pc' := 22) q100 d100_21 rfl, w_istore_n3 (pc' := 23) q100 d100_22 rfl, gs_off, gs_off0, gs_0off, gs_2, xN_0, xN_2, xN_3, xN_6, xN_7, xN_8, xN_9, xN_10, xN_11, xN_12, xN_13, xN_14, xN_15, xN_16, xN_17, xN_18, xN_19, xN_20, xN_21, xN_22, xN_23, xN_24, xN_25, xN_26, xN_27, xN_28, xN_29, xN_30, xN_31, xN_32, xN_33, xN_34, xN_35, xN_36, xN_37, xN_38, xN_39, xN_40, xN_41, xN_42, xN_43, xN_44, xN_45, xN_46, xN_47, xN_48, xN_49, xN_50, xN_51, xN_52, xN_53, xN_54, xN_55, ti_0, ti_1, ti_2, ti_3, ti_4, ti_5, ti_6, ti_7, ti_8, ti_9, ti_10, ti_16, ti_19, ti_20, ti_29, ti_30, ti_31, ti_32, ti_35, ti_36, ti_38, ti_39, ti_40, ti_41, ti_42, ti_43, ti_44, ti_45, ti_46, ti_47, ti_48, ti_49, ti_50, ti_51, ti_52, ti_53, ti_54, ti_55, ti_56, ti_57, ti_58, ti_59, ti_60, ti_61, ti_62, ti_63, ti_64, ti_65, ti_74, ti_77, ti_126, ti_200, ti_201, ti_202, ti_203, ti_204, ti_205, ti_210, ti_255, ti_256, ti_400, ti_512, ti_600, ti_601, ti_602, ti_1000, ti_1023, ti_1024, ti_2000, ti_10000, ti_12602, ti_999999, ti_m999999, ti_m1, ti_2000000, ti_3000000, xN_1, xN_4, xN_5, xN_60, xN_61, xN_64, xN_200, xN_800, xN_12000, xN_12602, eq_self, and_self, and_true, true_and, if_true, if_false, decide_true, Nat.reduceLeDiff, xc2_int, xc2_ref, xc2_ra, xc2_null, xc2_long, xc2_none, xisaT_ref, xisaT_ra, xisaT_null, xc1T_int, xc1T_ref, xc1T_ra, xc1T_null, xsum_nil, xsum_int, xsum_ref, xsum_ra, xsum_long, xsum_double, xsum_null, xfl_nil, xfl_int, xfl_ref, xfl_ra, xfl_null, xfl_long, xfl_double, List.length_cons, List.length_nil, h0, h4, tc, hlt, h, c2, xfk, xfv, xak, xan, xcls, xsv', List.getElem?_cons_zero, List.getElem?_cons_succ, List.getD_cons_zero, List.getD_cons_succ, Option.getD_some, Option.isSome_some, if_true, if_pos, xcont, Option.toList_none, Option.toList_some, List.nil_append, List.cons_append]
      rw [← eg1, l_clearRow hS h c2 4 0 g1 (by omega) (by omega), Int.add_zero, ← eg2]
    have sstep : ∀ z, z = ind (fmC g0 b) c → sumf (ind (fmC g0 b)) 0 (c + 1).toNat = n + z := fun z hz => by
      rw [show (c + 1).toNat = k + 1 by omega, sumf_snoc, en, Int.zero_add, ← hk, hz]
    by_cases hf : g0 (b + 1) c = 2
    · have hfm : fmC g0 b c = true := by unfold fmC; rw [hf]; rfl
      obtain ⟨g3, eg3⟩ : ∃ g3, g3 = gs (gs g2 (l + 2) n c) l 2 (n + 1) := ⟨_, rfl⟩
      have r3 : ∀ h', ¬ h' = l → ¬ h' = l + 2 → g3 h' = g2 h' := fun h' k1 k2 => by rw [eg3, gs_row _ _ _ k1, gs_row _ _ _ k2]
      have r32 : ∀ i, g3 (l + 2) i = if i = n then c else g2 (l + 2) i := fun i => by rw [eg3, gs_row _ _ _ (by omega), gs_at]
      have r3l : g3 l 2 = n + 1 := by rw [eg3, gs_at, if_pos rfl]
      have rS : ∀ k, k ≤ 5 → g3 (b + k) = g0 (b + k) := fun k hk => by rw [r3 _ (by omega) (by omega), r2 _ (by omega) (by omega), a1 _ (by omega)]
      have hI3 : StI g3 b := by
        unfold StI rg
        rw [rS 1 (by omega), rS 2 (by omega), rS 3 (by omega), rS 4 (by omega), rS 5 (by omega)]
        exact hI
      obtain ⟨g4, j1, j2⟩ := c_addReferred (X := X) (d := d) (g := g3) hS hB hbl h c2 hI3
      rw [rS 4 (by omega), rS 5 (by omega)] at j1
      obtain ⟨g', i1, i2, i3⟩ := ih (c + 1) g4 (some (.int (iI 4))) ⟨fun h' hh => by rw [j1.1 h' (by omega), r3 h' (by omega) (by omega), r2 h' (by omega) (by omega), a1 h' hh], fun c' o c1 cc o1 o2 => by
          rw [j1.2 c' o o1 o2, r3 _ (by omega) (by omega), r21 c' o o1 o2]
          by_cases e : c' = c
          · subst e
            rw [if_pos rfl]
            constructor
            · rintro (e | e)
              · cases e
              · exact ⟨hf, e.2⟩
            · exact fun e => .inr ⟨rfl, e.2⟩
          · rw [if_neg e, a2 c' o c1 (by omega) o1 o2]
            exact ⟨fun h => h.elim id (fun h => absurd h.1 e), .inl⟩, by
          rw [j1.1 _ (by omega), r3l, sstep 1 (by unfold ind; rw [if_pos hfm])], fun q q1 q2 => by
          rw [j1.1 _ (by omega), r32]
          by_cases e : (q : Int) = c
          · have : q = k := by omega
            subst this
            rw [if_pos en]; exact e.symm
          · have hq : q < k := by omega
            have hlt' : sumf (ind (fmC g0 b)) 0 q < n := by
              have key : ∀ m : Nat, q < m → sumf (ind (fmC g0 b)) 0 q < sumf (ind (fmC g0 b)) 0 m := by
                intro m
                induction m with
                | zero => intro h; omega
                | succ m ihm =>
                  intro hm
                  rw [sumf_snoc]
                  have h0 : 0 ≤ ind (fmC g0 b) (0 + (m : Int)) := by unfold ind; split <;> omega
                  by_cases e : q = m
                  · subst e
                    have : ind (fmC g0 b) (0 + (q : Int)) = 1 := by unfold ind; rw [Int.zero_add, if_pos q2]
                    omega
                  · have := ihm (by omega)
                    omega
              rw [← en]; exact key k hq
            rw [if_neg (by omega), r2 _ (by omega) (by omega)]
            exact a4 q (by omega) q2, fun j => by
          rw [j1.1 _ (by omega), r32]; split
          · omega
          · rw [r2 _ (by omega) (by omega)]; exact a5 j, fun c' c1 cc => by
          rw [j1.1 _ (by omega), r3 _ (by omega) (by omega), r24]; split
          · rfl
          · exact a6 c' c1 (by omega), fun j => by
          rw [j1.1 _ (by omega), r3 _ (by omega) (by omega), r2 _ (by omega) (by omega)]; exact a7 j, fun j => by
          rw [j1.1 _ (by omega), r3 _ (by omega) (by omega), r24]; split
          · omega
          · exact a8 j, fun j => by
          rw [j1.1 _ (by omega), r3 _ (by omega) (by omega), r2 _ (by omega) (by omega)]; exact a9 j⟩ (by omega) (by omega)
      refine ⟨g', i1, i2, fun Q => ?_⟩
      have e2 : g2 l 2 = n := by rw [r2 _ (by omega) (by omega)]; exact hn
      have ek2 : g2 (b + 1) c = 2 := by rw [r2 _ (by omega) (by omega), ek]; exact hf
      rw [pre Q]
      simp (config := { decide := true }) only [w_aload_n1 (pc' := 46) q100 d100_45 rfl, w_getV (pc' := 49) q100 d100_46 rfl f100_42, w_iload_n2 (pc' := 50) q100 d100_49 rfl, w_iaload (pc' := 51) q100 d100_50 rfl, w_iconst (pc' := 52) q100 d100_51 rfl, w_icmp_ne (tg := 81) (pc' := 55) q100 d100_52 (by decide) rfl, w_aload_n0 (pc' := 56) q100 d100_55 rfl, w_getV (pc' := 59) q100 d100_56 rfl f100_15, w_aload_n0 (pc' := 60) q100 d100_59 rfl, w_getI (pc' := 63) q100 d100_60 rfl f100_38, w_iload_n2 (pc' := 64) q100 d100_63 rfl, w_iastore (pc' := 65) q100 d100_64 rfl, w_aload_n0 (pc' := 66) q100 d100_65 rfl, w_dup (pc' := 67) q100 d100_66 rfl, w_getI (pc' := 70) q100 d100_67 rfl f100_38, w_iconst (pc' := 71) q100 d100_70 rfl, w_iadd (pc' := 72) q100 d100_71 rfl, w_putI (pc' := 75) q100 d100_72 rfl f100_38 rfl (by decide +kernel), w_aload_n0 (pc' := 76) q100 d100_75 rfl, w_iload_n2 (pc' := 77) q100 d100_76 rfl, w_aload_n1 (pc' := 78) q100 d100_77 rfl, w_invv2 (ci := 6) (pc' := 81) q100 d100_78 rfl n100_47 k100_47_6 m101.1, w_iinc2 (z := (1)) (pc' := 84) q100 d100_81 rfl, w_goto (tg := 7) q100 d100_84 (by decide), gs_off, gs_off0, gs_0off, gs_2, xN_0, xN_2, xN_3, xN_6, xN_7, xN_8, xN_9, xN_10, xN_11, xN_12, xN_13, xN_14, xN_15, xN_16, xN_17, xN_18, xN_19, xN_20, xN_21, xN_22, xN_23, xN_24, xN_25, xN_26, xN_27, xN_28, xN_29, xN_30, xN_31, xN_32, xN_33, xN_34, xN_35, xN_36, xN_37, xN_38, xN_39, xN_40, xN_41, xN_42, xN_43, xN_44, xN_45, xN_46, xN_47, xN_48, xN_49, xN_50, xN_51, xN_52, xN_53, xN_54, xN_55, ti_0, ti_1, ti_2, ti_3, ti_4, ti_5, ti_6, ti_7, ti_8, ti_9, ti_10, ti_16, ti_19, ti_20, ti_29, ti_30, ti_31, ti_32, ti_35, ti_36, ti_38, ti_39, ti_40, ti_41, ti_42, ti_43, ti_44, ti_45, ti_46, ti_47, ti_48, ti_49, ti_50, ti_51, ti_52, ti_53, ti_54, ti_55, ti_56, ti_57, ti_58, ti_59, ti_60, ti_61, ti_62, ti_63, ti_64, ti_65, ti_74, ti_77, ti_126, ti_200, ti_201, ti_202, ti_203, ti_204, ti_205, ti_210, ti_255, ti_256, ti_400, ti_512, ti_600, ti_601, ti_602, ti_1000, ti_1023, ti_1024, ti_2000, ti_10000, ti_12602, ti_999999, ti_m999999, ti_m1, ti_2000000, ti_3000000, xN_1, xN_4, xN_5, xN_60, xN_61, xN_64, xN_200, xN_800, xN_12000, xN_12602, eq_self, and_self, and_true, true_and, if_true, if_false, decide_true, Nat.reduceLeDiff, xc2_int, xc2_ref, xc2_ra, xc2_null, xc2_long, xc2_none, xisaT_ref, xisaT_ra, xisaT_null, xc1T_int, xc1T_ref, xc1T_ra, xc1T_null, xsum_nil, xsum_int, xsum_ref, xsum_ra, xsum_long, xsum_double, xsum_null, xfl_nil, xfl_int, xfl_ref, xfl_ra, xfl_null, xfl_long, xfl_double, List.length_cons, List.length_nil, h0, h2, b0, b1, tc, h, c2, ek2, e2, tn, n1, n2, ← eg3, j2, xfk, xfv, xak, xan, xcls, xsv', List.getElem?_cons_zero, List.getElem?_cons_succ, List.getD_cons_zero, List.getD_cons_succ, Option.getD_some, Option.isSome_some, if_true, if_pos, xcont, Option.toList_none, Option.toList_some, List.nil_append, List.cons_append]
      exact i3 Q
    · have hfm : fmC g0 b c = false := by unfold fmC; exact decide_eq_false hf
      obtain ⟨g', i1, i2, i3⟩ := ih (c + 1) g2 (some (.int (iI 4))) ⟨fun h' hh => by rw [r2 h' (by omega) (by omega), a1 h' hh], fun c' o c1 cc o1 o2 => by
          rw [r21 c' o o1 o2]
          by_cases e : c' = c
          · subst e
            rw [if_pos rfl]
            exact ⟨fun e => (by cases e), fun e => absurd e.1 hf⟩
          · rw [if_neg e, a2 c' o c1 (by omega) o1 o2], by
          rw [r2 _ (by omega) (by omega), hn, sstep 0 (by unfold ind; rw [hfm]; rfl), Int.add_zero], fun q q1 q2 => by
          have : ¬ (q : Int) = c := fun e => by rw [e, hfm] at q2; cases q2
          rw [r2 _ (by omega) (by omega)]
          exact a4 q (by omega) q2, fun j => by
          rw [r2 _ (by omega) (by omega)]; exact a5 j, fun c' c1 cc => by
          rw [r24]; split
          · rfl
          · exact a6 c' c1 (by omega), fun j => by
          rw [r2 _ (by omega) (by omega)]; exact a7 j, fun j => by
          rw [r24]; split
          · omega
          · exact a8 j, fun j => by
          rw [r2 _ (by omega) (by omega)]; exact a9 j⟩ (by omega) (by omega)
      refine ⟨g', i1, i2, fun Q => ?_⟩
      have ek2 : g2 (b + 1) c = g0 (b + 1) c := by rw [r2 _ (by omega) (by omega), ek]
      rw [pre Q]
      simp (config := { decide := true }) only [w_aload_n1 (pc' := 46) q100 d100_45 rfl, w_getV (pc' := 49) q100 d100_46 rfl f100_42, w_iload_n2 (pc' := 50) q100 d100_49 rfl, w_iaload (pc' := 51) q100 d100_50 rfl, w_iconst (pc' := 52) q100 d100_51 rfl, w_icmp_ne (tg := 81) (pc' := 55) q100 d100_52 (by decide) rfl, w_iinc2 (z := (1)) (pc' := 84) q100 d100_81 rfl, w_goto (tg := 7) q100 d100_84 (by decide), gs_off, gs_off0, gs_0off, gs_2, xN_0, xN_2, xN_3, xN_6, xN_7, xN_8, xN_9, xN_10, xN_11, xN_12, xN_13, xN_14, xN_15, xN_16, xN_17, xN_18, xN_19, xN_20, xN_21, xN_22, xN_23, xN_24, xN_25, xN_26, xN_27, xN_28, xN_29, xN_30, xN_31, xN_32, xN_33, xN_34, xN_35, xN_36, xN_37, xN_38, xN_39, xN_40, xN_41, xN_42, xN_43, xN_44, xN_45, xN_46, xN_47, xN_48, xN_49, xN_50, xN_51, xN_52, xN_53, xN_54, xN_55, ti_0, ti_1, ti_2, ti_3, ti_4, ti_5, ti_6, ti_7, ti_8, ti_9, ti_10, ti_16, ti_19, ti_20, ti_29, ti_30, ti_31, ti_32, ti_35, ti_36, ti_38, ti_39, ti_40, ti_41, ti_42, ti_43, ti_44, ti_45, ti_46, ti_47, ti_48, ti_49, ti_50, ti_51, ti_52, ti_53, ti_54, ti_55, ti_56, ti_57, ti_58, ti_59, ti_60, ti_61, ti_62, ti_63, ti_64, ti_65, ti_74, ti_77, ti_126, ti_200, ti_201, ti_202, ti_203, ti_204, ti_205, ti_210, ti_255, ti_256, ti_400, ti_512, ti_600, ti_601, ti_602, ti_1000, ti_1023, ti_1024, ti_2000, ti_10000, ti_12602, ti_999999, ti_m999999, ti_m1, ti_2000000, ti_3000000, xN_1, xN_4, xN_5, xN_60, xN_61, xN_64, xN_200, xN_800, xN_12000, xN_12602, eq_self, and_self, and_true, true_and, if_true, if_false, decide_true, Nat.reduceLeDiff, xc2_int, xc2_ref, xc2_ra, xc2_null, xc2_long, xc2_none, xisaT_ref, xisaT_ra, xisaT_null, xc1T_int, xc1T_ref, xc1T_ra, xc1T_null, xsum_nil, xsum_int, xsum_ref, xsum_ra, xsum_long, xsum_double, xsum_null, xfl_nil, xfl_int, xfl_ref, xfl_ra, xfl_null, xfl_long, xfl_double, List.length_cons, List.length_nil, h0, h2, b0, b1, tc, h, c2, ek2, tk, hf, xfk, xfv, xak, xan, xcls, xsv', List.getElem?_cons_zero, List.getElem?_cons_succ, List.getD_cons_zero, List.getD_cons_succ, Option.getD_some, Option.isSome_some, if_true, if_pos, xcont, Option.toList_none, Option.toList_some, List.nil_append, List.cons_append]
      exact i3 Q
/-- the rows of the links are in their ranges -/
def LkR (g : xGm) (l : Nat) : Prop := rg g (l + 2) 0 199 ∧ rg g (l + 3) 0 199 ∧ rg g (l + 4) (-1) 199 ∧ rg g (l + 5) 0 200 ∧ rg g (l + 6) 0 1 ∧ rg g (l + 7) 0 199
theorem c_build {b l : Nat} (hS : LkS S l) (hB : StS S b) (hbl : b + 5 < l) (hI : StI g b) (hR : LkR g l) :
    ∃ g', (∀ h, h < l ∨ l + 5 < h → g' h = g h) ∧ LkI (fmC g b) (rfC g b) g' l ∧ ∀ Q, Cw X (d + 3) 100 [.ref l, .ref b] (hp S g) Q = Q (.inl none) (hp S g') := by
  have h0 := hS.1
  obtain ⟨g9, eg9⟩ : ∃ g9, g9 = gs g l 2 0 := ⟨_, rfl⟩
  have r9 : ∀ h', ¬ h' = l → g9 h' = g h' := fun h' hh => by rw [eg9]; exact gs_row _ _ _ hh
  have r9l : g9 l 2 = 0 := by rw [eg9, gs_at, if_pos rfl]
  have rS : ∀ k, k ≤ 5 → g9 (b + k) = g (b + k) := fun k hk => r9 _ (by omega)
  have hI9 : StI g9 b := by
    unfold StI rg
    rw [rS 1 (by omega), rS 2 (by omega), rS 3 (by omega), rS 4 (by omega), rS 5 (by omega)]
    exact hI
  have e1 : fmC g9 b = fmC g b := by unfold fmC; rw [rS 1 (by omega)]
  have e2 : rfC g9 b = rfC g b := by unfold rfC; rw [rS 1 (by omega), rS 4 (by omega), rS 5 (by omega)]
  obtain ⟨q2, q3, q4, q5, q6, q7⟩ := hR
  obtain ⟨g', i1, i2, i3⟩ := l_build (X := X) (d := d) hS hB hbl hI9 200 0 g9 none ⟨fun _ _ => rfl, fun _ _ _ _ => by omega, r9l, fun q hq => by omega, by unfold rg; rw [r9 _ (by omega)]; exact q2, fun _ _ _ => by omega, by unfold rg; rw [r9 _ (by omega)]; exact q3, by unfold rg; rw [r9 _ (by omega)]; exact q4, by unfold rg; rw [r9 _ (by omega)]; exact q5⟩ (by omega) (by omega)
  rw [e1, e2] at i2
  refine ⟨g', fun h' hh => by rw [i1 h' hh, r9 _ (by omega)], i2, fun Q => ?_⟩
  rw [e100]
  simp (config := { decide := true }) only [w_aload_n0 (pc' := 1) q100 d100_0 rfl, w_iconst (pc' := 2) q100 d100_1 rfl, w_putI (pc' := 5) q100 d100_2 rfl f100_38 rfl (by decide +kernel), w_iconst (pc' := 6) q100 d100_5 rfl, w_istore_n2 (pc' := 7) q100 d100_6 rfl, gs_off, gs_off0, gs_0off, gs_2, xN_0, xN_2, xN_3, xN_6, xN_7, xN_8, xN_9, xN_10, xN_11, xN_12, xN_13, xN_14, xN_15, xN_16, xN_17, xN_18, xN_19, xN_20, xN_21, xN_22, xN_23, xN_24, xN_25, xN_26, xN_27, xN_28, xN_29, xN_30, xN_31, xN_32, xN_33, xN_34, xN_35, xN_36, xN_37, xN_38, xN_39, xN_40, xN_41, xN_42, xN_43, xN_44, xN_45, xN_46, xN_47, xN_48, xN_49, xN_50, xN_51, xN_52, xN_53, xN_54, xN_55, ti_0, ti_1, ti_2, ti_3, ti_4, ti_5, ti_6, ti_7, ti_8, ti_9, ti_10, ti_16, ti_19, ti_20, ti_29, ti_30, ti_31, ti_32, ti_35, ti_36, ti_38, ti_39, ti_40, ti_41, ti_42, ti_43, ti_44, ti_45, ti_46, ti_47, ti_48, ti_49, ti_50, ti_51, ti_52, ti_53, ti_54, ti_55, ti_56, ti_57, ti_58, ti_59, ti_60, ti_61, ti_62, ti_63, ti_64, ti_65, ti_74, ti_77, ti_126, ti_200, ti_201, ti_202, ti_203, ti_204, ti_205, ti_210, ti_255, ti_256, ti_400, ti_512, ti_600, ti_601, ti_602, ti_1000, ti_1023, ti_1024, ti_2000, ti_10000, ti_12602, ti_999999, ti_m999999, ti_m1, ti_2000000, ti_3000000, xN_1, xN_4, xN_5, xN_60, xN_61, xN_64, xN_200, xN_800, xN_12000, xN_12602, eq_self, and_self, and_true, true_and, if_true, if_false, decide_true, Nat.reduceLeDiff, xc2_int, xc2_ref, xc2_ra, xc2_null, xc2_long, xc2_none, xisaT_ref, xisaT_ra, xisaT_null, xc1T_int, xc1T_ref, xc1T_ra, xc1T_null, xsum_nil, xsum_int, xsum_ref, xsum_ra, xsum_long, xsum_double, xsum_null, xfl_nil, xfl_int, xfl_ref, xfl_ra, xfl_null, xfl_long, xfl_double, List.length_cons, List.length_nil, h0, xfk, xfv, xak, xan, xcls, xsv', List.getElem?_cons_zero, List.getElem?_cons_succ, List.getD_cons_zero, List.getD_cons_succ, Option.getD_some, Option.isSome_some, if_true, if_pos, xcont, Option.toList_none, Option.toList_some, List.nil_append, List.cons_append]
  rw [← eg9]
  exact i3 Q
end
