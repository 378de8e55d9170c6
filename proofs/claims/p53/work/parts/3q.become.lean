/-! Calculation: become, computeAnew -/
section
variable {X : xX} {S : xLm} {g : xGm}
theorem Sol_copy {K T Er R r : _} {n : Int} {K' Er' R' r' : Int → Int} {T' : Int → List Int} {n' : Int} (h : Sol K T Er R r n) (hV : VfA K T) (hK : ∀ c, 0 ≤ c → c < 200 → K' c = K c ∧ T' c = T c ∧ Er' c = Er c ∧ R' c = R c) (hO : OdF (FmA K') (RfA K' T') r' n') (hn : 0 ≤ n') (he : onx (FmA K') (RfA K' T') r' n' < 0) : Sol K' T' Er' R' r' n' ∧ n' = n ∧ ∀ i, 0 ≤ i → i < n → r' i = r i := by
  obtain ⟨a1, a2, a3, a4⟩ := h
  obtain ⟨u1, u2⟩ := OdF_uniq (F := FmA K) (F' := FmA K') (R := RfA K T) (R' := RfA K' T') (fun c c1 c2 => by unfold FmA; rw [(hK c c1 c2).1]) (fun c o c1 c2 _ _ => by unfold RfA; rw [(hK c c1 c2).1, (hK c c1 c2).2.1]) a1 a3 hO he a2 hn
  have hoin : ∀ c, oin r' n' c ↔ oin r n c := fun c => by rw [← u1]; exact (oin_congr (fun i i1 i2 => (u2 i i1 i2).symm))
  refine ⟨⟨hO, hn, he, fun c c1 c2 => ?_⟩, u1.symm, fun i i1 i2 => (u2 i i1 i2).symm⟩
  obtain ⟨x1, x2, x3, x4⟩ := hK c c1 c2
  obtain ⟨b1, b2, b3, b4⟩ := a4 c c1 c2
  rw [x1, x2, x3, x4, hoin c]
  refine ⟨fun hk ho => ?_, b2, b3, b4⟩
  have hev : evT (T c) K Er R 0 0 = evT (T c) K' Er' R' 0 0 := evT_loc (hV c c1 c2 hk) (fun o o1 o2 _ => by
    obtain ⟨y1, y2, y3, y4⟩ := hK o o1 o2
    exact ⟨y1.symm, y3.symm, y4.symm⟩)
  rw [← hev]
  exact b1 hk ho
theorem gA_at {b o : Nat} {n i : Int} {j : Nat} (h1 : 1 ≤ j) (h4 : j ≤ 4) : gA g b o n (b + j) i = if 0 ≤ i ∧ i < n then g (o + j) i else g (b + j) i := by
  unfold gA
  have hj : j = 1 ∨ j = 2 ∨ j = 3 ∨ j = 4 := by omega
  rcases hj with e | e | e | e <;> subst e
  · rw [if_pos rfl]
  · rw [if_neg (by omega), if_pos rfl]
  · rw [if_neg (by omega), if_neg (by omega), if_pos rfl]
  · rw [if_neg (by omega), if_neg (by omega), if_neg (by omega), if_pos rfl]
theorem gA_StI {b o : Nat} {n : Int} (hb : StI g b) (ho : StI g o) : StI (gA g b o n) b := by
  obtain ⟨a1, a2, a3, a4, a5⟩ := hb
  obtain ⟨b1, b2, b3, b4, b5⟩ := ho
  refine ⟨fun j => ?_, fun j => ?_, fun j => ?_, fun j => ?_, fun j => ?_⟩
  · rw [gA_at (by decide) (by decide)]; split
    · exact b1 j
    · exact a1 j
  · rw [gA_at (by decide) (by decide)]; split
    · exact b2 j
    · exact a2 j
  · rw [gA_at (by decide) (by decide)]; split
    · exact b3 j
    · exact a3 j
  · rw [gA_at (by decide) (by decide)]; split
    · exact b4 j
    · exact a4 j
  · rw [gA_5]; split
    · exact b5 j
    · exact a5 j
theorem tkl_eq {g g' : xGm} {b b' : Nat} {c c' : Int} (h4 : g' (b' + 4) c' = g (b + 4) c) (h5 : ∀ q, 0 ≤ q → q < g (b + 4) c → g' (b' + 5) (c' * 60 + q) = g (b + 5) (c * 60 + q)) : tkl g' b' c' = tkl g b c := by
  unfold tkl
  rw [h4]
  refine List.map_congr_left (fun i hi => ?_)
  rw [List.mem_range] at hi
  exact h5 i (by omega) (by omega)
theorem gA_tkl {b o : Nat} {c : Int} (ho : StI g o) (hc : 0 ≤ c) (hc2 : c < 200) : tkl (gA g b o 200) b c = tkl g o c := by
  refine tkl_eq (by rw [gA_at (by decide) (by decide), if_pos ⟨hc, hc2⟩]) (fun q q1 q2 => ?_)
  have := ho.2.2.2.1 c
  have e1 : (c * 60 + q) / 60 = c := by omega
  have e2 : (c * 60 + q) % 60 = q := by omega
  rw [gA_5, e1, e2, if_pos ⟨by omega, by omega, q2⟩]
/-- the memory after takeAll -/
def gB' (g : xGm) (b o : Nat) : xGm := gs (gs (gA g b o 200) b 5 (g o 5)) b 6 (g o 6)
theorem gB'_row {b o h : Nat} (hh : h < b ∨ b + 5 < h) : gB' g b o h = g h := by
  unfold gB'
  rw [gs_row _ _ _ (by omega), gs_row _ _ _ (by omega), gA_row (by omega)]
theorem gB'_off {b o j : Nat} (hj : ¬ j = 0) : gB' g b o (b + j) = gA g b o 200 (b + j) := by
  unfold gB'
  rw [gs_row _ _ _ (by omega), gs_row _ _ _ (by omega)]
theorem gB'_5 {b o : Nat} : gB' g b o b 5 = g o 5 := by unfold gB'; rw [gs_at, if_neg (by decide), gs_at, if_pos rfl]
theorem gB'_6 {b o : Nat} : gB' g b o b 6 = g o 6 := by unfold gB'; rw [gs_at, if_pos rfl]
theorem gB'_StI {b o : Nat} (hb : StI g b) (ho : StI g o) : StI (gB' g b o) b := StI_congr (fun j _ _ => gB'_off (by omega)) (gA_StI hb ho)
/-- a State is alike another one -/
def StE (g : xGm) (b : Nat) (g' : xGm) (b' : Nat) : Prop := ∀ c, 0 ≤ c → c < 200 → g' (b' + 1) c = g (b + 1) c ∧ tkl g' b' c = tkl g b c ∧ g' (b' + 3) c = g (b + 3) c ∧ g' (b' + 2) c = g (b + 2) c
theorem gB'_StE {b o : Nat} (ho : StI g o) : StE g o (gB' g b o) b := fun c c1 c2 => by
  refine ⟨by rw [gB'_off (by decide), gA_at (by decide) (by decide), if_pos ⟨c1, c2⟩], ?_, by rw [gB'_off (by decide), gA_at (by decide) (by decide), if_pos ⟨c1, c2⟩], by rw [gB'_off (by decide), gA_at (by decide) (by decide), if_pos ⟨c1, c2⟩]⟩
  rw [← gA_tkl (b := b) ho c1 c2]
  rw [tkl_congr (g := gA g b o 200) (g' := gB' g b o) (gB'_off (by decide)) (gB'_off (by decide))]
/-- a State with right results -/
def StR (g : xGm) (b : Nat) : Prop := StI g b ∧ VfA (g (b + 1)) (tkl g b) ∧ ∃ r n, Sol (g (b + 1)) (tkl g b) (g (b + 3)) (g (b + 2)) r n
theorem StR_of {g : xGm} {k : Nat} (h : ClI g k) : StR g (k + 1) := ⟨h.1, h.2.1, _, _, h.2.2.2.2⟩
theorem VfA_copy {K K' : Int → Int} {T T' : Int → List Int} (h : VfA K T) (hK : ∀ c, 0 ≤ c → c < 200 → K' c = K c ∧ T' c = T c) : VfA K' T' := fun c c1 c2 hk => by
  obtain ⟨e1, e2⟩ := hK c c1 c2
  rw [e2]
  exact h c c1 c2 (by omega)
/-- the trial between its uses -/
def TrI (g : xGm) (k : Nat) : Prop := StI g (k + 1) ∧ LkR g (k + 7)
theorem c_become {k o D : Nat} (hS : ClS S k) (hO : StS S o) (hko : o + 5 < k + 1 ∨ k + 14 < o) (hT : TrI g k) (hR : StR g o) (hD : 10 ≤ D) :
    ∃ g', (∀ h, ¬ (k < h ∧ h < k + 7) → (h < k + 7 ∨ k + 7 + 5 < h) → g' h = g h) ∧ ClI g' k ∧ StE g o g' (k + 1) ∧ g' (k + 1) 5 = g o 5 ∧ g' (k + 1) 6 = g o 6 ∧ ∀ Q, Cw X D 84 [.ref k, .ref o] (hp S g) Q = Q (.inl none) (hp S g') := by
  obtain ⟨k0, hB, hK⟩ := id hS
  obtain ⟨b0, b1, b2, b3, b4, b5⟩ := id hB
  have l0 := hK.1
  have o0 := hO.1
  obtain ⟨hI, hL⟩ := hT
  obtain ⟨hIo, hVo, r, n, hSo⟩ := hR
  obtain ⟨D, rfl⟩ : ∃ D', D = D' + 4 := ⟨D - 4, by omega⟩
  obtain ⟨g1, eg1⟩ : ∃ g1, g1 = gB' g (k + 1) o := ⟨_, rfl⟩
  have r1 : ∀ h, (h < k + 1 ∨ k + 6 < h) → g1 h = g h := fun h hh => by rw [eg1]; exact gB'_row (by omega)
  have hI1 : StI g1 (k + 1) := by rw [eg1]; exact gB'_StI hI hIo
  have hE1 : StE g o g1 (k + 1) := by rw [eg1]; exact gB'_StE hIo
  have hL1 : LkR g1 (k + 7) := by
    unfold LkR rg
    rw [r1 _ (by omega), r1 _ (by omega), r1 _ (by omega), r1 _ (by omega), r1 _ (by omega), r1 _ (by omega)]
    exact hL
  obtain ⟨g2, f1, f2, f3⟩ := c_build (X := X) (d := D) (g := g1) hK hB (by omega) hI1 hL1
  rw [fmC_eq, rfC_eq] at f2
  have s2 : ∀ h, h < k + 7 ∨ k + 12 < h → g2 h = g1 h := fun h hh => f1 h (by omega)
  have ek : g2 (k + 1 + 1) = g1 (k + 1 + 1) := s2 _ (by omega)
  have et : tkl g2 (k + 1) = tkl g1 (k + 1) := tkl_congr (s2 _ (by omega)) (s2 _ (by omega))
  have hE2 : StE g o g2 (k + 1) := fun c c1 c2 => by
    rw [ek, et, s2 _ (by omega), s2 _ (by omega)]
    exact hE1 c c1 c2
  obtain ⟨o1, o2, o3⟩ := LkI_sol f2
  rw [← ek, ← et] at o1 o3 f2
  have hL2 : LkR g2 (k + 7) := LkR_of f2 (by unfold rg; rw [s2 _ (by omega)]; exact hL1.2.2.2.2.1) (by unfold rg; rw [s2 _ (by omega)]; exact hL1.2.2.2.2.2)
  have hsol := (Sol_copy hSo hVo hE2 o1 o2 o3).1
  refine ⟨g2, fun h h1 h2 => by rw [s2 h (by omega), r1 h (by omega)], ⟨?_, ?_, f2, hL2, hsol⟩, hE2, ?_, ?_, fun Q => ?_⟩
  · exact StI_congr (fun j _ _ => s2 _ (by omega)) hI1
  · exact VfA_copy hVo (fun c c1 c2 => ⟨(hE2 c c1 c2).1, (hE2 c c1 c2).2.1⟩)
  · rw [s2 _ (by omega), eg1]; exact gB'_5
  · rw [s2 _ (by omega), eg1]; exact gB'_6
  · have hta := fun Q => c_takeAll (X := X) (d := D) (g := g) (Q := Q) hB hO (by omega) (fun j _ _ => by have := hIo.2.2.2.1 j; omega)
    rw [e84]
    simp (config := { decide := true }) only [w_aload_n0 (pc' := 1) q84 d84_0 rfl, w_getV (pc' := 4) q84 d84_1 rfl f84_14, w_aload_n1 (pc' := 5) q84 d84_4 rfl, w_invv1 (ci := 9) (pc' := 8) q84 d84_5 rfl n84_25 k84_25_9 m149.1, w_aload_n0 (pc' := 9) q84 d84_8 rfl, w_getV (pc' := 12) q84 d84_9 rfl f84_21, w_aload_n0 (pc' := 13) q84 d84_12 rfl, w_getV (pc' := 16) q84 d84_13 rfl f84_14, w_invv1 (ci := 6) (pc' := 19) q84 d84_16 rfl n84_29 k84_29_6 m100.1, w_return q84 d84_19 m84.2.1, gs_off, gs_off0, gs_0off, gs_2, xN_0, xN_2, xN_3, xN_6, xN_7, xN_8, xN_9, xN_10, xN_11, xN_12, xN_13, xN_14, xN_15, xN_16, xN_17, xN_18, xN_19, xN_20, xN_21, xN_22, xN_23, xN_24, xN_25, xN_26, xN_27, xN_28, xN_29, xN_30, xN_31, xN_32, xN_33, xN_34, xN_35, xN_36, xN_37, xN_38, xN_39, xN_40, xN_41, xN_42, xN_43, xN_44, xN_45, xN_46, xN_47, xN_48, xN_49, xN_50, xN_51, xN_52, xN_53, xN_54, xN_55, ti_0, ti_1, ti_2, ti_3, ti_4, ti_5, ti_6, ti_7, ti_8, ti_9, ti_10, ti_16, ti_19, ti_20, ti_29, ti_30, ti_31, ti_32, ti_35, ti_36, ti_38, ti_39, ti_40, ti_41, ti_42, ti_43, ti_44, ti_45, ti_46, ti_47, ti_48, ti_49, ti_50, ti_51, ti_52, ti_53, ti_54, ti_55, ti_56, ti_57, ti_58, ti_59, ti_60, ti_61, ti_62, ti_63, ti_64, ti_65, ti_74, ti_77, ti_126, ti_200, ti_201, ti_202, ti_203, ti_204, ti_205, ti_210, ti_255, ti_256, ti_400, ti_512, ti_600, ti_601, ti_602, ti_1000, ti_1023, ti_1024, ti_2000, ti_10000, ti_12602, ti_999999, ti_m999999, ti_m1, ti_2000000, ti_3000000, xN_1, xN_4, xN_5, xN_60, xN_61, xN_64, xN_200, xN_800, xN_12000, xN_12602, eq_self, and_self, and_true, true_and, if_true, if_false, decide_true, Nat.reduceLeDiff, xc2_int, xc2_ref, xc2_ra, xc2_null, xc2_long, xc2_none, xisaT_ref, xisaT_ra, xisaT_null, xc1T_int, xc1T_ref, xc1T_ra, xc1T_null, xsum_nil, xsum_int, xsum_ref, xsum_ra, xsum_long, xsum_double, xsum_null, xfl_nil, xfl_int, xfl_ref, xfl_ra, xfl_null, xfl_long, xfl_double, List.length_cons, List.length_nil, k0, b0, o0, l0, hta, xfk, xfv, xak, xan, xcls, xsv', List.getElem?_cons_zero, List.getElem?_cons_succ, List.getD_cons_zero, List.getD_cons_succ, Option.getD_some, Option.isSome_some, if_true, if_pos, xcont, Option.toList_none, Option.toList_some, List.nil_append, List.cons_append]
    rw [show gs (gs (gA g (k + 1) o 200) (k + 1) 5 (g o 5)) (k + 1) 6 (g o 6) = g1 from eg1.symm]
    simp (config := { decide := true }) only [w_aload_n0 (pc' := 1) q84 d84_0 rfl, w_getV (pc' := 4) q84 d84_1 rfl f84_14, w_aload_n1 (pc' := 5) q84 d84_4 rfl, w_invv1 (ci := 9) (pc' := 8) q84 d84_5 rfl n84_25 k84_25_9 m149.1, w_aload_n0 (pc' := 9) q84 d84_8 rfl, w_getV (pc' := 12) q84 d84_9 rfl f84_21, w_aload_n0 (pc' := 13) q84 d84_12 rfl, w_getV (pc' := 16) q84 d84_13 rfl f84_14, w_invv1 (ci := 6) (pc' := 19) q84 d84_16 rfl n84_29 k84_29_6 m100.1, w_return q84 d84_19 m84.2.1, gs_off, gs_off0, gs_0off, gs_2, xN_0, xN_2, xN_3, xN_6, xN_7, xN_8, xN_9, xN_10, xN_11, xN_12, xN_13, xN_14, xN_15, xN_16, xN_17, xN_18, xN_19, xN_20, xN_21, xN_22, xN_23, xN_24, xN_25, xN_26, xN_27, xN_28, xN_29, xN_30, xN_31, xN_32, xN_33, xN_34, xN_35, xN_36, xN_37, xN_38, xN_39, xN_40, xN_41, xN_42, xN_43, xN_44, xN_45, xN_46, xN_47, xN_48, xN_49, xN_50, xN_51, xN_52, xN_53, xN_54, xN_55, ti_0, ti_1, ti_2, ti_3, ti_4, ti_5, ti_6, ti_7, ti_8, ti_9, ti_10, ti_16, ti_19, ti_20, ti_29, ti_30, ti_31, ti_32, ti_35, ti_36, ti_38, ti_39, ti_40, ti_41, ti_42, ti_43, ti_44, ti_45, ti_46, ti_47, ti_48, ti_49, ti_50, ti_51, ti_52, ti_53, ti_54, ti_55, ti_56, ti_57, ti_58, ti_59, ti_60, ti_61, ti_62, ti_63, ti_64, ti_65, ti_74, ti_77, ti_126, ti_200, ti_201, ti_202, ti_203, ti_204, ti_205, ti_210, ti_255, ti_256, ti_400, ti_512, ti_600, ti_601, ti_602, ti_1000, ti_1023, ti_1024, ti_2000, ti_10000, ti_12602, ti_999999, ti_m999999, ti_m1, ti_2000000, ti_3000000, xN_1, xN_4, xN_5, xN_60, xN_61, xN_64, xN_200, xN_800, xN_12000, xN_12602, eq_self, and_self, and_true, true_and, if_true, if_false, decide_true, Nat.reduceLeDiff, xc2_int, xc2_ref, xc2_ra, xc2_null, xc2_long, xc2_none, xisaT_ref, xisaT_ra, xisaT_null, xc1T_int, xc1T_ref, xc1T_ra, xc1T_null, xsum_nil, xsum_int, xsum_ref, xsum_ra, xsum_long, xsum_double, xsum_null, xfl_nil, xfl_int, xfl_ref, xfl_ra, xfl_null, xfl_long, xfl_double, List.length_cons, List.length_nil, k0, b0, o0, l0, f3, xfk, xfv, xak, xan, xcls, xsv', List.getElem?_cons_zero, List.getElem?_cons_succ, List.getD_cons_zero, List.getD_cons_succ, Option.getD_some, Option.isSome_some, if_true, if_pos, xcont, Option.toList_none, Option.toList_some, List.nil_append, List.cons_append]
/-- the results are forgotten -/
theorem l_forget {k d : Nat} {c n : Int} (hS : ClS S k) (hF : rg g (k + 7 + 2) 0 199) (hn : g (k + 7) 2 = n) (hn2 : n ≤ 200) : ∀ (m : Nat) (i : Int) (G : xGm), i + m = n → 0 ≤ i → (∀ h, ¬ h = k + 1 + 2 → ¬ h = k + 1 + 3 → G h = g h) → StI G (k + 1) → (∀ x, ¬ oin (g (k + 7 + 2)) i x → G (k + 1 + 3) x = g (k + 1 + 3) x ∧ G (k + 1 + 2) x = g (k + 1 + 2) x) →
    ∃ G', (∀ h, ¬ h = k + 1 + 2 → ¬ h = k + 1 + 3 → G' h = g h) ∧ StI G' (k + 1) ∧ (∀ x, ¬ oin (g (k + 7 + 2)) n x → G' (k + 1 + 3) x = g (k + 1 + 3) x ∧ G' (k + 1 + 2) x = g (k + 1 + 2) x) ∧ ∀ Q, Wx X (d + 2) 85 2 [some (.ref k), some (.int (iI c)), some (.int (iI i))] [] (hp S G) Q = Wx X (d + 2) 85 37 [some (.ref k), some (.int (iI c)), some (.int (iI n))] [] (hp S G') Q := by
  obtain ⟨k0, hB, hK⟩ := id hS
  obtain ⟨b0, b1, b2, b3, b4, b5⟩ := id hB
  obtain ⟨l0, l1, l2, l3, l4, l5, l6, l7, l8⟩ := id hK
  intro m
  induction m with
  | zero =>
    intro i G hm h hfr hI hC
    obtain rfl : i = n := by omega
    have ti' : ti i = i := ti_eq (by omega) (by omega)
    have e2 : G (k + 7) 2 = i := by rw [hfr _ (by omega) (by omega)]; exact hn
    refine ⟨G, hfr, hI, hC, fun Q => ?_⟩
    rw [w_iload_n2 (pc' := 3) q85 d85_2 rfl]
    simp (config := { decide := true }) only [w_aload_n0 (pc' := 4) q85 d85_3 rfl, w_getV (pc' := 7) q85 d85_4 rfl f85_21, w_getI (pc' := 10) q85 d85_7 rfl f85_54, w_icmp_ge (tg := 37) (pc' := 13) q85 d85_10 (by decide) rfl, gs_off, gs_off0, gs_0off, gs_2, xN_0, xN_2, xN_3, xN_6, xN_7, xN_8, xN_9, xN_10, xN_11, xN_12, xN_13, xN_14, xN_15, xN_16, xN_17, xN_18, xN_19, xN_20, xN_21, xN_22, xN_23, xN_24, xN_25, xN_26, xN_27, xN_28, xN_29, xN_30, xN_31, xN_32, xN_33, xN_34, xN_35, xN_36, xN_37, xN_38, xN_39, xN_40, xN_41, xN_42, xN_43, xN_44, xN_45, xN_46, xN_47, xN_48, xN_49, xN_50, xN_51, xN_52, xN_53, xN_54, xN_55, ti_0, ti_1, ti_2, ti_3, ti_4, ti_5, ti_6, ti_7, ti_8, ti_9, ti_10, ti_16, ti_19, ti_20, ti_29, ti_30, ti_31, ti_32, ti_35, ti_36, ti_38, ti_39, ti_40, ti_41, ti_42, ti_43, ti_44, ti_45, ti_46, ti_47, ti_48, ti_49, ti_50, ti_51, ti_52, ti_53, ti_54, ti_55, ti_56, ti_57, ti_58, ti_59, ti_60, ti_61, ti_62, ti_63, ti_64, ti_65, ti_74, ti_77, ti_126, ti_200, ti_201, ti_202, ti_203, ti_204, ti_205, ti_210, ti_255, ti_256, ti_400, ti_512, ti_600, ti_601, ti_602, ti_1000, ti_1023, ti_1024, ti_2000, ti_10000, ti_12602, ti_999999, ti_m999999, ti_m1, ti_2000000, ti_3000000, xN_1, xN_4, xN_5, xN_60, xN_61, xN_64, xN_200, xN_800, xN_12000, xN_12602, eq_self, and_self, and_true, true_and, if_true, if_false, decide_true, Nat.reduceLeDiff, xc2_int, xc2_ref, xc2_ra, xc2_null, xc2_long, xc2_none, xisaT_ref, xisaT_ra, xisaT_null, xc1T_int, xc1T_ref, xc1T_ra, xc1T_null, xsum_nil, xsum_int, xsum_ref, xsum_ra, xsum_long, xsum_double, xsum_null, xfl_nil, xfl_int, xfl_ref, xfl_ra, xfl_null, xfl_long, xfl_double, List.length_cons, List.length_nil, k0, l0, e2, ti', Int.le_refl, xfk, xfv, xak, xan, xcls, xsv', List.getElem?_cons_zero, List.getElem?_cons_succ, List.getD_cons_zero, List.getD_cons_succ, Option.getD_some, Option.isSome_some, if_true, if_pos, xcont, Option.toList_none, Option.toList_some, List.nil_append, List.cons_append]
  | succ m ih =>
    intro i G hm h hfr hI hC
    have ti' : ti i = i := ti_eq (by omega) (by omega)
    have tn : ti n = n := ti_eq (by omega) (by omega)
    have hlt : ¬ n ≤ i := by omega
    have i2 : i < 200 := by omega
    have e2 : G (k + 7) 2 = n := by rw [hfr _ (by omega) (by omega)]; exact hn
    obtain ⟨x, ex⟩ : ∃ x, g (k + 7 + 2) i = x := ⟨_, rfl⟩
    have hx := hF i
    rw [ex] at hx
    have x2 : x < 200 := by omega
    have e3 : G (k + 7 + 2) i = x := by rw [hfr _ (by omega) (by omega)]; exact ex
    obtain ⟨G2, eG2⟩ : ∃ G2, G2 = gs (gs G (k + 1 + 2) x 0) (k + 1 + 3) x 0 := ⟨_, rfl⟩
    have hput := fun Q => c_putResult (X := X) (d := d) (g := G) (c := x) (z := 0) (e := 0) (Q := Q) hB hx.1 x2 (by decide) (by decide)
    rw [if_pos rfl, ← eG2] at hput
    obtain ⟨G', j1, j2, j3, j4⟩ := ih (i + 1) G2 (by omega) (by omega) (fun h' x1 x2 => by rw [eG2, gs_row _ _ _ x2, gs_row _ _ _ x1]; exact hfr h' x1 x2) (by rw [eG2]; exact StI_upd hI (by decide) (by decide)) (fun y hy => by
      have hne : ¬ y = x := fun e => hy ((oin_succ h).mpr (.inr (by rw [ex, e])))
      rw [eG2, gs_at, gs_off (by decide), if_neg hne, gs_off (by decide), gs_at, if_neg hne]
      exact hC y (fun h' => hy ((oin_succ h).mpr (.inl h'))))
    refine ⟨G', j1, j2, j3, fun Q => ?_⟩
    rw [w_iload_n2 (pc' := 3) q85 d85_2 rfl]
    simp (config := { decide := true }) only [w_aload_n0 (pc' := 4) q85 d85_3 rfl, w_getV (pc' := 7) q85 d85_4 rfl f85_21, w_getI (pc' := 10) q85 d85_7 rfl f85_54, w_icmp_ge (tg := 37) (pc' := 13) q85 d85_10 (by decide) rfl, w_aload_n0 (pc' := 14) q85 d85_13 rfl, w_getV (pc' := 17) q85 d85_14 rfl f85_14, w_aload_n0 (pc' := 18) q85 d85_17 rfl, w_getV (pc' := 21) q85 d85_18 rfl f85_21, w_getV (pc' := 24) q85 d85_21 rfl f85_58, w_iload_n2 (pc' := 25) q85 d85_24 rfl, w_iaload (pc' := 26) q85 d85_25 rfl, w_iconst (pc' := 27) q85 d85_26 rfl, w_iconst (pc' := 28) q85 d85_27 rfl, w_invv3 (ci := 9) (pc' := 31) q85 d85_28 rfl n85_61 k85_61_9 m157.1, w_iinc2 (z := (1)) (pc' := 34) q85 d85_31 rfl, w_goto (tg := 2) q85 d85_34 (by decide), gs_off, gs_off0, gs_0off, gs_2, xN_0, xN_2, xN_3, xN_6, xN_7, xN_8, xN_9, xN_10, xN_11, xN_12, xN_13, xN_14, xN_15, xN_16, xN_17, xN_18, xN_19, xN_20, xN_21, xN_22, xN_23, xN_24, xN_25, xN_26, xN_27, xN_28, xN_29, xN_30, xN_31, xN_32, xN_33, xN_34, xN_35, xN_36, xN_37, xN_38, xN_39, xN_40, xN_41, xN_42, xN_43, xN_44, xN_45, xN_46, xN_47, xN_48, xN_49, xN_50, xN_51, xN_52, xN_53, xN_54, xN_55, ti_0, ti_1, ti_2, ti_3, ti_4, ti_5, ti_6, ti_7, ti_8, ti_9, ti_10, ti_16, ti_19, ti_20, ti_29, ti_30, ti_31, ti_32, ti_35, ti_36, ti_38, ti_39, ti_40, ti_41, ti_42, ti_43, ti_44, ti_45, ti_46, ti_47, ti_48, ti_49, ti_50, ti_51, ti_52, ti_53, ti_54, ti_55, ti_56, ti_57, ti_58, ti_59, ti_60, ti_61, ti_62, ti_63, ti_64, ti_65, ti_74, ti_77, ti_126, ti_200, ti_201, ti_202, ti_203, ti_204, ti_205, ti_210, ti_255, ti_256, ti_400, ti_512, ti_600, ti_601, ti_602, ti_1000, ti_1023, ti_1024, ti_2000, ti_10000, ti_12602, ti_999999, ti_m999999, ti_m1, ti_2000000, ti_3000000, xN_1, xN_4, xN_5, xN_60, xN_61, xN_64, xN_200, xN_800, xN_12000, xN_12602, eq_self, and_self, and_true, true_and, if_true, if_false, decide_true, Nat.reduceLeDiff, xc2_int, xc2_ref, xc2_ra, xc2_null, xc2_long, xc2_none, xisaT_ref, xisaT_ra, xisaT_null, xc1T_int, xc1T_ref, xc1T_ra, xc1T_null, xsum_nil, xsum_int, xsum_ref, xsum_ra, xsum_long, xsum_double, xsum_null, xfl_nil, xfl_int, xfl_ref, xfl_ra, xfl_null, xfl_long, xfl_double, List.length_cons, List.length_nil, k0, b0, l0, l2, e2, e3, ti', tn, hlt, h, i2, hput, xfk, xfv, xak, xan, xcls, xsv', List.getElem?_cons_zero, List.getElem?_cons_succ, List.getD_cons_zero, List.getD_cons_succ, Option.getD_some, Option.isSome_some, if_true, if_pos, xcont, Option.toList_none, Option.toList_some, List.nil_append, List.cons_append]
    exact j4 Q
theorem c_computeAnew {k D : Nat} {c : Int} (hS : ClS S k) (hI : ClI g k) (hc : 0 ≤ c) (hc2 : c < 200) (hD : 272 ≤ D) :
    ∃ g', (∀ h, ¬ h = k → ¬ h = k + 1 + 2 → ¬ h = k + 1 + 3 → ¬ h = k + 7 + 6 → ¬ h = k + 7 + 7 → g' h = g h) ∧ TrI g' k ∧ g' (k + 1 + 3) c = g (k + 1 + 3) c ∧ g' (k + 1 + 2) c = g (k + 1 + 2) c ∧ ∀ Q, Cw X D 85 [.ref k, .int (iI c)] (hp S g) Q = Q (.inl none) (hp S g') := by
  obtain ⟨k0, hB, hK⟩ := id hS
  obtain ⟨b0, b1, b2, b3, b4, b5⟩ := id hB
  obtain ⟨l0, l1, l2, l3, l4, l5, l6, l7, l8⟩ := id hK
  obtain ⟨hI1, hV, hL, hR, hSol⟩ := hI
  obtain ⟨D, rfl⟩ : ∃ D', D = D' + 4 := ⟨D - 4, by omega⟩
  have hnr := ind_rng (FmA (g (k + 1 + 1))) 200 0
  have hn1 := hL.2.1.1
  obtain ⟨g1, f1, f2, f3, f4⟩ := l_forget (X := X) (d := D + 2) (c := c) hS hR.1 rfl (by omega) (g (k + 7) 2).toNat 0 g (by omega) (by omega) (fun _ _ _ => rfl) hI1 (fun _ _ => ⟨rfl, rfl⟩)
  obtain ⟨g2, e1, e2, e3, e4, e5⟩ := c_neededBy (X := X) (d := D + 1) (g := g1) (n := g (k + 7) 2) hK hc hc2 (by rw [f1 _ (by omega) (by omega)]) (by omega) (by omega) (by unfold rg; rw [f1 _ (by omega) (by omega)]; exact hR.1) (by unfold rg; rw [f1 _ (by omega) (by omega)]; exact hR.2.2.2.2.1) (by unfold rg; rw [f1 _ (by omega) (by omega)]; exact hR.2.2.2.2.2)
  have s2 : ∀ h, ¬ h = k + 1 + 2 → ¬ h = k + 1 + 3 → ¬ h = k + 7 + 6 → ¬ h = k + 7 + 7 → g2 h = g h := fun h a1 a2 a3 a4 => by rw [e1 h a3 a4, f1 h a1 a2]
  have ek : g2 (k + 1 + 1) = g (k + 1 + 1) := s2 _ (by omega) (by omega) (by omega) (by omega)
  have et : tkl g2 (k + 1) = tkl g (k + 1) := tkl_congr (s2 _ (by omega) (by omega) (by omega) (by omega)) (s2 _ (by omega) (by omega) (by omega) (by omega))
  have hI2 : StI g2 (k + 1) := StI_congr (fun j _ _ => e1 _ (by omega) (by omega)) f2
  have hL2 : LkI (FmA (g (k + 1 + 1))) (RfA (g (k + 1 + 1)) (tkl g (k + 1))) g2 (k + 7) := LkI_congr (fun h h1 h2 => s2 h (by omega) (by omega) (by omega) (by omega)) hL
  obtain ⟨g3, p1, p2, p3, p4⟩ := c_computeMarked (X := X) (g := g2) (D := D + 3) hS hI2 (by rw [fmC_eq, rfC_eq, ek, et]; exact hL2) (by unfold VF; rw [ek, et]; exact hV) e2 (by omega)
  have hA := CmP_A p3 (M := fun x => x = c ∨ Rc (Eg g1 (k + 7) false) c x) e4
  rw [ek, et, s2 (k + 7 + 3) (by omega) (by omega) (by omega) (by omega), s2 (k + 7) (by omega) (by omega) (by omega) (by omega)] at hA
  have hfc : ∀ x, 0 ≤ x → x < 200 → (oin (g (k + 7 + 2)) (g (k + 7) 2) x ↔ g (k + 1 + 1) x = 2) := fun x c1 c2 => by
    constructor
    · rintro ⟨q, x1, x2, x3⟩
      obtain ⟨c', y1, y2, y3, y4⟩ := FC_ex hL.2.1 x1 x2
      rw [x3] at y4
      subst y4
      exact of_decide_eq_true y3
    · intro h
      obtain ⟨q, x1, x2, x3⟩ := FC_at hL.2.1 c1 c2 (decide_eq_true h)
      exact ⟨q, x1, x2, x3⟩
  have hres := Sol_anew hSol hV (fun x x1 x2 hx => by
    have := f3 x (fun h => hx ((hfc x x1 x2).mp h))
    rw [e1 _ (by omega) (by omega), e1 _ (by omega) (by omega)]
    exact this) (fun x o x1 x2 o1 o2 hx hmx hr hko => by
      have he : Eg g1 (k + 7) false x o := by
        obtain ⟨q, y1, y2, y3⟩ := (hfc o o1 o2).mpr hko
        refine ⟨⟨q, y1, by rw [f1 _ (by omega) (by omega)]; exact y2, by rw [f1 _ (by omega) (by omega)]; exact y3⟩, ?_⟩
        unfold nea
        rw [if_neg (by decide), f1 _ (by omega) (by omega)]
        exact (hL.1 x o x1 x2 o1 (by omega)).mpr hr
      rcases hmx with e | e
      · subst e; exact .inr (Rc_one he)
      · exact .inr (Rc_step e he)) hA c hc hc2 (fun _ => .inl rfl)
  refine ⟨g3, fun h a1 a2 a3 a4 a5 => by rw [p1 h a1 a2 a3, s2 h a2 a3 a4 a5], ⟨p2, ?_⟩, hres.1, hres.2, fun Q => ?_⟩
  · refine LkR_of (LkI_congr (fun h h1 h2 => p1 h (by omega) (by omega) (by omega)) hL2) ?_ ?_
    · unfold rg; rw [p1 _ (by omega) (by omega) (by omega)]; exact e2
    · unfold rg; rw [p1 _ (by omega) (by omega) (by omega)]; exact e3
  · rw [e85]
    simp (config := { decide := true }) only [w_iconst (pc' := 1) q85 d85_0 rfl, w_istore_n2 (pc' := 2) q85 d85_1 rfl, gs_off, gs_off0, gs_0off, gs_2, xN_0, xN_2, xN_3, xN_6, xN_7, xN_8, xN_9, xN_10, xN_11, xN_12, xN_13, xN_14, xN_15, xN_16, xN_17, xN_18, xN_19, xN_20, xN_21, xN_22, xN_23, xN_24, xN_25, xN_26, xN_27, xN_28, xN_29, xN_30, xN_31, xN_32, xN_33, xN_34, xN_35, xN_36, xN_37, xN_38, xN_39, xN_40, xN_41, xN_42, xN_43, xN_44, xN_45, xN_46, xN_47, xN_48, xN_49, xN_50, xN_51, xN_52, xN_53, xN_54, xN_55, ti_0, ti_1, ti_2, ti_3, ti_4, ti_5, ti_6, ti_7, ti_8, ti_9, ti_10, ti_16, ti_19, ti_20, ti_29, ti_30, ti_31, ti_32, ti_35, ti_36, ti_38, ti_39, ti_40, ti_41, ti_42, ti_43, ti_44, ti_45, ti_46, ti_47, ti_48, ti_49, ti_50, ti_51, ti_52, ti_53, ti_54, ti_55, ti_56, ti_57, ti_58, ti_59, ti_60, ti_61, ti_62, ti_63, ti_64, ti_65, ti_74, ti_77, ti_126, ti_200, ti_201, ti_202, ti_203, ti_204, ti_205, ti_210, ti_255, ti_256, ti_400, ti_512, ti_600, ti_601, ti_602, ti_1000, ti_1023, ti_1024, ti_2000, ti_10000, ti_12602, ti_999999, ti_m999999, ti_m1, ti_2000000, ti_3000000, xN_1, xN_4, xN_5, xN_60, xN_61, xN_64, xN_200, xN_800, xN_12000, xN_12602, eq_self, and_self, and_true, true_and, if_true, if_false, decide_true, Nat.reduceLeDiff, xc2_int, xc2_ref, xc2_ra, xc2_null, xc2_long, xc2_none, xisaT_ref, xisaT_ra, xisaT_null, xc1T_int, xc1T_ref, xc1T_ra, xc1T_null, xsum_nil, xsum_int, xsum_ref, xsum_ra, xsum_long, xsum_double, xsum_null, xfl_nil, xfl_int, xfl_ref, xfl_ra, xfl_null, xfl_long, xfl_double, List.length_cons, List.length_nil, xfk, xfv, xak, xan, xcls, xsv', List.getElem?_cons_zero, List.getElem?_cons_succ, List.getD_cons_zero, List.getD_cons_succ, Option.getD_some, Option.isSome_some, if_true, if_pos, xcont, Option.toList_none, Option.toList_some, List.nil_append, List.cons_append]
    rw [f4 Q]
    simp (config := { decide := true }) only [w_aload_n0 (pc' := 38) q85 d85_37 rfl, w_getV (pc' := 41) q85 d85_38 rfl f85_21, w_iload_n1 (pc' := 42) q85 d85_41 rfl, w_invv1 (ci := 6) (pc' := 45) q85 d85_42 rfl n85_65 k85_65_6 m113.1, w_aload_n0 (pc' := 46) q85 d85_45 rfl, w_invv0 (ci := 2) (pc' := 49) q85 d85_46 rfl n85_35 k85_35_2 m64.1, w_pop (pc' := 50) q85 d85_49 rfl, w_return q85 d85_50 m85.2.1, gs_off, gs_off0, gs_0off, gs_2, xN_0, xN_2, xN_3, xN_6, xN_7, xN_8, xN_9, xN_10, xN_11, xN_12, xN_13, xN_14, xN_15, xN_16, xN_17, xN_18, xN_19, xN_20, xN_21, xN_22, xN_23, xN_24, xN_25, xN_26, xN_27, xN_28, xN_29, xN_30, xN_31, xN_32, xN_33, xN_34, xN_35, xN_36, xN_37, xN_38, xN_39, xN_40, xN_41, xN_42, xN_43, xN_44, xN_45, xN_46, xN_47, xN_48, xN_49, xN_50, xN_51, xN_52, xN_53, xN_54, xN_55, ti_0, ti_1, ti_2, ti_3, ti_4, ti_5, ti_6, ti_7, ti_8, ti_9, ti_10, ti_16, ti_19, ti_20, ti_29, ti_30, ti_31, ti_32, ti_35, ti_36, ti_38, ti_39, ti_40, ti_41, ti_42, ti_43, ti_44, ti_45, ti_46, ti_47, ti_48, ti_49, ti_50, ti_51, ti_52, ti_53, ti_54, ti_55, ti_56, ti_57, ti_58, ti_59, ti_60, ti_61, ti_62, ti_63, ti_64, ti_65, ti_74, ti_77, ti_126, ti_200, ti_201, ti_202, ti_203, ti_204, ti_205, ti_210, ti_255, ti_256, ti_400, ti_512, ti_600, ti_601, ti_602, ti_1000, ti_1023, ti_1024, ti_2000, ti_10000, ti_12602, ti_999999, ti_m999999, ti_m1, ti_2000000, ti_3000000, xN_1, xN_4, xN_5, xN_60, xN_61, xN_64, xN_200, xN_800, xN_12000, xN_12602, eq_self, and_self, and_true, true_and, if_true, if_false, decide_true, Nat.reduceLeDiff, xc2_int, xc2_ref, xc2_ra, xc2_null, xc2_long, xc2_none, xisaT_ref, xisaT_ra, xisaT_null, xc1T_int, xc1T_ref, xc1T_ra, xc1T_null, xsum_nil, xsum_int, xsum_ref, xsum_ra, xsum_long, xsum_double, xsum_null, xfl_nil, xfl_int, xfl_ref, xfl_ra, xfl_null, xfl_long, xfl_double, List.length_cons, List.length_nil, k0, l0, e5, p4, xfk, xfv, xak, xan, xcls, xsv', List.getElem?_cons_zero, List.getElem?_cons_succ, List.getD_cons_zero, List.getD_cons_succ, Option.getD_some, Option.isSome_some, if_true, if_pos, xcont, Option.toList_none, Option.toList_some, List.nil_append, List.cons_append]
end
