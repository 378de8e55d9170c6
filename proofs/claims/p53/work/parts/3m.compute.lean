/-! Calculation: computing the marked formulas -/
section
variable {X : xX} {S : xLm} {g : xGm}
theorem gE_self (g : xGm) (k : Nat) : gE g k (g k 2) (g k 4) = g := by
  unfold gE
  funext h i
  unfold gs
  by_cases h1 : h = k
  · subst h1
    by_cases h2 : i = 4
    · subst h2; simp
    · by_cases h3 : i = 2
      · subst h3; simp
      · simp [h2, h3]
  · simp [h1]
theorem gE_s3 (g : xGm) (k : Nat) (a e z : Int) : gs (gE g k a e) k 3 z = gE (gs g k 3 z) k a e := by
  unfold gE
  funext h i
  unfold gs
  by_cases h1 : h = k
  · subst h1
    by_cases h2 : i = 3
    · subst h2; simp
    · simp [h2]
  · simp [h1]
theorem gE_sr (g : xGm) (k h : Nat) (a e i z : Int) (hh : ¬ h = k) : gs (gE g k a e) h i z = gE (gs g h i z) k a e := by
  unfold gE
  funext h' i'
  unfold gs
  by_cases h1 : h' = h
  · subst h1; simp [hh]
  · simp [h1]
theorem xl2i_eq {z : Int} (h : -2147483648 ≤ z) (h2 : z < 2147483648) : xl2i z = z := by
  unfold xl2i
  have e : (lI z).toInt32 = iI z := by
    unfold lI iI
    rw [Int64.toInt32_ofInt]
  rw [e]
  exact ti_eq h h2
def CmI (g G : xGm) (k : Nat) (p : Int) : Prop :=
  (∀ c, 0 ≤ c → c < 200 → ¬ (oin (g (k + 7 + 3)) p c ∧ g (k + 7 + 6) c = 1) → G (k + 1 + 3) c = g (k + 1 + 3) c ∧ G (k + 1 + 2) c = g (k + 1 + 2) c) ∧
  (∀ i, 0 ≤ i → i < p → g (k + 7 + 6) (g (k + 7 + 3) i) = 1 → G (k + 1 + 3) (g (k + 7 + 3) i) = (evT (tkl g (k + 1) (g (k + 7 + 3) i)) (g (k + 1 + 1)) (G (k + 1 + 3)) (G (k + 1 + 2)) 0 0).1 ∧ G (k + 1 + 2) (g (k + 7 + 3) i) = (evT (tkl g (k + 1) (g (k + 7 + 3) i)) (g (k + 1 + 1)) (G (k + 1 + 3)) (G (k + 1 + 2)) 0 0).2)
theorem StI_upd {G : xGm} {k : Nat} {c v e : Int} (h : StI G (k + 1)) (hv : -999999999 ≤ v ∧ v ≤ 999999999) (he : 0 ≤ e ∧ e ≤ 5) : StI (gs (gs G (k + 1 + 2) c v) (k + 1 + 3) c e) (k + 1) := by
  obtain ⟨a1, a2, a3, a4, a5⟩ := h
  refine ⟨fun j => ?_, fun j => ?_, fun j => ?_, fun j => ?_, fun j => ?_⟩
  · rw [gs_off (by decide), gs_off (by decide)]; exact a1 j
  · rw [gs_off (by decide), gs_at]; split
    · exact hv
    · exact a2 j
  · rw [gs_at]; split
    · exact he
    · rw [gs_off (by decide)]; exact a3 j
  · rw [gs_off (by decide), gs_off (by decide)]; exact a4 j
  · rw [gs_off (by decide), gs_off (by decide)]; exact a5 j
theorem evT_good {L : List Int} {K Er R : Int → Int} (hE : okE Er R) (h : ∃ v : Ev, ∃ r n, Tr 0 r n L v) (hl : L.length ≤ 60) : goodV (evT L K Er R 0 0) := by
  obtain ⟨r, n, hT⟩ := evT_spec h
  exact (Tr_good hE _ _ _ _ _ hT).1 rfl (by omega)
theorem l_cm1 {k d : Nat} {n : Int} (hS : ClS S k) (hL : LkI (fmC g (k + 1)) (rfC g (k + 1)) g (k + 7)) (hV : VF g (k + 1)) (hM : rg g (k + 7 + 6) 0 1) (hn : g (k + 7) 4 = n) (hn2 : n ≤ 200) (hd : 260 ≤ d) : ∀ (m : Nat) (p : Int) (G : xGm) (a e : Int) (y2 y3 y4 : Option Value), p + m = n → 0 ≤ p → (∀ h, ¬ h = k → ¬ h = k + 1 + 2 → ¬ h = k + 1 + 3 → G h = g h) → StI G (k + 1) → CmI g G k p →
    ∃ G' a' e' y2' y3' y4', (∀ h, ¬ h = k → ¬ h = k + 1 + 2 → ¬ h = k + 1 + 3 → G' h = g h) ∧ StI G' (k + 1) ∧ CmI g G' k n ∧ ∀ Q, Wx X (d + 1) 64 2 [some (.ref k), some (.int (iI p)), y2, y3, y4] [] (hp S (gE G k a e)) Q = Wx X (d + 1) 64 92 [some (.ref k), some (.int (iI n)), y2', y3', y4'] [] (hp S (gE G' k a' e')) Q := by
  obtain ⟨k0, hB, hK⟩ := id hS
  obtain ⟨b0, b1, b2, b3, b4, b5⟩ := id hB
  obtain ⟨l0, l1, l2, l3, l4, l5, l6, l7, l8⟩ := id hK
  obtain ⟨q1, q2, q3, q4, ⟨o1, o2, o3, o4, o5, o6⟩, q6, q7⟩ := hL
  rw [hn] at o2
  intro m
  induction m with
  | zero =>
    intro p G a e y2 y3 y4 hm h hfr hI hC
    obtain rfl : p = n := by omega
    have tp : ti p = p := ti_eq (by omega) (by omega)
    have e4 : gE G k a e (k + 7) 4 = p := by rw [gE_row _ _ (by omega), hfr _ (by omega) (by omega) (by omega)]; exact hn
    refine ⟨G, a, e, y2, y3, y4, hfr, hI, hC, fun Q => ?_⟩
    rw [w_iload_n1 (pc' := 3) q64 d64_2 rfl]
    simp (config := { decide := true }) only [w_aload_n0 (pc' := 4) q64 d64_3 rfl, w_getV (pc' := 7) q64 d64_4 rfl f64_21, w_getI (pc' := 10) q64 d64_7 rfl f64_68, w_icmp_ge (tg := 92) (pc' := 13) q64 d64_10 (by decide) rfl, gs_off, gs_off0, gs_0off, gs_2, xN_0, xN_2, xN_3, xN_6, xN_7, xN_8, xN_9, xN_10, xN_11, xN_12, xN_13, xN_14, xN_15, xN_16, xN_17, xN_18, xN_19, xN_20, xN_21, xN_22, xN_23, xN_24, xN_25, xN_26, xN_27, xN_28, xN_29, xN_30, xN_31, xN_32, xN_33, xN_34, xN_35, xN_36, xN_37, xN_38, xN_39, xN_40, xN_41, xN_42, xN_43, xN_44, xN_45, xN_46, xN_47, xN_48, xN_49, xN_50, xN_51, xN_52, xN_53, xN_54, xN_55, ti_0, ti_1, ti_2, ti_3, ti_4, ti_5, ti_6, ti_7, ti_8, ti_9, ti_10, ti_16, ti_19, ti_20, ti_29, ti_30, ti_31, ti_32, ti_35, ti_36, ti_38, ti_39, ti_40, ti_41, ti_42, ti_43, ti_44, ti_45, ti_46, ti_47, ti_48, ti_49, ti_50, ti_51, ti_52, ti_53, ti_54, ti_55, ti_56, ti_57, ti_58, ti_59, ti_60, ti_61, ti_62, ti_63, ti_64, ti_65, ti_74, ti_77, ti_126, ti_200, ti_201, ti_202, ti_203, ti_204, ti_205, ti_210, ti_255, ti_256, ti_400, ti_512, ti_600, ti_601, ti_602, ti_1000, ti_1023, ti_1024, ti_2000, ti_10000, ti_12602, ti_999999, ti_m999999, ti_m1, ti_2000000, ti_3000000, xN_1, xN_4, xN_5, xN_60, xN_61, xN_64, xN_200, xN_800, xN_12000, xN_12602, eq_self, and_self, and_true, true_and, if_true, if_false, decide_true, Nat.reduceLeDiff, xc2_int, xc2_ref, xc2_ra, xc2_null, xc2_long, xc2_none, xisaT_ref, xisaT_ra, xisaT_null, xc1T_int, xc1T_ref, xc1T_ra, xc1T_null, xsum_nil, xsum_int, xsum_ref, xsum_ra, xsum_long, xsum_double, xsum_null, xfl_nil, xfl_int, xfl_ref, xfl_ra, xfl_null, xfl_long, xfl_double, List.length_cons, List.length_nil, k0, l0, e4, tp, Int.le_refl, xfk, xfv, xak, xan, xcls, xsv', List.getElem?_cons_zero, List.getElem?_cons_succ, List.getD_cons_zero, List.getD_cons_succ, Option.getD_some, Option.isSome_some, if_true, if_pos, xcont, Option.toList_none, Option.toList_some, List.nil_append, List.cons_append]
  | succ m ih =>
    intro p G a e y2 y3 y4 hm h hfr hI hC
    have tp : ti p = p := ti_eq (by omega) (by omega)
    have tn : ti n = n := ti_eq (by omega) (by omega)
    have hlt : ¬ n ≤ p := by omega
    have p2 : p < 200 := by omega
    have e4 : gE G k a e (k + 7) 4 = n := by rw [gE_row _ _ (by omega), hfr _ (by omega) (by omega) (by omega)]; exact hn
    obtain ⟨c, ec⟩ : ∃ c, g (k + 7 + 3) p = c := ⟨_, rfl⟩
    have e3 : gE G k a e (k + 7 + 3) p = c := by rw [gE_row _ _ (by omega), hfr _ (by omega) (by omega) (by omega)]; exact ec
    obtain ⟨c1, c2, c3, c4, c5⟩ := OdF_at o2 h (by omega)
    rw [ec] at c1 c2 c3 c4 c5
    have tc : ti c = c := ti_eq (by omega) (by omega)
    have hMc := hM c
    have e6 : gE G k a e (k + 7 + 6) c = g (k + 7 + 6) c := by rw [gE_row _ _ (by omega), hfr _ (by omega) (by omega) (by omega)]
    have tM : ti (g (k + 7 + 6) c) = g (k + 7 + 6) c := ti_eq (by omega) (by omega)
    have hkc : g (k + 1 + 1) c = 2 := of_decide_eq_true c3
    by_cases hmk : g (k + 7 + 6) c = 0
    · obtain ⟨G', a', e', y2', y3', y4', j1, j2, j3, j4⟩ := ih (p + 1) G a e (some (.int (iI c))) y3 y4 (by omega) (by omega) hfr hI ⟨fun c' x1 x2 x3 => hC.1 c' x1 x2 (fun x4 => x3 ⟨(oin_succ h).mpr (.inl x4.1), x4.2⟩), fun i i1 i2 i3 => by
        by_cases ei : i = p
        · subst ei; rw [ec] at i3; omega
        · exact hC.2 i i1 (by omega) i3⟩
      refine ⟨G', a', e', y2', y3', y4', j1, j2, j3, fun Q => ?_⟩
      rw [w_iload_n1 (pc' := 3) q64 d64_2 rfl]
      simp (config := { decide := true }) only [w_aload_n0 (pc' := 4) q64 d64_3 rfl, w_getV (pc' := 7) q64 d64_4 rfl f64_21, w_getI (pc' := 10) q64 d64_7 rfl f64_68, w_icmp_ge (tg := 92) (pc' := 13) q64 d64_10 (by decide) rfl, w_aload_n0 (pc' := 14) q64 d64_13 rfl, w_getV (pc' := 17) q64 d64_14 rfl f64_21, w_getV (pc' := 20) q64 d64_17 rfl f64_71, w_iload_n1 (pc' := 21) q64 d64_20 rfl, w_iaload (pc' := 22) q64 d64_21 rfl, w_istore_n2 (pc' := 23) q64 d64_22 rfl, w_aload_n0 (pc' := 24) q64 d64_23 rfl, w_getV (pc' := 27) q64 d64_24 rfl f64_21, w_getV (pc' := 30) q64 d64_27 rfl f64_50, w_iload_n2 (pc' := 31) q64 d64_30 rfl, w_zaload (pc' := 32) q64 d64_31 rfl, w_baload (pc' := 32) q64 d64_31 rfl, w_if_eq (tg := 86) (pc' := 35) q64 d64_32 (by decide) rfl, w_iinc1 (z := (1)) (pc' := 89) q64 d64_86 rfl, w_goto (tg := 2) q64 d64_89 (by decide), gs_off, gs_off0, gs_0off, gs_2, xN_0, xN_2, xN_3, xN_6, xN_7, xN_8, xN_9, xN_10, xN_11, xN_12, xN_13, xN_14, xN_15, xN_16, xN_17, xN_18, xN_19, xN_20, xN_21, xN_22, xN_23, xN_24, xN_25, xN_26, xN_27, xN_28, xN_29, xN_30, xN_31, xN_32, xN_33, xN_34, xN_35, xN_36, xN_37, xN_38, xN_39, xN_40, xN_41, xN_42, xN_43, xN_44, xN_45, xN_46, xN_47, xN_48, xN_49, xN_50, xN_51, xN_52, xN_53, xN_54, xN_55, ti_0, ti_1, ti_2, ti_3, ti_4, ti_5, ti_6, ti_7, ti_8, ti_9, ti_10, ti_16, ti_19, ti_20, ti_29, ti_30, ti_31, ti_32, ti_35, ti_36, ti_38, ti_39, ti_40, ti_41, ti_42, ti_43, ti_44, ti_45, ti_46, ti_47, ti_48, ti_49, ti_50, ti_51, ti_52, ti_53, ti_54, ti_55, ti_56, ti_57, ti_58, ti_59, ti_60, ti_61, ti_62, ti_63, ti_64, ti_65, ti_74, ti_77, ti_126, ti_200, ti_201, ti_202, ti_203, ti_204, ti_205, ti_210, ti_255, ti_256, ti_400, ti_512, ti_600, ti_601, ti_602, ti_1000, ti_1023, ti_1024, ti_2000, ti_10000, ti_12602, ti_999999, ti_m999999, ti_m1, ti_2000000, ti_3000000, xN_1, xN_4, xN_5, xN_60, xN_61, xN_64, xN_200, xN_800, xN_12000, xN_12602, eq_self, and_self, and_true, true_and, if_true, if_false, decide_true, Nat.reduceLeDiff, xc2_int, xc2_ref, xc2_ra, xc2_null, xc2_long, xc2_none, xisaT_ref, xisaT_ra, xisaT_null, xc1T_int, xc1T_ref, xc1T_ra, xc1T_null, xsum_nil, xsum_int, xsum_ref, xsum_ra, xsum_long, xsum_double, xsum_null, xfl_nil, xfl_int, xfl_ref, xfl_ra, xfl_null, xfl_long, xfl_double, List.length_cons, List.length_nil, k0, l0, l3, l6, e4, e3, e6, tp, tn, hlt, h, p2, tc, c1, c2, tM, hmk, xfk, xfv, xak, xan, xcls, xsv', List.getElem?_cons_zero, List.getElem?_cons_succ, List.getD_cons_zero, List.getD_cons_succ, Option.getD_some, Option.isSome_some, if_true, if_pos, xcont, Option.toList_none, Option.toList_some, List.nil_append, List.cons_append]
      exact j4 Q
    · have hm1 : g (k + 7 + 6) c = 1 := by omega
      have hGk : G (k + 1 + 1) = g (k + 1 + 1) := hfr _ (by omega) (by omega) (by omega)
      have hG4 : G (k + 1 + 4) = g (k + 1 + 4) := hfr _ (by omega) (by omega) (by omega)
      have hG5 : G (k + 1 + 5) = g (k + 1 + 5) := hfr _ (by omega) (by omega) (by omega)
      have hcnt := hI.2.2.2.1 c
      obtain ⟨cnt, ecnt⟩ : ∃ cnt, G (k + 1 + 4) c = cnt := ⟨_, rfl⟩
      rw [ecnt] at hcnt
      have tcnt : ti cnt = cnt := ti_eq (by omega) (by omega)
      obtain ⟨G1, eG1⟩ : ∃ G1, G1 = gs G k 3 (c * 60 + cnt) := ⟨_, rfl⟩
      have r1 : ∀ h', ¬ h' = k → G1 h' = G h' := fun h' hh => by rw [eG1]; exact gs_row _ _ _ hh
      have r3 : G1 k 3 = c * 60 + cnt := by rw [eG1, gs_at, if_pos rfl]
      have hI1 : StI G1 (k + 1) := by
        unfold StI rg
        rw [r1 _ (by omega), r1 _ (by omega), r1 _ (by omega), r1 _ (by omega), r1 _ (by omega)]
        exact hI
      have hCv : CvI G1 k := ⟨hI1, by omega, by omega⟩
      have etk : tkl G1 (k + 1) c = tkl g (k + 1) c := by unfold tkl; rw [r1 _ (by omega), r1 _ (by omega), hG4, hG5]
      have hTA := tkl_TA (g := G1) (k := k) (c := c) (by rw [r1 _ (by omega), ecnt]; exact hcnt.1) (by rw [r3, r1 _ (by omega), ecnt])
      rw [etk] at hTA
      have hex := hV c c1 c2 hkc
      obtain ⟨r0, n0, hTr⟩ := evT_spec hex
      have hlen : (tkl g (k + 1) c).length = cnt.toNat := by rw [tkl_len, ← hG4, ecnt]
      obtain ⟨z, a', hz, hrun⟩ := c_formula (X := X) (D := d) hS hCv hTr hTA (by omega) (by rw [hlen, r3]; omega) (by rw [hlen]; omega) hd
      have erv : rv G1 k (evT (tkl g (k + 1) c)) 0 0 = evT (tkl g (k + 1) c) (g (k + 1 + 1)) (G (k + 1 + 3)) (G (k + 1 + 2)) 0 0 := by
        unfold rv
        rw [r1 _ (by omega), r1 _ (by omega), r1 _ (by omega), hGk]
      rw [erv] at hz hrun
      have hokE : okE (G (k + 1 + 3)) (G (k + 1 + 2)) := fun c => by
        have h1 := hI.2.1 c
        have h2 := hI.2.2.1 c
        omega
      have hgd := evT_good (K := g (k + 1 + 1)) hokE hex (by rw [hlen]; omega)
      obtain ⟨pv, epv⟩ : ∃ pv, evT (tkl g (k + 1) c) (g (k + 1 + 1)) (G (k + 1 + 3)) (G (k + 1 + 2)) 0 0 = pv := ⟨_, rfl⟩
      rw [epv] at hz hrun hgd
      have hval : (if pv.1 = 0 then xl2i z else 0) = pv.2 := by
        by_cases e0 : pv.1 = 0
        · have := goodV_0 hgd e0
          rw [if_pos e0, hz e0, xl2i_eq (by omega) (by omega)]
        · rw [if_neg e0]
          unfold goodV at hgd; omega
      have her : 0 ≤ pv.1 ∧ pv.1 < 6 := by unfold goodV at hgd; omega
      have hvr : -999999999 ≤ pv.2 ∧ pv.2 ≤ 999999999 := by unfold goodV at hgd; omega
      obtain ⟨G2, eG2⟩ : ∃ G2, G2 = gs (gs G1 (k + 1 + 2) c pv.2) (k + 1 + 3) c pv.1 := ⟨_, rfl⟩
      have s2 : ∀ i, G2 (k + 1 + 2) i = if i = c then pv.2 else G (k + 1 + 2) i := fun i => by
        rw [eG2, gs_off (by decide), gs_at, r1 _ (by omega)]
      have s3 : ∀ i, G2 (k + 1 + 3) i = if i = c then pv.1 else G (k + 1 + 3) i := fun i => by
        rw [eG2, gs_at, gs_off (by decide), r1 _ (by omega)]
      have sr : ∀ h', ¬ h' = k → ¬ h' = k + 1 + 2 → ¬ h' = k + 1 + 3 → G2 h' = G h' := fun h' x1 x2 x3 => by
        rw [eG2, gs_row _ _ _ x3, gs_row _ _ _ x2, r1 _ x1]
      have hloc : ∀ i, 0 ≤ i → i ≤ p → evT (tkl g (k + 1) (g (k + 7 + 3) i)) (g (k + 1 + 1)) (G (k + 1 + 3)) (G (k + 1 + 2)) 0 0 = evT (tkl g (k + 1) (g (k + 7 + 3) i)) (g (k + 1 + 1)) (G2 (k + 1 + 3)) (G2 (k + 1 + 2)) 0 0 := fun i i1 i2 => by
        obtain ⟨x1, x2, x3, x4, x5⟩ := OdF_at o2 i1 (show i < n by omega)
        have hki : g (k + 1 + 1) (g (k + 7 + 3) i) = 2 := of_decide_eq_true x3
        refine evT_loc (hV _ x1 x2 hki) (fun o y1 y2 y3 => ⟨rfl, ?_⟩)
        have hoc : ¬ o = c := fun eo => by
          subst eo
          obtain ⟨j, j1, j2, j3⟩ := x5 o y1 y2 c3 (tkl_rf hki y3)
          exact c4 ⟨j, j1, by omega, j3⟩
        exact ⟨by rw [s3, if_neg hoc], by rw [s2, if_neg hoc]⟩
      have hC2 : CmI g G2 k (p + 1) := by
        refine ⟨fun c' x1 x2 x3 => ?_, fun i i1 i2 i3 => ?_⟩
        · have hne : ¬ c' = c := fun e => x3 ⟨(oin_succ h).mpr (.inr (by rw [ec, e])), by rw [e]; exact hm1⟩
          have := hC.1 c' x1 x2 (fun x4 => x3 ⟨(oin_succ h).mpr (.inl x4.1), x4.2⟩)
          rw [s3, s2, if_neg hne, if_neg hne]
          exact this
        · rw [← hloc i i1 (by omega)]
          by_cases ei : i = p
          · subst ei
            rw [ec, epv, s3, s2, if_pos rfl, if_pos rfl]
            exact ⟨rfl, rfl⟩
          · have hne : ¬ g (k + 7 + 3) i = c := fun e => c4 ⟨i, i1, by omega, e⟩
            rw [s3, s2, if_neg hne, if_neg hne]
            exact hC.2 i i1 (by omega) i3
      obtain ⟨G', a'', e', y2', y3', y4', j1, j2, j3, j4⟩ := ih (p + 1) G2 a' pv.1 (some (.int (iI c))) (some (.long (lI z))) none (by omega) (by omega) (fun h' x1 x2 x3 => (sr h' x1 x2 x3).trans (hfr h' x1 x2 x3)) (by rw [eG2]; exact StI_upd hI1 hvr ⟨her.1, by omega⟩) hC2
      obtain ⟨d, rfl⟩ : ∃ d', d = d' + 1 := ⟨d - 1, by omega⟩
      have hput := fun Q => c_putResult (X := X) (d := d) (g := gE G1 k a' pv.1) (c := c) (z := xl2i z) (e := pv.1) (Q := Q) hB c1 c2 her.1 her.2
      rw [hval, gE_sr _ _ _ _ _ _ _ (by omega), gE_sr _ _ _ _ _ _ _ (by omega), ← eG2] at hput
      refine ⟨G', a'', e', y2', y3', y4', j1, j2, j3, fun Q => ?_⟩
      rw [w_iload_n1 (pc' := 3) q64 d64_2 rfl]
      simp (config := { decide := true }) only [w_aload_n0 (pc' := 4) q64 d64_3 rfl, w_getV (pc' := 7) q64 d64_4 rfl f64_21, w_getI (pc' := 10) q64 d64_7 rfl f64_68, w_icmp_ge (tg := 92) (pc' := 13) q64 d64_10 (by decide) rfl, w_aload_n0 (pc' := 14) q64 d64_13 rfl, w_getV (pc' := 17) q64 d64_14 rfl f64_21, w_getV (pc' := 20) q64 d64_17 rfl f64_71, w_iload_n1 (pc' := 21) q64 d64_20 rfl, w_iaload (pc' := 22) q64 d64_21 rfl, w_istore_n2 (pc' := 23) q64 d64_22 rfl, w_aload_n0 (pc' := 24) q64 d64_23 rfl, w_getV (pc' := 27) q64 d64_24 rfl f64_21, w_getV (pc' := 30) q64 d64_27 rfl f64_50, w_iload_n2 (pc' := 31) q64 d64_30 rfl, w_zaload (pc' := 32) q64 d64_31 rfl, w_baload (pc' := 32) q64 d64_31 rfl, w_if_eq (tg := 86) (pc' := 35) q64 d64_32 (by decide) rfl, w_aload_n0 (pc' := 36) q64 d64_35 rfl, w_iload_n2 (pc' := 37) q64 d64_36 rfl, w_bipush (z' := (60)) (pc' := 39) q64 d64_37 rfl (by decide), w_imul (pc' := 40) q64 d64_39 rfl, w_putI (pc' := 43) q64 d64_40 rfl f64_74 rfl (by decide +kernel), w_aload_n0 (pc' := 44) q64 d64_43 rfl, w_aload_n0 (pc' := 45) q64 d64_44 rfl, w_getI (pc' := 48) q64 d64_45 rfl f64_74, w_aload_n0 (pc' := 49) q64 d64_48 rfl, w_getV (pc' := 52) q64 d64_49 rfl f64_14, w_getV (pc' := 55) q64 d64_52 rfl f64_77, w_iload_n2 (pc' := 56) q64 d64_55 rfl, w_iaload (pc' := 57) q64 d64_56 rfl, w_iadd (pc' := 58) q64 d64_57 rfl, w_putI (pc' := 61) q64 d64_58 rfl f64_80 rfl (by decide +kernel), w_aload_n0 (pc' := 62) q64 d64_61 rfl, w_iconst (pc' := 63) q64 d64_62 rfl, w_putI (pc' := 66) q64 d64_63 rfl f64_83 rfl (by decide +kernel), w_aload_n0 (pc' := 67) q64 d64_66 rfl, w_iconst (pc' := 68) q64 d64_67 rfl, w_invv1 (ci := 2) (pc' := 71) q64 d64_68 rfl n64_86 k64_86_2 m65.1, w_lstore_n3 (pc' := 72) q64 d64_71 rfl, w_aload_n0 (pc' := 73) q64 d64_72 rfl, w_getV (pc' := 76) q64 d64_73 rfl f64_14, w_iload_n2 (pc' := 77) q64 d64_76 rfl, w_lload_n3 (pc' := 78) q64 d64_77 rfl, w_l2i (pc' := 79) q64 d64_78 rfl, w_aload_n0 (pc' := 80) q64 d64_79 rfl, w_getI (pc' := 83) q64 d64_80 rfl f64_83, w_invv3 (ci := 9) (pc' := 86) q64 d64_83 rfl n64_61 k64_61_9 m157.1, w_iinc1 (z := (1)) (pc' := 89) q64 d64_86 rfl, w_goto (tg := 2) q64 d64_89 (by decide), gs_off, gs_off0, gs_0off, gs_2, xN_0, xN_2, xN_3, xN_6, xN_7, xN_8, xN_9, xN_10, xN_11, xN_12, xN_13, xN_14, xN_15, xN_16, xN_17, xN_18, xN_19, xN_20, xN_21, xN_22, xN_23, xN_24, xN_25, xN_26, xN_27, xN_28, xN_29, xN_30, xN_31, xN_32, xN_33, xN_34, xN_35, xN_36, xN_37, xN_38, xN_39, xN_40, xN_41, xN_42, xN_43, xN_44, xN_45, xN_46, xN_47, xN_48, xN_49, xN_50, xN_51, xN_52, xN_53, xN_54, xN_55, ti_0, ti_1, ti_2, ti_3, ti_4, ti_5, ti_6, ti_7, ti_8, ti_9, ti_10, ti_16, ti_19, ti_20, ti_29, ti_30, ti_31, ti_32, ti_35, ti_36, ti_38, ti_39, ti_40, ti_41, ti_42, ti_43, ti_44, ti_45, ti_46, ti_47, ti_48, ti_49, ti_50, ti_51, ti_52, ti_53, ti_54, ti_55, ti_56, ti_57, ti_58, ti_59, ti_60, ti_61, ti_62, ti_63, ti_64, ti_65, ti_74, ti_77, ti_126, ti_200, ti_201, ti_202, ti_203, ti_204, ti_205, ti_210, ti_255, ti_256, ti_400, ti_512, ti_600, ti_601, ti_602, ti_1000, ti_1023, ti_1024, ti_2000, ti_10000, ti_12602, ti_999999, ti_m999999, ti_m1, ti_2000000, ti_3000000, xN_1, xN_4, xN_5, xN_60, xN_61, xN_64, xN_200, xN_800, xN_12000, xN_12602, eq_self, and_self, and_true, true_and, if_true, if_false, decide_true, Nat.reduceLeDiff, xc2_int, xc2_ref, xc2_ra, xc2_null, xc2_long, xc2_none, xisaT_ref, xisaT_ra, xisaT_null, xc1T_int, xc1T_ref, xc1T_ra, xc1T_null, xsum_nil, xsum_int, xsum_ref, xsum_ra, xsum_long, xsum_double, xsum_null, xfl_nil, xfl_int, xfl_ref, xfl_ra, xfl_null, xfl_long, xfl_double, List.length_cons, List.length_nil, k0, l0, l3, l6, b0, b4, e4, e3, e6, tp, tn, hlt, h, p2, tc, c1, c2, tM, hm1, gE_a, gE_sa, gE_off, gE_e, gE_s3, gE_se, ecnt, ← eG1, hrun, hput, xfk, xfv, xak, xan, xcls, xsv', List.getElem?_cons_zero, List.getElem?_cons_succ, List.getD_cons_zero, List.getD_cons_succ, Option.getD_some, Option.isSome_some, if_true, if_pos, xcont, Option.toList_none, Option.toList_some, List.nil_append, List.cons_append]
      exact j4 Q
end
