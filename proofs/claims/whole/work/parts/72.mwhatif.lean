/-! The model: what would be -/
section
variable {X : xX} {S : xLm} {g : xGm} {d m : Nat} {w : xH} {Q : xO → xH → Prop} {P : Pd} {A : Sh} {sn : Option Sh} {H : List Sh}
def tmpA (A : Sh) (c k v : Int) : Sh := (fun x => if x = c then k else A.1 x, fun x => if x = c then v else A.2.1 x, A.2.2.1, A.2.2.2)
theorem tmpA_ok {c k v : Int} (hA : ShOK A) (hk : k = 0 ∨ k = 1) (hv : k = 1 → -999999 ≤ v ∧ v ≤ 999999) : ShOK (tmpA A c k v) := fun x x1 x2 => by
  unfold tmpA
  dsimp only
  by_cases e : x = c
  · rw [if_pos e, if_pos e]
    exact ⟨by omega, fun h => by omega, hv⟩
  · rw [if_neg e, if_neg e]
    exact hA x x1 x2
theorem MoI_slK {A : Sh} (h : MoI g m A.2.2.1) (hM : ∀ x, 0 ≤ x → x < 200 → g (m + 1) x = A.1 x ∧ (A.1 x = 1 → g (m + 1) (200 + x) = A.2.1 x)) : SlR A (g (m + 13)) (g (m + 12)) (g (m + 18)) (g m 30) (g (m + 20)) (g (m + 19)) := by
  obtain ⟨-, -, h3, h4, h5, -, h7⟩ := h
  refine ⟨g (m + 1), A.2.2.1, fun c c1 c2 => ⟨(hM c c1 c2).1, fun _ => rfl⟩, h3, h4, h5.1, h5.2, fun c c1 c2 hk => ?_⟩
  obtain ⟨e1, e2⟩ := hM c c1 c2
  rw [h7 c c1 c2 (by rw [e1]; exact hk)]
  unfold nvM
  rw [e1]
  split
  · next k => rw [e2 k]
  · rfl
/-- a row in which one cell is another one for a while -/
def TmR (r r' : Int → Int) (c k v : Int) : Prop := r' c = k ∧ (k = 1 → r' (200 + c) = v) ∧ (∀ i, ¬ i = c → ¬ i = 200 + c → r' i = r i) ∧ rgR r'
theorem m_trial {c k v : Int} {r : Int → Int} (hS : MdS S m) (hP : MdP g m P sn H) (hM : ShM r A) (hA : ShOK A) (hc : 0 ≤ c ∧ c < 200) (hk : k = 0 ∨ k = 1) (hv : k = 1 → -999999 ≤ v ∧ v ≤ 999999) (hT : TmR r (g (m + 1)) c k v) :
    ∃ g', FxC g g' m ∧ MdP g' m P sn H ∧ (∀ x, 0 ≤ x → x < 200 → g' (m + 13) x = flA (tmpA A c k v) x ∧ g' (m + 12) x = vlA (tmpA A c k v) x) ∧ ∀ Q, Cw X (d + 6) 271 [.ref m] (hp S g) Q = Q (.inl none) (hp S g') := by
  obtain ⟨h1, h2, h3, hG⟩ := hT
  have hC : CeM g m A.2.2.1 := by
    refine ⟨hG, fun x x1 x2 => ?_⟩
    by_cases e : x = c
    · subst e
      rw [h1]
      exact ⟨by omega, fun h => by omega, fun h => by rw [h2 h]; exact hv h⟩
    · obtain ⟨a1, a2, a3, -⟩ := hM.2 x x1 x2
      obtain ⟨b1, b2, b3⟩ := hA x x1 x2
      rw [h3 x e (by omega), h3 (200 + x) (by omega) (by omega), a1]
      refine ⟨b1, fun h => ⟨?_, (b2 h).1⟩, fun h => by rw [a2 h]; exact b3 h⟩
      obtain ⟨q1, q2, q3⟩ := a3 h
      refine ⟨by rw [h3 _ (by omega) (by omega)]; exact q1, q2, fun i i1 i2 => ?_⟩
      rw [h3 _ (by omega) (by omega)]
      exact q3 i i1 i2
  obtain ⟨g', k1, k5, k6⟩ := m_computesAll (X := X) (d := d) hS hC hP.2.1
  have e1 : g' (m + 1) = g (m + 1) := Fx_at k1 (by decide) (by decide)
  have hsl : SlE (tmpA A c k v) (g' (m + 13)) (g' (m + 12)) (g' (m + 18)) (g' m 30) (g' (m + 20)) (g' (m + 19)) := by
    refine SlR_E (tmpA_ok hA hk hv) (MoI_slK (A := tmpA A c k v) k5 (fun x x1 x2 => ?_))
    rw [e1]
    unfold tmpA
    dsimp only
    by_cases e : x = c
    · rw [if_pos e, if_pos e, e]
      exact ⟨h1, h2⟩
    · rw [if_neg e, if_neg e, h3 x e (by omega), h3 (200 + x) (by omega) (by omega)]
      exact ⟨(hM.2 x x1 x2).1, (hM.2 x x1 x2).2.1⟩
  exact ⟨g', k1, MdP_D (Fx_mono k1 (by decide) (by decide)) k5.2.1 hP, fun x x1 x2 => ⟨(hsl.2.2 x x1 x2).1, (hsl.2.2 x x1 x2).2.1⟩, k6⟩
theorem gs_gr_row (g : xGm) (h : Nat) (i z : Int) : gs g h i z = gr g h (fun j => if j = i then z else g h j) := by
  funext h' i'
  unfold gr
  by_cases e : h' = h
  · subst e
    rw [if_pos rfl, gs_at]
  · rw [if_neg e, gs_row _ _ _ e]
theorem TmR_back {r r' : Int → Int} {c k v : Int} (h : TmR r r' c k v) : (fun j => if j = 200 + c then r (200 + c) else if j = c then r c else r' j) = r := by
  funext j
  by_cases e1 : j = 200 + c
  · rw [if_pos e1, e1]
  · rw [if_neg e1]
    by_cases e2 : j = c
    · rw [if_pos e2, e2]
    · rw [if_neg e2, h.2.2.1 j e2 e1]
/-- the cell as it was -/
theorem m_untrial {r : Int → Int} {c k v : Int} (hS : MdS S m) (hP : MdP g m P sn H) (hM : ShM r A) (hA : ShOK A) (hG : rgR r) (hT : TmR r (g (m + 1)) c k v) :
    ∃ g', Fm g g' m ∧ MdI g' m P A sn H ∧ g' m 11 = g m 11 ∧ ∀ Q, Cw X (d + 6) 271 [.ref m] (hp S (gs (gs g (m + 1) c (r c)) (m + 1) (200 + c) (r (200 + c)))) Q = Q (.inl none) (hp S g') := by
  have e : gs (gs g (m + 1) c (r c)) (m + 1) (200 + c) (r (200 + c)) = gr g (m + 1) r := by
    rw [gs_gr_row, gs_gr_row g, gr_gr, gr_hit, TmR_back hT]
  obtain ⟨g', f1, i1, l1, -, k1⟩ := m_comp (X := X) (d := d) (g := gr g (m + 1) r) hS (MdP_row1 hP) (by rw [gr_hit]; exact hG) (by rw [gr_hit]; exact hM) hA
  rw [e]
  exact ⟨g', Fm_trans (Fm_row (by decide)) f1, i1, by rw [l1 11 (by decide), gr_row _ _ (by omega)], k1⟩
theorem m_errorsWithout {z : Int} (hS : MdS S m) (hI : MdI g m P A sn H) (tz : ti z = z) :
    (¬ isB z → MRs X S g m 379 (d + 12) [.ref m, .int (iI z)] 1 (.int (iI 0)) P A sn H) ∧
    (isB z → MRs X S g m 379 (d + 12) [.ref m, .int (iI z)] 0 (.int (iI (qErr (tmpA A z 0 0)))) P A sn H) := by
  have s0 := hS.1
  have s1 := MdS_1 hS
  have hic := fun w => m_isCell (X := X) (d := d + 10) (w := w) tz
  have has := fun G b hb => m_asks (X := X) (d := d + 11) (g := G) (b := b) hS hb
  have h0 := fun G => has G 0 (.inl rfl)
  have h1 := fun G => has G 1 (.inr rfl)
  simp only [show (1 : Int) - 0 = 1 from rfl, show (1 : Int) - 1 = 0 from rfl] at h0 h1
  refine ⟨fun h => MR_bad hI fun Q => ?_, fun h => ?_⟩
  · unfold isB at h
    simp only [if_neg h] at hic
    rw [e379]
    simp (config := { decide := true }) only [w_aload_n0 (pc' := 1) q379 d379_0 rfl, w_iload_n1 (pc' := 2) q379 d379_1 rfl, w_invs1 (pc' := 5) q379 d379_2 rfl (by decide +kernel) k379_392_99 m262.1, w_invv1 (ci := 11) (pc' := 8) q379 d379_5 rfl n379_395 k379_395_11 m263.1, w_if_ne (tg := 13) (pc' := 11) q379 d379_8 (by decide) rfl, w_iconst (pc' := 12) q379 d379_11 rfl, w_ireturn q379 d379_12 m379.2.1, w_aload_n0 (pc' := 14) q379 d379_13 rfl, w_getV (pc' := 17) q379 d379_14 rfl f379_7, w_iload_n1 (pc' := 18) q379 d379_17 rfl, w_iaload (pc' := 19) q379 d379_18 rfl, w_istore_n2 (pc' := 20) q379 d379_19 rfl, w_aload_n0 (pc' := 21) q379 d379_20 rfl, w_getV (pc' := 24) q379 d379_21 rfl f379_7, w_iload_n1 (pc' := 25) q379 d379_24 rfl, w_iconst (pc' := 26) q379 d379_25 rfl, w_iastore (pc' := 27) q379 d379_26 rfl, w_aload_n0 (pc' := 28) q379 d379_27 rfl, w_invv0 (ci := 11) (pc' := 31) q379 d379_28 rfl n379_261 k379_261_11 m271.1, w_aload_n0 (pc' := 32) q379 d379_31 rfl, w_invv0 (ci := 11) (pc' := 35) q379 d379_32 rfl n379_546 k379_546_11 m368.1, w_istore_n3 (pc' := 36) q379 d379_35 rfl, w_aload_n0 (pc' := 37) q379 d379_36 rfl, w_getV (pc' := 40) q379 d379_37 rfl f379_7, w_iload_n1 (pc' := 41) q379 d379_40 rfl, w_iload_n2 (pc' := 42) q379 d379_41 rfl, w_iastore (pc' := 43) q379 d379_42 rfl, w_aload_n0 (pc' := 44) q379 d379_43 rfl, w_invv0 (ci := 11) (pc' := 47) q379 d379_44 rfl n379_261 k379_261_11 m271.1, w_iload_n3 (pc' := 48) q379 d379_47 rfl, w_ireturn q379 d379_48 m379.2.1, gs_off, gs_off0, gs_0off, gs_2, xN_0, xN_2, xN_3, xN_6, xN_7, xN_8, xN_9, xN_10, xN_11, xN_12, xN_13, xN_14, xN_15, xN_16, xN_17, xN_18, xN_19, xN_20, xN_21, xN_22, xN_23, xN_24, xN_25, xN_26, xN_27, xN_28, xN_29, xN_30, xN_31, xN_32, xN_33, xN_34, xN_35, xN_36, xN_37, xN_38, xN_39, xN_40, xN_41, xN_42, xN_43, xN_44, xN_45, xN_46, xN_47, xN_48, xN_49, xN_50, xN_51, xN_52, xN_53, xN_54, xN_55, ti_0, ti_1, ti_2, ti_3, ti_4, ti_5, ti_6, ti_7, ti_8, ti_9, ti_10, ti_16, ti_19, ti_20, ti_29, ti_30, ti_31, ti_32, ti_35, ti_36, ti_38, ti_39, ti_40, ti_41, ti_42, ti_43, ti_44, ti_45, ti_46, ti_47, ti_48, ti_49, ti_50, ti_51, ti_52, ti_53, ti_54, ti_55, ti_56, ti_57, ti_58, ti_59, ti_60, ti_61, ti_62, ti_63, ti_64, ti_65, ti_74, ti_77, ti_126, ti_200, ti_201, ti_202, ti_203, ti_204, ti_205, ti_210, ti_255, ti_256, ti_400, ti_512, ti_600, ti_601, ti_602, ti_1000, ti_1023, ti_1024, ti_2000, ti_10000, ti_12602, ti_999999, ti_m999999, ti_m1, ti_2000000, ti_3000000, xN_1, xN_4, xN_5, xN_60, xN_61, xN_64, xN_200, xN_800, xN_12000, xN_12602, eq_self, and_self, and_true, true_and, if_true, if_false, decide_true, Nat.reduceLeDiff, xc2_int, xc2_ref, xc2_ra, xc2_null, xc2_long, xc2_none, xisaT_ref, xisaT_ra, xisaT_null, xc1T_int, xc1T_ref, xc1T_ra, xc1T_null, xsum_nil, xsum_int, xsum_ref, xsum_ra, xsum_long, xsum_double, xsum_null, xfl_nil, xfl_int, xfl_ref, xfl_ra, xfl_null, xfl_long, xfl_double, List.length_cons, List.length_nil, s0, hic, h0, not_true_eq_false, xfk, xfv, xak, xan, xcls, xsv', List.getElem?_cons_zero, List.getElem?_cons_succ, List.getD_cons_zero, List.getD_cons_succ, Option.getD_some, Option.isSome_some, if_true, if_pos, xcont, Option.toList_none, Option.toList_some, List.nil_append, List.cons_append]
  · unfold isB at h
    obtain ⟨b1, b2⟩ := id h
    have b3 : z < 12602 := by omega
    simp only [if_pos h] at hic
    have hI0 : MdI (gs g m 11 0) m P A sn H := MdI_slot (by decide) hI
    obtain ⟨r, er⟩ : ∃ r, g (m + 1) = r := ⟨_, rfl⟩
    have er0 : gs g m 11 0 (m + 1) = r := by rw [gs_row _ _ _ (by omega)]; exact er
    have hM : ShM r A := by rw [← er]; exact hI.2.1.2.1
    have hG : rgR r := by rw [← er]; exact hI.2.2.1 1 (by decide) (by decide)
    have hA := hI.2.1.2.2
    obtain ⟨G1, eG1⟩ : ∃ G1, G1 = gs (gs g m 11 0) (m + 1) z 0 := ⟨_, rfl⟩
    have eG1' : G1 (m + 1) = fun j => if j = z then 0 else r j := by rw [eG1, gs_gr_row, gr_hit, er0]
    have hP1 : MdP G1 m P sn H := by rw [eG1, gs_gr_row]; exact MdP_row1 (MdP_of hI0)
    have hT : TmR r (G1 (m + 1)) z 0 0 := by
      rw [eG1']
      refine ⟨if_pos rfl, fun e => absurd e (by decide), fun i i1 i2 => if_neg i1, fun i => ?_⟩
      dsimp only
      split
      · decide
      · exact hG i
    obtain ⟨G2, f2, p2, v2, k2⟩ := m_trial (X := X) (d := d + 5) hS hP1 hM hA h (.inl rfl) (fun e => absurd e (by decide)) hT
    have e2 : G2 (m + 1) = G1 (m + 1) := Fx_at f2 (by decide) (by decide)
    rw [← e2] at hT
    have hfa : ∀ Q, Cw X (d + 11) 368 [.ref m] (hp S G2) Q = Q (.inl (some (.int (iI (qErr (tmpA A z 0 0)))))) (hp S G2) := fun Q => by
      have hl := l_mfaulty (X := X) (d := d + 11) (g := G2) hS p2.2.1.2.1 200 0 0 (by decide) (by decide) Q
      have e : sumf (fun c => if G2 (m + 13) c = 0 then 0 else 1) 0 200 = qErr (tmpA A z 0 0) := sumf_congr 200 0 (fun j j1 j2 => by rw [(v2 j j1 (by omega)).1])
      rw [e, Int.zero_add] at hl
      rw [← hl, e368]
      simp (config := { decide := true }) only [w_iconst (pc' := 1) q368 d368_0 rfl, w_istore_n1 (pc' := 2) q368 d368_1 rfl, w_iconst (pc' := 3) q368 d368_2 rfl, w_istore_n2 (pc' := 4) q368 d368_3 rfl, gs_off, gs_off0, gs_0off, gs_2, xN_0, xN_2, xN_3, xN_6, xN_7, xN_8, xN_9, xN_10, xN_11, xN_12, xN_13, xN_14, xN_15, xN_16, xN_17, xN_18, xN_19, xN_20, xN_21, xN_22, xN_23, xN_24, xN_25, xN_26, xN_27, xN_28, xN_29, xN_30, xN_31, xN_32, xN_33, xN_34, xN_35, xN_36, xN_37, xN_38, xN_39, xN_40, xN_41, xN_42, xN_43, xN_44, xN_45, xN_46, xN_47, xN_48, xN_49, xN_50, xN_51, xN_52, xN_53, xN_54, xN_55, ti_0, ti_1, ti_2, ti_3, ti_4, ti_5, ti_6, ti_7, ti_8, ti_9, ti_10, ti_16, ti_19, ti_20, ti_29, ti_30, ti_31, ti_32, ti_35, ti_36, ti_38, ti_39, ti_40, ti_41, ti_42, ti_43, ti_44, ti_45, ti_46, ti_47, ti_48, ti_49, ti_50, ti_51, ti_52, ti_53, ti_54, ti_55, ti_56, ti_57, ti_58, ti_59, ti_60, ti_61, ti_62, ti_63, ti_64, ti_65, ti_74, ti_77, ti_126, ti_200, ti_201, ti_202, ti_203, ti_204, ti_205, ti_210, ti_255, ti_256, ti_400, ti_512, ti_600, ti_601, ti_602, ti_1000, ti_1023, ti_1024, ti_2000, ti_10000, ti_12602, ti_999999, ti_m999999, ti_m1, ti_2000000, ti_3000000, xN_1, xN_4, xN_5, xN_60, xN_61, xN_64, xN_200, xN_800, xN_12000, xN_12602, eq_self, and_self, and_true, true_and, if_true, if_false, decide_true, Nat.reduceLeDiff, xc2_int, xc2_ref, xc2_ra, xc2_null, xc2_long, xc2_none, xisaT_ref, xisaT_ra, xisaT_null, xc1T_int, xc1T_ref, xc1T_ra, xc1T_null, xsum_nil, xsum_int, xsum_ref, xsum_ra, xsum_long, xsum_double, xsum_null, xfl_nil, xfl_int, xfl_ref, xfl_ra, xfl_null, xfl_long, xfl_double, List.length_cons, List.length_nil, xfk, xfv, xak, xan, xcls, xsv', List.getElem?_cons_zero, List.getElem?_cons_succ, List.getD_cons_zero, List.getD_cons_succ, Option.getD_some, Option.isSome_some, if_true, if_pos, xcont, Option.toList_none, Option.toList_some, List.nil_append, List.cons_append]
    have hnum : gs G2 (m + 1) z (r z) (m + 1) (200 + z) = r (200 + z) := by
      rw [gs_at, if_neg (by omega), e2, eG1']
      exact if_neg (by omega)
    obtain ⟨g', f3, i3, q3, k3⟩ := m_untrial (X := X) (d := d + 5) hS p2 hM hA hG hT
    have e200 : gs (gs G2 (m + 1) z (r z)) (m + 1) (200 + z) (r (200 + z)) = gs G2 (m + 1) z (r z) := by
      rw [← hnum, gs_self]
    rw [e200] at k3
    refine ⟨g', Fm_trans Fm_slot (Fm_trans (show Fm (gs g m 11 0) G1 m by rw [eG1, gs_gr_row (gs g m 11 0)]; exact Fm_row (j := 1) (by decide)) (Fm_trans (Fm_C f2) f3)), i3, ?_, fun Q => ?_⟩
    · rw [q3, Fx_sl f2 (by decide), eG1, gs_row _ _ _ (by omega), gs_at, if_pos rfl]
    · rw [eG1] at k2
      have erz : g (m + 1) z = r z := by rw [er]
      rw [e379]
      simp (config := { decide := true }) only [w_aload_n0 (pc' := 1) q379 d379_0 rfl, w_iload_n1 (pc' := 2) q379 d379_1 rfl, w_invs1 (pc' := 5) q379 d379_2 rfl (by decide +kernel) k379_392_99 m262.1, w_invv1 (ci := 11) (pc' := 8) q379 d379_5 rfl n379_395 k379_395_11 m263.1, w_if_ne (tg := 13) (pc' := 11) q379 d379_8 (by decide) rfl, w_iconst (pc' := 12) q379 d379_11 rfl, w_ireturn q379 d379_12 m379.2.1, w_aload_n0 (pc' := 14) q379 d379_13 rfl, w_getV (pc' := 17) q379 d379_14 rfl f379_7, w_iload_n1 (pc' := 18) q379 d379_17 rfl, w_iaload (pc' := 19) q379 d379_18 rfl, w_istore_n2 (pc' := 20) q379 d379_19 rfl, w_aload_n0 (pc' := 21) q379 d379_20 rfl, w_getV (pc' := 24) q379 d379_21 rfl f379_7, w_iload_n1 (pc' := 25) q379 d379_24 rfl, w_iconst (pc' := 26) q379 d379_25 rfl, w_iastore (pc' := 27) q379 d379_26 rfl, w_aload_n0 (pc' := 28) q379 d379_27 rfl, w_invv0 (ci := 11) (pc' := 31) q379 d379_28 rfl n379_261 k379_261_11 m271.1, w_aload_n0 (pc' := 32) q379 d379_31 rfl, w_invv0 (ci := 11) (pc' := 35) q379 d379_32 rfl n379_546 k379_546_11 m368.1, w_istore_n3 (pc' := 36) q379 d379_35 rfl, w_aload_n0 (pc' := 37) q379 d379_36 rfl, w_getV (pc' := 40) q379 d379_37 rfl f379_7, w_iload_n1 (pc' := 41) q379 d379_40 rfl, w_iload_n2 (pc' := 42) q379 d379_41 rfl, w_iastore (pc' := 43) q379 d379_42 rfl, w_aload_n0 (pc' := 44) q379 d379_43 rfl, w_invv0 (ci := 11) (pc' := 47) q379 d379_44 rfl n379_261 k379_261_11 m271.1, w_iload_n3 (pc' := 48) q379 d379_47 rfl, w_ireturn q379 d379_48 m379.2.1, gs_off, gs_off0, gs_0off, gs_2, xN_0, xN_2, xN_3, xN_6, xN_7, xN_8, xN_9, xN_10, xN_11, xN_12, xN_13, xN_14, xN_15, xN_16, xN_17, xN_18, xN_19, xN_20, xN_21, xN_22, xN_23, xN_24, xN_25, xN_26, xN_27, xN_28, xN_29, xN_30, xN_31, xN_32, xN_33, xN_34, xN_35, xN_36, xN_37, xN_38, xN_39, xN_40, xN_41, xN_42, xN_43, xN_44, xN_45, xN_46, xN_47, xN_48, xN_49, xN_50, xN_51, xN_52, xN_53, xN_54, xN_55, ti_0, ti_1, ti_2, ti_3, ti_4, ti_5, ti_6, ti_7, ti_8, ti_9, ti_10, ti_16, ti_19, ti_20, ti_29, ti_30, ti_31, ti_32, ti_35, ti_36, ti_38, ti_39, ti_40, ti_41, ti_42, ti_43, ti_44, ti_45, ti_46, ti_47, ti_48, ti_49, ti_50, ti_51, ti_52, ti_53, ti_54, ti_55, ti_56, ti_57, ti_58, ti_59, ti_60, ti_61, ti_62, ti_63, ti_64, ti_65, ti_74, ti_77, ti_126, ti_200, ti_201, ti_202, ti_203, ti_204, ti_205, ti_210, ti_255, ti_256, ti_400, ti_512, ti_600, ti_601, ti_602, ti_1000, ti_1023, ti_1024, ti_2000, ti_10000, ti_12602, ti_999999, ti_m999999, ti_m1, ti_2000000, ti_3000000, xN_1, xN_4, xN_5, xN_60, xN_61, xN_64, xN_200, xN_800, xN_12000, xN_12602, eq_self, and_self, and_true, true_and, if_true, if_false, decide_true, Nat.reduceLeDiff, xc2_int, xc2_ref, xc2_ra, xc2_null, xc2_long, xc2_none, xisaT_ref, xisaT_ra, xisaT_null, xc1T_int, xc1T_ref, xc1T_ra, xc1T_null, xsum_nil, xsum_int, xsum_ref, xsum_ra, xsum_long, xsum_double, xsum_null, xfl_nil, xfl_int, xfl_ref, xfl_ra, xfl_null, xfl_long, xfl_double, List.length_cons, List.length_nil, s0, s1, hic, h1, tz, b1, b3, er, k2, hfa, k3, not_true_eq_false, not_false_eq_true, xfk, xfv, xak, xan, xcls, xsv', List.getElem?_cons_zero, List.getElem?_cons_succ, List.getD_cons_zero, List.getD_cons_succ, Option.getD_some, Option.isSome_some, if_true, if_pos, xcont, Option.toList_none, Option.toList_some, List.nil_append, List.cons_append]
theorem m_valueIf {z y a : Int} (hS : MdS S m) (hI : MdI g m P A sn H) (tz : ti z = z) (ty : ti y = y) (ta : ti a = a) :
    (¬ (isB z ∧ isB a ∧ -999999 ≤ y ∧ y ≤ 999999) → MRs X S g m 377 (d + 12) [.ref m, .int (iI z), .int (iI y), .int (iI a)] 1 (.int (iI 0)) P A sn H) ∧
    (isB z ∧ isB a ∧ -999999 ≤ y ∧ y ≤ 999999 → ¬ flA (tmpA A z 1 y) a ≤ 0 → MRs X S g m 377 (d + 12) [.ref m, .int (iI z), .int (iI y), .int (iI a)] 2 (.int (iI 0)) P A sn H) ∧
    (isB z ∧ isB a ∧ -999999 ≤ y ∧ y ≤ 999999 → flA (tmpA A z 1 y) a ≤ 0 → MRs X S g m 377 (d + 12) [.ref m, .int (iI z), .int (iI y), .int (iI a)] 0 (.int (iI (vlA (tmpA A z 1 y) a))) P A sn H) := by
  have s0 := hS.1
  have s1 := MdS_1 hS
  have s12 := MdS_12 hS
  have s13 := MdS_13 hS
  have hic := fun w => m_isCell (X := X) (d := d + 10) (w := w) tz
  have hia := fun w => m_isCell (X := X) (d := d + 10) (w := w) ta
  have hin := fun w Q => m_in (X := X) (d := d + 11) (w := w) (Q := Q) y (-999999) 999999
  simp only [ty, ti_999999, ti_m999999] at hin
  have has := fun G b hb => m_asks (X := X) (d := d + 11) (g := G) (b := b) hS hb
  have hfl := fun G => m_fails (X := X) (d := d + 11) (g := G) (z := 2) hS
  have h0 := fun G => has G 0 (.inl rfl)
  have h1 := fun G => has G 1 (.inr rfl)
  simp only [show (1 : Int) - 0 = 1 from rfl, show (1 : Int) - 1 = 0 from rfl] at h0 h1
  have core : isB z ∧ isB a ∧ -999999 ≤ y ∧ y ≤ 999999 → ∃ g', Fm g g' m ∧ MdI g' m P A sn H ∧ g' m 11 = 0 ∧ ti (flA (tmpA A z 1 y) a) = flA (tmpA A z 1 y) a ∧ ∀ Q, Cw X (d + 12) 377 [.ref m, .int (iI z), .int (iI y), .int (iI a)] (hp S g) Q = Wx X (d + 12) 377 123 [some (.ref m), some (.int (iI z)), some (.int (iI y)), some (.int (iI a)), some (.int (iI (g (m + 1) z))), some (.int (iI (g (m + 1) (200 + z)))), some (.int (iI (flA (tmpA A z 1 y) a))), some (.int (iI (vlA (tmpA A z 1 y) a)))] [] (hp S g') Q := fun ⟨hz, ha, hy⟩ => by
    unfold isB at hz ha
    obtain ⟨b1, b2⟩ := id hz
    obtain ⟨a1, a2⟩ := id ha
    have b3 : z < 12602 := by omega
    have b4 : 0 ≤ 200 + z := by omega
    have b5 : 200 + z < 12602 := by omega
    have t2 : ti (200 + z) = 200 + z := ti_eq (by omega) (by omega)
    simp only [if_pos hz] at hic
    simp only [if_pos ha] at hia
    simp only [if_pos hy] at hin
    have hI0 : MdI (gs g m 11 0) m P A sn H := MdI_slot (by decide) hI
    obtain ⟨r, er⟩ : ∃ r, g (m + 1) = r := ⟨_, rfl⟩
    have er0 : gs g m 11 0 (m + 1) = r := by rw [gs_row _ _ _ (by omega)]; exact er
    have hM : ShM r A := by rw [← er]; exact hI.2.1.2.1
    have hG : rgR r := by rw [← er]; exact hI.2.2.1 1 (by decide) (by decide)
    have hA := hI.2.1.2.2
    obtain ⟨G1, eG1⟩ : ∃ G1, G1 = gs (gs (gs g m 11 0) (m + 1) z 1) (m + 1) (200 + z) y := ⟨_, rfl⟩
    have eG0 : G1 = gr (gs g m 11 0) (m + 1) (fun j => if j = 200 + z then y else if j = z then 1 else r j) := by
      rw [eG1, gs_gr_row, gs_gr_row (gs g m 11 0), gr_gr, gr_hit, er0]
    have eG1' : G1 (m + 1) = fun j => if j = 200 + z then y else if j = z then 1 else r j := by rw [eG0, gr_hit]
    have hP1 : MdP G1 m P sn H := by rw [eG0]; exact MdP_row1 (MdP_of hI0)
    have hT : TmR r (G1 (m + 1)) z 1 y := by
      rw [eG1']
      refine ⟨?_, fun _ => if_pos rfl, fun i i1 i2 => ?_, fun i => ?_⟩
      · dsimp only; rw [if_neg (by omega), if_pos rfl]
      · dsimp only; rw [if_neg i2, if_neg i1]
      · dsimp only
        split
        · omega
        · split
          · decide
          · exact hG i
    obtain ⟨G2, f2, p2, v2, k2⟩ := m_trial (X := X) (d := d + 5) hS hP1 hM hA hz (.inr rfl) (fun _ => hy) hT
    have e2 : G2 (m + 1) = G1 (m + 1) := Fx_at f2 (by decide) (by decide)
    rw [← e2] at hT
    obtain ⟨u1, u2⟩ := v2 a a1 a2
    obtain ⟨g', f3, i3, q3, k3⟩ := m_untrial (X := X) (d := d + 5) hS p2 hM hA hG hT
    refine ⟨g', Fm_trans Fm_slot (Fm_trans (show Fm (gs g m 11 0) G1 m by rw [eG0]; exact Fm_row (j := 1) (by decide)) (Fm_trans (Fm_C f2) f3)), i3, ?_, ?_, fun Q => ?_⟩
    · rw [q3, Fx_sl f2 (by decide), eG0, gr_row _ _ (by omega), gs_at, if_pos rfl]
    · have hh := p2.2.1.2.1 a
      rw [u1] at hh
      exact ti_eq (by omega) (by omega)
    · rw [eG1] at k2
      rw [er, e377]
      simp (config := { decide := true }) only [w_aload_n0 (pc' := 1) q377 d377_0 rfl, w_iload_n1 (pc' := 2) q377 d377_1 rfl, w_invs1 (pc' := 5) q377 d377_2 rfl (by decide +kernel) k377_392_99 m262.1, w_if_eq (tg := 32) (pc' := 8) q377 d377_5 (by decide) rfl, w_iload_n3 (pc' := 9) q377 d377_8 rfl, w_invs1 (pc' := 12) q377 d377_9 rfl (by decide +kernel) k377_392_99 m262.1, w_if_eq (tg := 32) (pc' := 15) q377 d377_12 (by decide) rfl, w_iload_n2 (pc' := 16) q377 d377_15 rfl, w_ldcw (z := (-999999)) (pc' := 19) q377 d377_16 rfl (by decide +kernel), w_ldcw (z := (999999)) (pc' := 22) q377 d377_19 rfl (by decide +kernel), w_invs3 (pc' := 25) q377 d377_22 rfl (by decide +kernel) k377_91_99 m232.1, w_if_eq (tg := 32) (pc' := 28) q377 d377_25 (by decide) rfl, w_iconst (pc' := 29) q377 d377_28 rfl, w_goto (tg := 33) q377 d377_29 (by decide), w_iconst (pc' := 33) q377 d377_32 rfl, w_invv1 (ci := 11) (pc' := 36) q377 d377_33 rfl n377_395 k377_395_11 m263.1, w_if_ne (tg := 41) (pc' := 39) q377 d377_36 (by decide) rfl, w_iconst (pc' := 40) q377 d377_39 rfl, w_ireturn q377 d377_40 m377.2.1, w_aload_n0 (pc' := 42) q377 d377_41 rfl, w_getV (pc' := 45) q377 d377_42 rfl f377_7, w_iload_n1 (pc' := 46) q377 d377_45 rfl, w_iaload (pc' := 47) q377 d377_46 rfl, w_istore4 (pc' := 49) q377 d377_47 rfl, w_aload_n0 (pc' := 50) q377 d377_49 rfl, w_getV (pc' := 53) q377 d377_50 rfl f377_7, w_sipush (z' := (200)) (pc' := 56) q377 d377_53 rfl (by decide), w_iload_n1 (pc' := 57) q377 d377_56 rfl, w_iadd (pc' := 58) q377 d377_57 rfl, w_iaload (pc' := 59) q377 d377_58 rfl, w_istore5 (pc' := 61) q377 d377_59 rfl, w_aload_n0 (pc' := 62) q377 d377_61 rfl, w_getV (pc' := 65) q377 d377_62 rfl f377_7, w_iload_n1 (pc' := 66) q377 d377_65 rfl, w_iconst (pc' := 67) q377 d377_66 rfl, w_iastore (pc' := 68) q377 d377_67 rfl, w_aload_n0 (pc' := 69) q377 d377_68 rfl, w_getV (pc' := 72) q377 d377_69 rfl f377_7, w_sipush (z' := (200)) (pc' := 75) q377 d377_72 rfl (by decide), w_iload_n1 (pc' := 76) q377 d377_75 rfl, w_iadd (pc' := 77) q377 d377_76 rfl, w_iload_n2 (pc' := 78) q377 d377_77 rfl, w_iastore (pc' := 79) q377 d377_78 rfl, w_aload_n0 (pc' := 80) q377 d377_79 rfl, w_invv0 (ci := 11) (pc' := 83) q377 d377_80 rfl n377_261 k377_261_11 m271.1, w_aload_n0 (pc' := 84) q377 d377_83 rfl, w_getV (pc' := 87) q377 d377_84 rfl f377_47, w_iload_n3 (pc' := 88) q377 d377_87 rfl, w_iaload (pc' := 89) q377 d377_88 rfl, w_istore6 (pc' := 91) q377 d377_89 rfl, w_aload_n0 (pc' := 92) q377 d377_91 rfl, w_getV (pc' := 95) q377 d377_92 rfl f377_44, w_iload_n3 (pc' := 96) q377 d377_95 rfl, w_iaload (pc' := 97) q377 d377_96 rfl, w_istore7 (pc' := 99) q377 d377_97 rfl, w_aload_n0 (pc' := 100) q377 d377_99 rfl, w_getV (pc' := 103) q377 d377_100 rfl f377_7, w_iload_n1 (pc' := 104) q377 d377_103 rfl, w_iload4 (pc' := 106) q377 d377_104 rfl, w_iastore (pc' := 107) q377 d377_106 rfl, w_aload_n0 (pc' := 108) q377 d377_107 rfl, w_getV (pc' := 111) q377 d377_108 rfl f377_7, w_sipush (z' := (200)) (pc' := 114) q377 d377_111 rfl (by decide), w_iload_n1 (pc' := 115) q377 d377_114 rfl, w_iadd (pc' := 116) q377 d377_115 rfl, w_iload5 (pc' := 118) q377 d377_116 rfl, w_iastore (pc' := 119) q377 d377_118 rfl, w_aload_n0 (pc' := 120) q377 d377_119 rfl, w_invv0 (ci := 11) (pc' := 123) q377 d377_120 rfl n377_261 k377_261_11 m271.1, gs_off, gs_off0, gs_0off, gs_2, xN_0, xN_2, xN_3, xN_6, xN_7, xN_8, xN_9, xN_10, xN_11, xN_12, xN_13, xN_14, xN_15, xN_16, xN_17, xN_18, xN_19, xN_20, xN_21, xN_22, xN_23, xN_24, xN_25, xN_26, xN_27, xN_28, xN_29, xN_30, xN_31, xN_32, xN_33, xN_34, xN_35, xN_36, xN_37, xN_38, xN_39, xN_40, xN_41, xN_42, xN_43, xN_44, xN_45, xN_46, xN_47, xN_48, xN_49, xN_50, xN_51, xN_52, xN_53, xN_54, xN_55, ti_0, ti_1, ti_2, ti_3, ti_4, ti_5, ti_6, ti_7, ti_8, ti_9, ti_10, ti_16, ti_19, ti_20, ti_29, ti_30, ti_31, ti_32, ti_35, ti_36, ti_38, ti_39, ti_40, ti_41, ti_42, ti_43, ti_44, ti_45, ti_46, ti_47, ti_48, ti_49, ti_50, ti_51, ti_52, ti_53, ti_54, ti_55, ti_56, ti_57, ti_58, ti_59, ti_60, ti_61, ti_62, ti_63, ti_64, ti_65, ti_74, ti_77, ti_126, ti_200, ti_201, ti_202, ti_203, ti_204, ti_205, ti_210, ti_255, ti_256, ti_400, ti_512, ti_600, ti_601, ti_602, ti_1000, ti_1023, ti_1024, ti_2000, ti_10000, ti_12602, ti_999999, ti_m999999, ti_m1, ti_2000000, ti_3000000, xN_1, xN_4, xN_5, xN_60, xN_61, xN_64, xN_200, xN_800, xN_12000, xN_12602, eq_self, and_self, and_true, true_and, if_true, if_false, decide_true, Nat.reduceLeDiff, xc2_int, xc2_ref, xc2_ra, xc2_null, xc2_long, xc2_none, xisaT_ref, xisaT_ra, xisaT_null, xc1T_int, xc1T_ref, xc1T_ra, xc1T_null, xsum_nil, xsum_int, xsum_ref, xsum_ra, xsum_long, xsum_double, xsum_null, xfl_nil, xfl_int, xfl_ref, xfl_ra, xfl_null, xfl_long, xfl_double, List.length_cons, List.length_nil, s0, s1, s12, s13, hic, hia, hin, h1, tz, ta, t2, b1, b3, b4, b5, a1, a2, er, k2, u1, u2, k3, not_true_eq_false, not_false_eq_true, xfk, xfv, xak, xan, xcls, xsv', List.getElem?_cons_zero, List.getElem?_cons_succ, List.getD_cons_zero, List.getD_cons_succ, Option.getD_some, Option.isSome_some, if_true, if_pos, xcont, Option.toList_none, Option.toList_some, List.nil_append, List.cons_append]
  refine ⟨fun h => MR_bad hI fun Q => ?_, fun h hf => ?_, fun h hf => ?_⟩
  · rw [e377]
    by_cases hz : 0 ≤ z ∧ z < 200
    · simp only [if_pos hz] at hic
      by_cases ha : 0 ≤ a ∧ a < 200
      · have hy : ¬ (-999999 ≤ y ∧ y ≤ 999999) := fun e => h ⟨hz, ha, e⟩
        simp only [if_pos ha] at hia
        simp only [if_neg hy] at hin
        simp (config := { decide := true }) only [w_aload_n0 (pc' := 1) q377 d377_0 rfl, w_iload_n1 (pc' := 2) q377 d377_1 rfl, w_invs1 (pc' := 5) q377 d377_2 rfl (by decide +kernel) k377_392_99 m262.1, w_if_eq (tg := 32) (pc' := 8) q377 d377_5 (by decide) rfl, w_iload_n3 (pc' := 9) q377 d377_8 rfl, w_invs1 (pc' := 12) q377 d377_9 rfl (by decide +kernel) k377_392_99 m262.1, w_if_eq (tg := 32) (pc' := 15) q377 d377_12 (by decide) rfl, w_iload_n2 (pc' := 16) q377 d377_15 rfl, w_ldcw (z := (-999999)) (pc' := 19) q377 d377_16 rfl (by decide +kernel), w_ldcw (z := (999999)) (pc' := 22) q377 d377_19 rfl (by decide +kernel), w_invs3 (pc' := 25) q377 d377_22 rfl (by decide +kernel) k377_91_99 m232.1, w_if_eq (tg := 32) (pc' := 28) q377 d377_25 (by decide) rfl, w_iconst (pc' := 29) q377 d377_28 rfl, w_goto (tg := 33) q377 d377_29 (by decide), w_iconst (pc' := 33) q377 d377_32 rfl, w_invv1 (ci := 11) (pc' := 36) q377 d377_33 rfl n377_395 k377_395_11 m263.1, w_if_ne (tg := 41) (pc' := 39) q377 d377_36 (by decide) rfl, w_iconst (pc' := 40) q377 d377_39 rfl, w_ireturn q377 d377_40 m377.2.1, gs_off, gs_off0, gs_0off, gs_2, xN_0, xN_2, xN_3, xN_6, xN_7, xN_8, xN_9, xN_10, xN_11, xN_12, xN_13, xN_14, xN_15, xN_16, xN_17, xN_18, xN_19, xN_20, xN_21, xN_22, xN_23, xN_24, xN_25, xN_26, xN_27, xN_28, xN_29, xN_30, xN_31, xN_32, xN_33, xN_34, xN_35, xN_36, xN_37, xN_38, xN_39, xN_40, xN_41, xN_42, xN_43, xN_44, xN_45, xN_46, xN_47, xN_48, xN_49, xN_50, xN_51, xN_52, xN_53, xN_54, xN_55, ti_0, ti_1, ti_2, ti_3, ti_4, ti_5, ti_6, ti_7, ti_8, ti_9, ti_10, ti_16, ti_19, ti_20, ti_29, ti_30, ti_31, ti_32, ti_35, ti_36, ti_38, ti_39, ti_40, ti_41, ti_42, ti_43, ti_44, ti_45, ti_46, ti_47, ti_48, ti_49, ti_50, ti_51, ti_52, ti_53, ti_54, ti_55, ti_56, ti_57, ti_58, ti_59, ti_60, ti_61, ti_62, ti_63, ti_64, ti_65, ti_74, ti_77, ti_126, ti_200, ti_201, ti_202, ti_203, ti_204, ti_205, ti_210, ti_255, ti_256, ti_400, ti_512, ti_600, ti_601, ti_602, ti_1000, ti_1023, ti_1024, ti_2000, ti_10000, ti_12602, ti_999999, ti_m999999, ti_m1, ti_2000000, ti_3000000, xN_1, xN_4, xN_5, xN_60, xN_61, xN_64, xN_200, xN_800, xN_12000, xN_12602, eq_self, and_self, and_true, true_and, if_true, if_false, decide_true, Nat.reduceLeDiff, xc2_int, xc2_ref, xc2_ra, xc2_null, xc2_long, xc2_none, xisaT_ref, xisaT_ra, xisaT_null, xc1T_int, xc1T_ref, xc1T_ra, xc1T_null, xsum_nil, xsum_int, xsum_ref, xsum_ra, xsum_long, xsum_double, xsum_null, xfl_nil, xfl_int, xfl_ref, xfl_ra, xfl_null, xfl_long, xfl_double, List.length_cons, List.length_nil, s0, hic, hia, hin, h0, not_true_eq_false, xfk, xfv, xak, xan, xcls, xsv', List.getElem?_cons_zero, List.getElem?_cons_succ, List.getD_cons_zero, List.getD_cons_succ, Option.getD_some, Option.isSome_some, if_true, if_pos, xcont, Option.toList_none, Option.toList_some, List.nil_append, List.cons_append]
      · simp only [if_neg ha] at hia
        simp (config := { decide := true }) only [w_aload_n0 (pc' := 1) q377 d377_0 rfl, w_iload_n1 (pc' := 2) q377 d377_1 rfl, w_invs1 (pc' := 5) q377 d377_2 rfl (by decide +kernel) k377_392_99 m262.1, w_if_eq (tg := 32) (pc' := 8) q377 d377_5 (by decide) rfl, w_iload_n3 (pc' := 9) q377 d377_8 rfl, w_invs1 (pc' := 12) q377 d377_9 rfl (by decide +kernel) k377_392_99 m262.1, w_if_eq (tg := 32) (pc' := 15) q377 d377_12 (by decide) rfl, w_iload_n2 (pc' := 16) q377 d377_15 rfl, w_ldcw (z := (-999999)) (pc' := 19) q377 d377_16 rfl (by decide +kernel), w_ldcw (z := (999999)) (pc' := 22) q377 d377_19 rfl (by decide +kernel), w_invs3 (pc' := 25) q377 d377_22 rfl (by decide +kernel) k377_91_99 m232.1, w_if_eq (tg := 32) (pc' := 28) q377 d377_25 (by decide) rfl, w_iconst (pc' := 29) q377 d377_28 rfl, w_goto (tg := 33) q377 d377_29 (by decide), w_iconst (pc' := 33) q377 d377_32 rfl, w_invv1 (ci := 11) (pc' := 36) q377 d377_33 rfl n377_395 k377_395_11 m263.1, w_if_ne (tg := 41) (pc' := 39) q377 d377_36 (by decide) rfl, w_iconst (pc' := 40) q377 d377_39 rfl, w_ireturn q377 d377_40 m377.2.1, gs_off, gs_off0, gs_0off, gs_2, xN_0, xN_2, xN_3, xN_6, xN_7, xN_8, xN_9, xN_10, xN_11, xN_12, xN_13, xN_14, xN_15, xN_16, xN_17, xN_18, xN_19, xN_20, xN_21, xN_22, xN_23, xN_24, xN_25, xN_26, xN_27, xN_28, xN_29, xN_30, xN_31, xN_32, xN_33, xN_34, xN_35, xN_36, xN_37, xN_38, xN_39, xN_40, xN_41, xN_42, xN_43, xN_44, xN_45, xN_46, xN_47, xN_48, xN_49, xN_50, xN_51, xN_52, xN_53, xN_54, xN_55, ti_0, ti_1, ti_2, ti_3, ti_4, ti_5, ti_6, ti_7, ti_8, ti_9, ti_10, ti_16, ti_19, ti_20, ti_29, ti_30, ti_31, ti_32, ti_35, ti_36, ti_38, ti_39, ti_40, ti_41, ti_42, ti_43, ti_44, ti_45, ti_46, ti_47, ti_48, ti_49, ti_50, ti_51, ti_52, ti_53, ti_54, ti_55, ti_56, ti_57, ti_58, ti_59, ti_60, ti_61, ti_62, ti_63, ti_64, ti_65, ti_74, ti_77, ti_126, ti_200, ti_201, ti_202, ti_203, ti_204, ti_205, ti_210, ti_255, ti_256, ti_400, ti_512, ti_600, ti_601, ti_602, ti_1000, ti_1023, ti_1024, ti_2000, ti_10000, ti_12602, ti_999999, ti_m999999, ti_m1, ti_2000000, ti_3000000, xN_1, xN_4, xN_5, xN_60, xN_61, xN_64, xN_200, xN_800, xN_12000, xN_12602, eq_self, and_self, and_true, true_and, if_true, if_false, decide_true, Nat.reduceLeDiff, xc2_int, xc2_ref, xc2_ra, xc2_null, xc2_long, xc2_none, xisaT_ref, xisaT_ra, xisaT_null, xc1T_int, xc1T_ref, xc1T_ra, xc1T_null, xsum_nil, xsum_int, xsum_ref, xsum_ra, xsum_long, xsum_double, xsum_null, xfl_nil, xfl_int, xfl_ref, xfl_ra, xfl_null, xfl_long, xfl_double, List.length_cons, List.length_nil, s0, hic, hia, h0, not_true_eq_false, xfk, xfv, xak, xan, xcls, xsv', List.getElem?_cons_zero, List.getElem?_cons_succ, List.getD_cons_zero, List.getD_cons_succ, Option.getD_some, Option.isSome_some, if_true, if_pos, xcont, Option.toList_none, Option.toList_some, List.nil_append, List.cons_append]
    · simp only [if_neg hz] at hic
      simp (config := { decide := true }) only [w_aload_n0 (pc' := 1) q377 d377_0 rfl, w_iload_n1 (pc' := 2) q377 d377_1 rfl, w_invs1 (pc' := 5) q377 d377_2 rfl (by decide +kernel) k377_392_99 m262.1, w_if_eq (tg := 32) (pc' := 8) q377 d377_5 (by decide) rfl, w_iload_n3 (pc' := 9) q377 d377_8 rfl, w_invs1 (pc' := 12) q377 d377_9 rfl (by decide +kernel) k377_392_99 m262.1, w_if_eq (tg := 32) (pc' := 15) q377 d377_12 (by decide) rfl, w_iload_n2 (pc' := 16) q377 d377_15 rfl, w_ldcw (z := (-999999)) (pc' := 19) q377 d377_16 rfl (by decide +kernel), w_ldcw (z := (999999)) (pc' := 22) q377 d377_19 rfl (by decide +kernel), w_invs3 (pc' := 25) q377 d377_22 rfl (by decide +kernel) k377_91_99 m232.1, w_if_eq (tg := 32) (pc' := 28) q377 d377_25 (by decide) rfl, w_iconst (pc' := 29) q377 d377_28 rfl, w_goto (tg := 33) q377 d377_29 (by decide), w_iconst (pc' := 33) q377 d377_32 rfl, w_invv1 (ci := 11) (pc' := 36) q377 d377_33 rfl n377_395 k377_395_11 m263.1, w_if_ne (tg := 41) (pc' := 39) q377 d377_36 (by decide) rfl, w_iconst (pc' := 40) q377 d377_39 rfl, w_ireturn q377 d377_40 m377.2.1, gs_off, gs_off0, gs_0off, gs_2, xN_0, xN_2, xN_3, xN_6, xN_7, xN_8, xN_9, xN_10, xN_11, xN_12, xN_13, xN_14, xN_15, xN_16, xN_17, xN_18, xN_19, xN_20, xN_21, xN_22, xN_23, xN_24, xN_25, xN_26, xN_27, xN_28, xN_29, xN_30, xN_31, xN_32, xN_33, xN_34, xN_35, xN_36, xN_37, xN_38, xN_39, xN_40, xN_41, xN_42, xN_43, xN_44, xN_45, xN_46, xN_47, xN_48, xN_49, xN_50, xN_51, xN_52, xN_53, xN_54, xN_55, ti_0, ti_1, ti_2, ti_3, ti_4, ti_5, ti_6, ti_7, ti_8, ti_9, ti_10, ti_16, ti_19, ti_20, ti_29, ti_30, ti_31, ti_32, ti_35, ti_36, ti_38, ti_39, ti_40, ti_41, ti_42, ti_43, ti_44, ti_45, ti_46, ti_47, ti_48, ti_49, ti_50, ti_51, ti_52, ti_53, ti_54, ti_55, ti_56, ti_57, ti_58, ti_59, ti_60, ti_61, ti_62, ti_63, ti_64, ti_65, ti_74, ti_77, ti_126, ti_200, ti_201, ti_202, ti_203, ti_204, ti_205, ti_210, ti_255, ti_256, ti_400, ti_512, ti_600, ti_601, ti_602, ti_1000, ti_1023, ti_1024, ti_2000, ti_10000, ti_12602, ti_999999, ti_m999999, ti_m1, ti_2000000, ti_3000000, xN_1, xN_4, xN_5, xN_60, xN_61, xN_64, xN_200, xN_800, xN_12000, xN_12602, eq_self, and_self, and_true, true_and, if_true, if_false, decide_true, Nat.reduceLeDiff, xc2_int, xc2_ref, xc2_ra, xc2_null, xc2_long, xc2_none, xisaT_ref, xisaT_ra, xisaT_null, xc1T_int, xc1T_ref, xc1T_ra, xc1T_null, xsum_nil, xsum_int, xsum_ref, xsum_ra, xsum_long, xsum_double, xsum_null, xfl_nil, xfl_int, xfl_ref, xfl_ra, xfl_null, xfl_long, xfl_double, List.length_cons, List.length_nil, s0, hic, h0, not_true_eq_false, xfk, xfv, xak, xan, xcls, xsv', List.getElem?_cons_zero, List.getElem?_cons_succ, List.getD_cons_zero, List.getD_cons_succ, Option.getD_some, Option.isSome_some, if_true, if_pos, xcont, Option.toList_none, Option.toList_some, List.nil_append, List.cons_append]
  · obtain ⟨g', f1, i1, q1, tf, k1⟩ := core h
    refine ⟨gs g' m 11 2, Fm_trans f1 Fm_slot, MdI_slot (by decide) i1, by rw [gs_at, if_pos rfl], fun Q => ?_⟩
    rw [k1]
    simp (config := { decide := true }) only [w_iload6 (pc' := 125) q377 d377_123 rfl, w_if_le (tg := 136) (pc' := 128) q377 d377_125 (by decide) rfl, w_aload_n0 (pc' := 129) q377 d377_128 rfl, w_iconst (pc' := 130) q377 d377_129 rfl, w_invv1 (ci := 11) (pc' := 133) q377 d377_130 rfl n377_382 k377_382_11 m233.1, w_goto (tg := 138) q377 d377_133 (by decide), w_iload7 (pc' := 138) q377 d377_136 rfl, w_ireturn q377 d377_138 m377.2.1, gs_off, gs_off0, gs_0off, gs_2, xN_0, xN_2, xN_3, xN_6, xN_7, xN_8, xN_9, xN_10, xN_11, xN_12, xN_13, xN_14, xN_15, xN_16, xN_17, xN_18, xN_19, xN_20, xN_21, xN_22, xN_23, xN_24, xN_25, xN_26, xN_27, xN_28, xN_29, xN_30, xN_31, xN_32, xN_33, xN_34, xN_35, xN_36, xN_37, xN_38, xN_39, xN_40, xN_41, xN_42, xN_43, xN_44, xN_45, xN_46, xN_47, xN_48, xN_49, xN_50, xN_51, xN_52, xN_53, xN_54, xN_55, ti_0, ti_1, ti_2, ti_3, ti_4, ti_5, ti_6, ti_7, ti_8, ti_9, ti_10, ti_16, ti_19, ti_20, ti_29, ti_30, ti_31, ti_32, ti_35, ti_36, ti_38, ti_39, ti_40, ti_41, ti_42, ti_43, ti_44, ti_45, ti_46, ti_47, ti_48, ti_49, ti_50, ti_51, ti_52, ti_53, ti_54, ti_55, ti_56, ti_57, ti_58, ti_59, ti_60, ti_61, ti_62, ti_63, ti_64, ti_65, ti_74, ti_77, ti_126, ti_200, ti_201, ti_202, ti_203, ti_204, ti_205, ti_210, ti_255, ti_256, ti_400, ti_512, ti_600, ti_601, ti_602, ti_1000, ti_1023, ti_1024, ti_2000, ti_10000, ti_12602, ti_999999, ti_m999999, ti_m1, ti_2000000, ti_3000000, xN_1, xN_4, xN_5, xN_60, xN_61, xN_64, xN_200, xN_800, xN_12000, xN_12602, eq_self, and_self, and_true, true_and, if_true, if_false, decide_true, Nat.reduceLeDiff, xc2_int, xc2_ref, xc2_ra, xc2_null, xc2_long, xc2_none, xisaT_ref, xisaT_ra, xisaT_null, xc1T_int, xc1T_ref, xc1T_ra, xc1T_null, xsum_nil, xsum_int, xsum_ref, xsum_ra, xsum_long, xsum_double, xsum_null, xfl_nil, xfl_int, xfl_ref, xfl_ra, xfl_null, xfl_long, xfl_double, List.length_cons, List.length_nil, s0, tf, hf, hfl, xfk, xfv, xak, xan, xcls, xsv', List.getElem?_cons_zero, List.getElem?_cons_succ, List.getD_cons_zero, List.getD_cons_succ, Option.getD_some, Option.isSome_some, if_true, if_pos, xcont, Option.toList_none, Option.toList_some, List.nil_append, List.cons_append]
  · obtain ⟨g', f1, i1, q1, tf, k1⟩ := core h
    refine ⟨g', f1, i1, q1, fun Q => ?_⟩
    rw [k1]
    simp (config := { decide := true }) only [w_iload6 (pc' := 125) q377 d377_123 rfl, w_if_le (tg := 136) (pc' := 128) q377 d377_125 (by decide) rfl, w_aload_n0 (pc' := 129) q377 d377_128 rfl, w_iconst (pc' := 130) q377 d377_129 rfl, w_invv1 (ci := 11) (pc' := 133) q377 d377_130 rfl n377_382 k377_382_11 m233.1, w_goto (tg := 138) q377 d377_133 (by decide), w_iload7 (pc' := 138) q377 d377_136 rfl, w_ireturn q377 d377_138 m377.2.1, gs_off, gs_off0, gs_0off, gs_2, xN_0, xN_2, xN_3, xN_6, xN_7, xN_8, xN_9, xN_10, xN_11, xN_12, xN_13, xN_14, xN_15, xN_16, xN_17, xN_18, xN_19, xN_20, xN_21, xN_22, xN_23, xN_24, xN_25, xN_26, xN_27, xN_28, xN_29, xN_30, xN_31, xN_32, xN_33, xN_34, xN_35, xN_36, xN_37, xN_38, xN_39, xN_40, xN_41, xN_42, xN_43, xN_44, xN_45, xN_46, xN_47, xN_48, xN_49, xN_50, xN_51, xN_52, xN_53, xN_54, xN_55, ti_0, ti_1, ti_2, ti_3, ti_4, ti_5, ti_6, ti_7, ti_8, ti_9, ti_10, ti_16, ti_19, ti_20, ti_29, ti_30, ti_31, ti_32, ti_35, ti_36, ti_38, ti_39, ti_40, ti_41, ti_42, ti_43, ti_44, ti_45, ti_46, ti_47, ti_48, ti_49, ti_50, ti_51, ti_52, ti_53, ti_54, ti_55, ti_56, ti_57, ti_58, ti_59, ti_60, ti_61, ti_62, ti_63, ti_64, ti_65, ti_74, ti_77, ti_126, ti_200, ti_201, ti_202, ti_203, ti_204, ti_205, ti_210, ti_255, ti_256, ti_400, ti_512, ti_600, ti_601, ti_602, ti_1000, ti_1023, ti_1024, ti_2000, ti_10000, ti_12602, ti_999999, ti_m999999, ti_m1, ti_2000000, ti_3000000, xN_1, xN_4, xN_5, xN_60, xN_61, xN_64, xN_200, xN_800, xN_12000, xN_12602, eq_self, and_self, and_true, true_and, if_true, if_false, decide_true, Nat.reduceLeDiff, xc2_int, xc2_ref, xc2_ra, xc2_null, xc2_long, xc2_none, xisaT_ref, xisaT_ra, xisaT_null, xc1T_int, xc1T_ref, xc1T_ra, xc1T_null, xsum_nil, xsum_int, xsum_ref, xsum_ra, xsum_long, xsum_double, xsum_null, xfl_nil, xfl_int, xfl_ref, xfl_ra, xfl_null, xfl_long, xfl_double, List.length_cons, List.length_nil, s0, tf, hf, xfk, xfv, xak, xan, xcls, xsv', List.getElem?_cons_zero, List.getElem?_cons_succ, List.getD_cons_zero, List.getD_cons_succ, Option.getD_some, Option.isSome_some, if_true, if_pos, xcont, Option.toList_none, Option.toList_some, List.nil_append, List.cons_append]
end
