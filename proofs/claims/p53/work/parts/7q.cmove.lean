/-! The class: cells are moved -/
section
variable {X : xX} {S S' : xLm} {g g' G : xGm} {d c p k t o y b m j : Nat} {w : xH} {Q : xO → xH → Prop} {P P' : Pd} {A A' B : Sh} {sn : Option Sh} {H : List Sh}
theorem TL_rng {r : Int → Int} : ∀ (n : Nat) (s : Int), TL r s ((List.range n).map (fun i : Nat => r (s + i)))
  | 0, _ => trivial
  | n + 1, s => by
    rw [List.range_succ_eq_map, List.map_cons, List.map_map]
    refine ⟨by rw [show s + ((0 : Nat) : Int) = s by omega], ?_⟩
    have h := TL_rng n (s + 1) (r := r)
    have e : ((fun i : Nat => r (s + i)) ∘ Nat.succ) = fun i : Nat => r (s + 1 + i) := by
      funext i
      show r (s + ((i + 1 : Nat) : Int)) = r (s + 1 + i)
      congr 1
      omega
    rw [e]
    exact h
theorem tkl_TL {a : Nat} {x : Int} : TL (fun q => g (a + 5) (x * 60 + q)) 0 (tkl g a x) := by
  have h := TL_rng (r := fun q => g (a + 5) (x * 60 + q)) (g (a + 4) x).toNat 0
  have e : (fun i : Nat => (fun q => g (a + 5) (x * 60 + q)) (0 + (i : Int))) = fun i : Nat => g (a + 5) (x * 60 + i) := by
    funext i
    show g (a + 5) (x * 60 + (0 + (i : Int))) = _
    rw [Int.zero_add]
  rw [e] at h
  exact h
/-- a word of a moved cell's formula is counted -/
theorem mv_chg {fr to x : Int} (hf : 0 ≤ fr ∧ fr < 200) (ht : 0 ≤ to ∧ to < 200) (hne : ¬ fr = to) (hx : okW x) : (if tkF (mvS fr to) (fun s _ => s) x = x then (0 : Int) else 1) = if x % 8 = 2 then tcM fr to (x / 8) else 0 := by
  obtain ⟨h1, h2, h3, h4⟩ := hx
  unfold tkF tcM mvS
  by_cases e2 : x % 8 = 2
  · rw [if_pos e2, if_pos e2]
    have hs := h3 e2
    unfold okS at hs
    by_cases a1 : x / 8 % 256 = to
    · rw [if_pos a1, if_pos (show (-1 : Int) < 0 by decide), if_pos (show x / 8 % 256 = fr ∨ x / 8 % 256 = to from .inr a1), if_neg (show ¬ (4 : Int) = x by omega)]
    · rw [if_neg a1]
      by_cases a2 : x / 8 % 256 = fr
      · rw [if_pos a2, if_neg (show ¬ x / 8 - fr + to < 0 by omega), if_pos (show x / 8 % 256 = fr ∨ x / 8 % 256 = to from .inl a2), if_neg (show ¬ (x / 8 - fr + to) * 8 + 2 = x by omega)]
      · rw [if_neg a2, if_neg (show ¬ x / 8 < 0 by omega), if_neg (show ¬ (x / 8 % 256 = fr ∨ x / 8 % 256 = to) by omega), if_pos (show x / 8 * 8 + 2 = x by omega)]
  · rw [if_neg e2, if_neg e2]
    by_cases e3 : x % 8 = 3
    · rw [if_pos e3]
      have hs := h4 e3
      unfold okS at hs
      dsimp only
      rw [if_neg (show ¬ (x / 8 % 1024 < 0 ∨ x / 8 / 1024 % 1024 < 0) by omega), if_pos (show (x / 8 % 1024 + 1024 * (x / 8 / 1024 % 1024)) * 8 + 3 = x by omega)]
    · rw [if_neg e3, if_pos rfl]
theorem tcS_sum {fr to : Int} (hf : 0 ≤ fr ∧ fr < 200) (ht : 0 ≤ to ∧ to < 200) (hne : ¬ fr = to) {r : Int → Int} : ∀ (L : List Int) (s : Int), TL r s L → (∀ x ∈ L, okW x) → sumf (fun q => if tkF (mvS fr to) (fun s _ => s) (r q) = r q then 0 else 1) s L.length = tcS (tcM fr to) L
  | [], _, _, _ => rfl
  | x :: L, s, h, hk => by
    obtain ⟨h1, h2⟩ := h
    rw [List.length_cons, sumf, tcS, h1, mv_chg hf ht hne (hk x (List.mem_cons_self)), tcS_sum hf ht hne L (s + 1) h2 (fun y hy => hk y (List.mem_cons_of_mem _ hy))]
theorem mv_count {a : Nat} {fr to : Int} (hf : 0 ≤ fr ∧ fr < 200) (ht : 0 ≤ to ∧ to < 200) (hne : ¬ fr = to) (h : StC G a B) (hI : StI G a) (hB : ShOK B) : sumf (chg G a (tkF (mvS fr to) (fun s _ => s))) 0 200 = sumf (fun x => if B.1 x = 2 then tcS (tcM fr to) (B.2.2.1 x) else 0) 0 200 := by
  refine sumf_congr 200 0 (fun x x1 x2 => ?_)
  obtain ⟨⟨b1, b2, b3, b4⟩, -⟩ := h x x1 (by omega)
  have hl := tkl_len G a x
  unfold chg
  by_cases e : B.1 x = 2
  · rw [if_pos e]
    have hT := tkl_TL (g := G) (a := a) (x := x)
    rw [← hl, ← b3 e]
    obtain ⟨⟨v, r, n, hTr⟩, -⟩ := (hB x x1 (by omega)).2.1 e
    exact tcS_sum hf ht hne _ 0 hT (fun y hy => by rw [b3 e] at hy; exact Tr_okW _ _ _ _ _ hTr y hy)
  · rw [if_neg e, b4 e]
    rfl
/-- the memory with a move -/
def gMv (S : xLm) (g : xGm) (f x : Int) : xGm := gs (gs (gz g S.2.1 0) S.2.1 0 f) S.2.1 1 x
def sMv (S : xLm) : xLm := xSn S (.inr (7, xDs 7)) (xDf.getD 7 []).length
theorem gMv_row {f x : Int} {h : Nat} (hh : ¬ h = S.2.1) : gMv S g f x h = g h := by
  unfold gMv
  rw [gs_row _ _ _ hh, gs_row _ _ _ hh, gz_row hh]
theorem c_newMove {f x : Int} (hj : S.1 j = .inr (7, [none, none])) : ∀ Q, Cw X (d + 2) 120 [.ref j, .int (iI f), .int (iI x)] (hp S g) Q = Q (.inl none) (hp S (gs (gs g j 0 f) j 1 x)) := fun Q => by
  have h0 := fun Q => c_rwInit (X := X) (S := S) (g := g) (d := d) (j := j) Q (by rw [hj]; rfl)
  rw [e120]
  simp (config := { decide := true }) only [w_aload_n0 (pc' := 1) q120 d120_0 rfl, w_invp0 (pc' := 4) q120 d120_1 rfl (by decide +kernel) k120_1_98 m146.1, w_aload_n0 (pc' := 5) q120 d120_4 rfl, w_iload_n1 (pc' := 6) q120 d120_5 rfl, w_putI (pc' := 9) q120 d120_6 rfl f120_7 rfl (by decide +kernel), w_aload_n0 (pc' := 10) q120 d120_9 rfl, w_iload_n2 (pc' := 11) q120 d120_10 rfl, w_putI (pc' := 14) q120 d120_11 rfl f120_13 rfl (by decide +kernel), w_return q120 d120_14 m120.2.1, gs_off, gs_off0, gs_0off, gs_2, xN_0, xN_2, xN_3, xN_6, xN_7, xN_8, xN_9, xN_10, xN_11, xN_12, xN_13, xN_14, xN_15, xN_16, xN_17, xN_18, xN_19, xN_20, xN_21, xN_22, xN_23, xN_24, xN_25, xN_26, xN_27, xN_28, xN_29, xN_30, xN_31, xN_32, xN_33, xN_34, xN_35, xN_36, xN_37, xN_38, xN_39, xN_40, xN_41, xN_42, xN_43, xN_44, xN_45, xN_46, xN_47, xN_48, xN_49, xN_50, xN_51, xN_52, xN_53, xN_54, xN_55, ti_0, ti_1, ti_2, ti_3, ti_4, ti_5, ti_6, ti_7, ti_8, ti_9, ti_10, ti_16, ti_19, ti_20, ti_29, ti_30, ti_31, ti_32, ti_35, ti_36, ti_38, ti_39, ti_40, ti_41, ti_42, ti_43, ti_44, ti_45, ti_46, ti_47, ti_48, ti_49, ti_50, ti_51, ti_52, ti_53, ti_54, ti_55, ti_56, ti_57, ti_58, ti_59, ti_60, ti_61, ti_62, ti_63, ti_64, ti_65, ti_74, ti_77, ti_126, ti_200, ti_201, ti_202, ti_203, ti_204, ti_205, ti_210, ti_255, ti_256, ti_400, ti_512, ti_600, ti_601, ti_602, ti_1000, ti_1023, ti_1024, ti_2000, ti_10000, ti_12602, ti_999999, ti_m999999, ti_m1, ti_2000000, ti_3000000, xN_1, xN_4, xN_5, xN_60, xN_61, xN_64, xN_200, xN_800, xN_12000, xN_12602, eq_self, and_self, and_true, true_and, if_true, if_false, decide_true, Nat.reduceLeDiff, xc2_int, xc2_ref, xc2_ra, xc2_null, xc2_long, xc2_none, xisaT_ref, xisaT_ra, xisaT_null, xc1T_int, xc1T_ref, xc1T_ra, xc1T_null, xsum_nil, xsum_int, xsum_ref, xsum_ra, xsum_long, xsum_double, xsum_null, xfl_nil, xfl_int, xfl_ref, xfl_ra, xfl_null, xfl_long, xfl_double, List.length_cons, List.length_nil, hj, h0, xfk, xfv, xak, xan, xcls, xsv', List.getElem?_cons_zero, List.getElem?_cons_succ, List.getD_cons_zero, List.getD_cons_succ, Option.getD_some, Option.isSome_some, if_true, if_pos, xcont, Option.toList_none, Option.toList_some, List.nil_append, List.cons_append]
theorem q_moveCell {f x : Int} (hS : CsS S c p k t o y b m) (hm : m ≤ S.2.1) (hI : CdI g c p k t o y P A sn H) (tf : ti f = f) (tx : ti x = x) :
    (¬ (isB f ∧ isB x ∧ ¬ f = x) → CRs X S g c p k t o y b m 20 (d + 300) [.ref c, .int (iI f), .int (iI x)] (.inr 0) P A sn H) ∧
    (isB f ∧ isB x ∧ ¬ f = x → CRs X S g c p k t o y b m 20 (d + 300) [.ref c, .int (iI f), .int (iI x)] (.inl (some (.int (iI (moN A f x))))) P (moS A f x) sn (recH A H)) := by
  have hS' := hS
  obtain ⟨c0, ⟨hp0, hk0, ht0, ho0, hy0⟩, hL⟩ := hS
  obtain ⟨k0, kS, kL⟩ := id hk0
  have b0 := kS.1
  have y0 := hy0.1
  have hrf := c_requireCell (X := X) (S := S) (g := g) (d := d + 298) tf
  have hrx := c_requireCell (X := X) (S := S) (g := g) (d := d + 298) tx
  have h20 : xMh 20 = [] := by decide +kernel
  refine ⟨fun h => CR_x hI fun Q => ?_, fun ⟨hf, hx, hne⟩ => ?_⟩
  · rw [e20]
    by_cases h1 : isB f
    · have r1 := hrf.1 h1
      by_cases h2 : isB x
      · have r2 := hrx.1 h2
        have e : f = x := Classical.byContradiction fun e => h ⟨h1, h2, e⟩
        subst e
        simp (config := { decide := true }) only [w_iload_n1 (pc' := 1) q20 d20_0 rfl, w_invs1 (pc' := 4) q20 d20_1 rfl (by decide +kernel) k20_74_99 m15.1, w_iload_n2 (pc' := 5) q20 d20_4 rfl, w_invs1 (pc' := 8) q20 d20_5 rfl (by decide +kernel) k20_74_99 m15.1, w_iload_n1 (pc' := 9) q20 d20_8 rfl, w_iload_n2 (pc' := 10) q20 d20_9 rfl, w_icmp_ne (tg := 23) (pc' := 13) q20 d20_10 (by decide) rfl, w_throw (ee := 0) q20 d20_13 (by decide +kernel), gs_off, gs_off0, gs_0off, gs_2, xN_0, xN_2, xN_3, xN_6, xN_7, xN_8, xN_9, xN_10, xN_11, xN_12, xN_13, xN_14, xN_15, xN_16, xN_17, xN_18, xN_19, xN_20, xN_21, xN_22, xN_23, xN_24, xN_25, xN_26, xN_27, xN_28, xN_29, xN_30, xN_31, xN_32, xN_33, xN_34, xN_35, xN_36, xN_37, xN_38, xN_39, xN_40, xN_41, xN_42, xN_43, xN_44, xN_45, xN_46, xN_47, xN_48, xN_49, xN_50, xN_51, xN_52, xN_53, xN_54, xN_55, ti_0, ti_1, ti_2, ti_3, ti_4, ti_5, ti_6, ti_7, ti_8, ti_9, ti_10, ti_16, ti_19, ti_20, ti_29, ti_30, ti_31, ti_32, ti_35, ti_36, ti_38, ti_39, ti_40, ti_41, ti_42, ti_43, ti_44, ti_45, ti_46, ti_47, ti_48, ti_49, ti_50, ti_51, ti_52, ti_53, ti_54, ti_55, ti_56, ti_57, ti_58, ti_59, ti_60, ti_61, ti_62, ti_63, ti_64, ti_65, ti_74, ti_77, ti_126, ti_200, ti_201, ti_202, ti_203, ti_204, ti_205, ti_210, ti_255, ti_256, ti_400, ti_512, ti_600, ti_601, ti_602, ti_1000, ti_1023, ti_1024, ti_2000, ti_10000, ti_12602, ti_999999, ti_m999999, ti_m1, ti_2000000, ti_3000000, xN_1, xN_4, xN_5, xN_60, xN_61, xN_64, xN_200, xN_800, xN_12000, xN_12602, eq_self, and_self, and_true, true_and, if_true, if_false, decide_true, Nat.reduceLeDiff, xc2_int, xc2_ref, xc2_ra, xc2_null, xc2_long, xc2_none, xisaT_ref, xisaT_ra, xisaT_null, xc1T_int, xc1T_ref, xc1T_ra, xc1T_null, xsum_nil, xsum_int, xsum_ref, xsum_ra, xsum_long, xsum_double, xsum_null, xfl_nil, xfl_int, xfl_ref, xfl_ra, xfl_null, xfl_long, xfl_double, List.length_cons, List.length_nil, r1, tf, xfk, xfv, xak, xan, xcls, xsv', List.getElem?_cons_zero, List.getElem?_cons_succ, List.getD_cons_zero, List.getD_cons_succ, Option.getD_some, Option.isSome_some, if_true, if_pos, xcont, Option.toList_none, Option.toList_some, List.nil_append, List.cons_append]
      · have r2 := hrx.2 h2
        simp (config := { decide := true }) only [w_iload_n1 (pc' := 1) q20 d20_0 rfl, w_invs1 (pc' := 4) q20 d20_1 rfl (by decide +kernel) k20_74_99 m15.1, w_iload_n2 (pc' := 5) q20 d20_4 rfl, w_invs1 (pc' := 8) q20 d20_5 rfl (by decide +kernel) k20_74_99 m15.1, gs_off, gs_off0, gs_0off, gs_2, xN_0, xN_2, xN_3, xN_6, xN_7, xN_8, xN_9, xN_10, xN_11, xN_12, xN_13, xN_14, xN_15, xN_16, xN_17, xN_18, xN_19, xN_20, xN_21, xN_22, xN_23, xN_24, xN_25, xN_26, xN_27, xN_28, xN_29, xN_30, xN_31, xN_32, xN_33, xN_34, xN_35, xN_36, xN_37, xN_38, xN_39, xN_40, xN_41, xN_42, xN_43, xN_44, xN_45, xN_46, xN_47, xN_48, xN_49, xN_50, xN_51, xN_52, xN_53, xN_54, xN_55, ti_0, ti_1, ti_2, ti_3, ti_4, ti_5, ti_6, ti_7, ti_8, ti_9, ti_10, ti_16, ti_19, ti_20, ti_29, ti_30, ti_31, ti_32, ti_35, ti_36, ti_38, ti_39, ti_40, ti_41, ti_42, ti_43, ti_44, ti_45, ti_46, ti_47, ti_48, ti_49, ti_50, ti_51, ti_52, ti_53, ti_54, ti_55, ti_56, ti_57, ti_58, ti_59, ti_60, ti_61, ti_62, ti_63, ti_64, ti_65, ti_74, ti_77, ti_126, ti_200, ti_201, ti_202, ti_203, ti_204, ti_205, ti_210, ti_255, ti_256, ti_400, ti_512, ti_600, ti_601, ti_602, ti_1000, ti_1023, ti_1024, ti_2000, ti_10000, ti_12602, ti_999999, ti_m999999, ti_m1, ti_2000000, ti_3000000, xN_1, xN_4, xN_5, xN_60, xN_61, xN_64, xN_200, xN_800, xN_12000, xN_12602, eq_self, and_self, and_true, true_and, if_true, if_false, decide_true, Nat.reduceLeDiff, xc2_int, xc2_ref, xc2_ra, xc2_null, xc2_long, xc2_none, xisaT_ref, xisaT_ra, xisaT_null, xc1T_int, xc1T_ref, xc1T_ra, xc1T_null, xsum_nil, xsum_int, xsum_ref, xsum_ra, xsum_long, xsum_double, xsum_null, xfl_nil, xfl_int, xfl_ref, xfl_ra, xfl_null, xfl_long, xfl_double, List.length_cons, List.length_nil, r1, r2, xth_n h20, xfk, xfv, xak, xan, xcls, xsv', List.getElem?_cons_zero, List.getElem?_cons_succ, List.getD_cons_zero, List.getD_cons_succ, Option.getD_some, Option.isSome_some, if_true, if_pos, xcont, Option.toList_none, Option.toList_some, List.nil_append, List.cons_append]
    · have r1 := hrf.2 h1
      simp (config := { decide := true }) only [w_iload_n1 (pc' := 1) q20 d20_0 rfl, w_invs1 (pc' := 4) q20 d20_1 rfl (by decide +kernel) k20_74_99 m15.1, gs_off, gs_off0, gs_0off, gs_2, xN_0, xN_2, xN_3, xN_6, xN_7, xN_8, xN_9, xN_10, xN_11, xN_12, xN_13, xN_14, xN_15, xN_16, xN_17, xN_18, xN_19, xN_20, xN_21, xN_22, xN_23, xN_24, xN_25, xN_26, xN_27, xN_28, xN_29, xN_30, xN_31, xN_32, xN_33, xN_34, xN_35, xN_36, xN_37, xN_38, xN_39, xN_40, xN_41, xN_42, xN_43, xN_44, xN_45, xN_46, xN_47, xN_48, xN_49, xN_50, xN_51, xN_52, xN_53, xN_54, xN_55, ti_0, ti_1, ti_2, ti_3, ti_4, ti_5, ti_6, ti_7, ti_8, ti_9, ti_10, ti_16, ti_19, ti_20, ti_29, ti_30, ti_31, ti_32, ti_35, ti_36, ti_38, ti_39, ti_40, ti_41, ti_42, ti_43, ti_44, ti_45, ti_46, ti_47, ti_48, ti_49, ti_50, ti_51, ti_52, ti_53, ti_54, ti_55, ti_56, ti_57, ti_58, ti_59, ti_60, ti_61, ti_62, ti_63, ti_64, ti_65, ti_74, ti_77, ti_126, ti_200, ti_201, ti_202, ti_203, ti_204, ti_205, ti_210, ti_255, ti_256, ti_400, ti_512, ti_600, ti_601, ti_602, ti_1000, ti_1023, ti_1024, ti_2000, ti_10000, ti_12602, ti_999999, ti_m999999, ti_m1, ti_2000000, ti_3000000, xN_1, xN_4, xN_5, xN_60, xN_61, xN_64, xN_200, xN_800, xN_12000, xN_12602, eq_self, and_self, and_true, true_and, if_true, if_false, decide_true, Nat.reduceLeDiff, xc2_int, xc2_ref, xc2_ra, xc2_null, xc2_long, xc2_none, xisaT_ref, xisaT_ra, xisaT_null, xc1T_int, xc1T_ref, xc1T_ra, xc1T_null, xsum_nil, xsum_int, xsum_ref, xsum_ra, xsum_long, xsum_double, xsum_null, xfl_nil, xfl_int, xfl_ref, xfl_ra, xfl_null, xfl_long, xfl_double, List.length_cons, List.length_nil, r1, xth_n h20, xfk, xfv, xak, xan, xcls, xsv', List.getElem?_cons_zero, List.getElem?_cons_succ, List.getD_cons_zero, List.getD_cons_succ, Option.getD_some, Option.isSome_some, if_true, if_pos, xcont, Option.toList_none, Option.toList_some, List.nil_append, List.cons_append]
  · have r1 := hrf.1 hf
    have r2 := hrx.1 hx
    obtain ⟨q, g1, hq, f1, i1, eE, iR, k1⟩ := c_rec (X := X) (d := d + 294) hS' hI
    obtain ⟨hC, hM, hA⟩ := hI.2.1
    have hC1 := i1.2.1.1
    have cA := StC_of hC1 i1.2.1.2.1
    obtain ⟨h0, eh0⟩ : ∃ h0, h0 = y + 2 + 6 * q := ⟨_, rfl⟩
    have hO : StS S h0 := by rw [eh0]; exact hy0.2.2 q hq
    rw [← eh0] at eE iR k1
    have cR : StC g1 h0 A := StC_rec (StC_of hC hM) eE iR hC.1
    have hb := iR.2.2.2.1 f
    have ktk : ∀ Q, Cw X (d + 299) 150 [.ref (k + 1), .int (iI x), .ref h0, .int (iI f)] (hp S g1) Q = Q (.inl none) (hp S (gT g1 (k + 1) h0 x f)) := fun Q => c_takeCell (X := X) (d := d + 297) (g := g1) kS hO (by omega) hx.1 hx.2 hf.1 hf.2 hb.1 hb.2
    have s1 := StI_take (c := x) (s := f) hC1.1 iR
    have s2 := StC_take (c := x) (s := f) cA cR hC1.1 iR hx hf
    have F1 := gT_F (g := g1) (a := k + 1) (o := h0) (c := x) (s := f)
    obtain ⟨G1, eG1⟩ : ∃ G1, G1 = gT g1 (k + 1) h0 x f := ⟨_, rfl⟩
    rw [← eG1] at ktk s1 s2 F1
    have kpn : ∀ Q, Cw X (d + 299) 161 [.ref (k + 1), .int (iI f)] (hp S G1) Q = Q (.inl none) (hp S (gPut G1 (k + 1) f 0 0)) := fun Q => c_putNothing (X := X) (d := d + 297) (g := G1) kS hf.1 hf.2
    have s3 := StI_gPut (z := f) (kd := 0) (v := 0) s1 (by decide) (by decide)
    have s4 := StC_gPut (z := f) (kd := 0) (v := 0) s2 (by decide) (fun _ => rfl)
    have F2 := StF_trans F1 (gPut_F (g := G1) (a := k + 1) (z := f) (kd := 0) (v := 0))
    obtain ⟨G2, eG2⟩ : ∃ G2, G2 = gPut G1 (k + 1) f 0 0 := ⟨_, rfl⟩
    rw [← eG2] at kpn s3 s4 F2
    have hS2 := CsS_ext (S' := sMv S) hS' (fun h hh => xSn_off (by omega)) (by show S.2.1 ≤ S.2.1 + 1; omega)
    have kS2 := hS2.2.1.2.1.2.1
    have c0n := hS2.1
    have k0n := hS2.2.1.2.1.1
    have b0n := kS2.1
    have hj : (sMv S).1 S.2.1 = .inr (7, [none, none]) := xSn_at
    have eN : xSn S (.inr (7, xDs 7)) (xDf.getD 7 []).length = sMv S := rfl
    have eG : gs (gs (gz G2 S.2.1 0) S.2.1 0 f) S.2.1 1 x = gMv S G2 f x := rfl
    have knm := c_newMove (X := X) (S := sMv S) (g := gz G2 S.2.1 0) (d := d + 297) (f := f) (x := x) hj
    have F3 : ∀ h, h < S.2.1 → gMv S G2 f x h = G2 h := fun h hh => gMv_row (by omega)
    obtain ⟨G3, eG3⟩ : ∃ G3, G3 = gMv S G2 f x := ⟨_, rfl⟩
    rw [← eG3] at F3
    have hR : RwI (sMv S) G3 S.2.1 (mvS f x) (fun s _ => s) := .inr (.inl ⟨f, x, hj, by rw [eG3]; unfold gMv; rw [gs_at, if_neg (by decide), gs_at, if_pos rfl], by rw [eG3]; unfold gMv; rw [gs_at, if_pos rfl], hf, hx, rfl, rfl⟩)
    have s5 : StI G3 (k + 1) := StI_congr (fun i _ _ => F3 _ (by omega)) s3
    have s6 : StC G3 (k + 1) (mvA A f x) := StC_congr (fun i _ _ => F3 _ (by omega)) s4
    have hB := mvA_ok (f := f) (t := x) hf hA
    have krw := fun Q => c_rewriteAll (X := X) (S := sMv S) (d := d + 294) (g := G3) (Q := Q) (b := k + 1) kS2 hR (by omega) (fun x x1 x2 => s5.2.2.2.1 x) (fun x q x1 x2 q1 q2 => StC_okW s6 hB ⟨x1, x2⟩ q1 q2)
    rw [mv_count hf hx hne s6 s5 hB] at krw
    have u1 := StI_gWA hR s5 s6 hB
    have u2 := StC_gWA (f := tkF (mvS f x) (fun s _ => s)) s6 s5
    have hok := RwI_ok hR
    have F4 : ∀ h, h < S.2.1 → (h < k + 2 ∨ k + 6 < h) → gWA G3 (k + 1) 200 (tkF (mvS f x) (fun s _ => s)) h = g1 h := fun h hh h2 => (gWA_row (by omega)).trans ((F3 h hh).trans (F2 h h2))
    obtain ⟨gb, egb⟩ : ∃ gb : xGm, gb = fun h => if h < S.2.1 then g1 h else G3 h := ⟨_, rfl⟩
    have hb1 : ∀ h, h < S.2.1 → gb h = g1 h := fun h hh => by rw [egb]; exact if_pos hh
    have hb2 : ∀ h, ¬ h < S.2.1 → gb h = G3 h := fun h hh => by rw [egb]; exact if_neg hh
    have ib : CdI gb c p k t o y P A sn (recH A H) := CdI_high (by omega) (fun h hh => hb1 h (by omega)) i1
    obtain ⟨g3, f3, i3, k3⟩ := c_chgAllC (X := X) (S := sMv S) (G := gWA G3 (k + 1) 200 (tkF (mvS f x) (fun s _ => s))) (d := d + 27) hS2 ib (shW_ok hok.1 hok.2 hB) (fun h a1 a2 a3 a4 a5 => by
      by_cases hh : h < S.2.1
      · rw [hb1 h hh]; exact F4 h hh (by omega)
      · rw [hb2 h hh]; exact gWA_row (by omega)) u1 (fun x x1 x2 => (u2 x x1 x2).1) (fun x x1 x2 => (u2 x x1 x2).2) rfl
    have hlen : (xDf.getD 7 []).length = 2 := by decide
    refine CR_s (S' := sMv S) (g' := g3) hS' hm (fun h hh => xSn_off hh) (by show S.2.1 ≤ S.2.1 + 1; omega) (by show S.2.2.1 + 1 ≤ _; omega) (by show S.2.2.2 + (xDf.getD 7 []).length ≤ _; omega) (fun h h1 h2 => (f3 h (by omega)).trans ((hb1 h h2).trans (f1 h (by omega)))) i3 fun Q => ?_
    have nfx : ¬ f = x := hne
    rw [← eG3] at eG
    rw [e20]
    simp (config := { decide := true }) only [w_iload_n1 (pc' := 1) q20 d20_0 rfl, w_invs1 (pc' := 4) q20 d20_1 rfl (by decide +kernel) k20_74_99 m15.1, w_iload_n2 (pc' := 5) q20 d20_4 rfl, w_invs1 (pc' := 8) q20 d20_5 rfl (by decide +kernel) k20_74_99 m15.1, w_iload_n1 (pc' := 9) q20 d20_8 rfl, w_iload_n2 (pc' := 10) q20 d20_9 rfl, w_icmp_ne (tg := 23) (pc' := 13) q20 d20_10 (by decide) rfl, w_throw (ee := 0) q20 d20_13 (by decide +kernel), w_aload_n0 (pc' := 24) q20 d20_23 rfl, w_getV (pc' := 27) q20 d20_24 rfl f20_36, w_aload_n0 (pc' := 28) q20 d20_27 rfl, w_getV (pc' := 31) q20 d20_28 rfl f20_19, w_getV (pc' := 34) q20 d20_31 rfl f20_80, w_invv1 (ci := 4) (pc' := 37) q20 d20_34 rfl n20_83 k20_83_4 m90.1, w_astore_n3 (pc' := 38) q20 d20_37 rfl, w_aload_n0 (pc' := 39) q20 d20_38 rfl, w_getV (pc' := 42) q20 d20_39 rfl f20_19, w_getV (pc' := 45) q20 d20_42 rfl f20_80, w_iload_n2 (pc' := 46) q20 d20_45 rfl, w_aload_n3 (pc' := 47) q20 d20_46 rfl, w_iload_n1 (pc' := 48) q20 d20_47 rfl, w_invv3 (ci := 9) (pc' := 51) q20 d20_48 rfl n20_113 k20_113_9 m150.1, w_aload_n0 (pc' := 52) q20 d20_51 rfl, w_getV (pc' := 55) q20 d20_52 rfl f20_19, w_getV (pc' := 58) q20 d20_55 rfl f20_80, w_iload_n1 (pc' := 59) q20 d20_58 rfl, w_invv1 (ci := 9) (pc' := 62) q20 d20_59 rfl n20_102 k20_102_9 m161.1, w_aload_n0 (pc' := 63) q20 d20_62 rfl, w_getV (pc' := 66) q20 d20_63 rfl f20_19, w_getV (pc' := 69) q20 d20_66 rfl f20_80, w_new (ci := 7) (pc' := 72) q20 d20_69 rfl (by decide +kernel) (by decide +kernel) (by decide), w_dup (pc' := 73) q20 d20_72 rfl, w_iload_n1 (pc' := 74) q20 d20_73 rfl, w_iload_n2 (pc' := 75) q20 d20_74 rfl, w_invp2 (pc' := 78) q20 d20_75 rfl (by decide +kernel) k20_128_98 m120.1, w_invv1 (ci := 9) (pc' := 81) q20 d20_78 rfl n20_129 k20_129_9 m163.1, w_istore4 (pc' := 83) q20 d20_81 rfl, w_aload_n0 (pc' := 84) q20 d20_83 rfl, w_getV (pc' := 87) q20 d20_84 rfl f20_19, w_invv0 (ci := 2) (pc' := 90) q20 d20_87 rfl n20_121 k20_121_2 m83.1, w_pop (pc' := 91) q20 d20_90 rfl, w_iload4 (pc' := 93) q20 d20_91 rfl, w_ireturn q20 d20_93 m20.2.1, gs_off, gs_off0, gs_0off, gs_2, xN_0, xN_2, xN_3, xN_6, xN_7, xN_8, xN_9, xN_10, xN_11, xN_12, xN_13, xN_14, xN_15, xN_16, xN_17, xN_18, xN_19, xN_20, xN_21, xN_22, xN_23, xN_24, xN_25, xN_26, xN_27, xN_28, xN_29, xN_30, xN_31, xN_32, xN_33, xN_34, xN_35, xN_36, xN_37, xN_38, xN_39, xN_40, xN_41, xN_42, xN_43, xN_44, xN_45, xN_46, xN_47, xN_48, xN_49, xN_50, xN_51, xN_52, xN_53, xN_54, xN_55, ti_0, ti_1, ti_2, ti_3, ti_4, ti_5, ti_6, ti_7, ti_8, ti_9, ti_10, ti_16, ti_19, ti_20, ti_29, ti_30, ti_31, ti_32, ti_35, ti_36, ti_38, ti_39, ti_40, ti_41, ti_42, ti_43, ti_44, ti_45, ti_46, ti_47, ti_48, ti_49, ti_50, ti_51, ti_52, ti_53, ti_54, ti_55, ti_56, ti_57, ti_58, ti_59, ti_60, ti_61, ti_62, ti_63, ti_64, ti_65, ti_74, ti_77, ti_126, ti_200, ti_201, ti_202, ti_203, ti_204, ti_205, ti_210, ti_255, ti_256, ti_400, ti_512, ti_600, ti_601, ti_602, ti_1000, ti_1023, ti_1024, ti_2000, ti_10000, ti_12602, ti_999999, ti_m999999, ti_m1, ti_2000000, ti_3000000, xN_1, xN_4, xN_5, xN_60, xN_61, xN_64, xN_200, xN_800, xN_12000, xN_12602, eq_self, and_self, and_true, true_and, if_true, if_false, decide_true, Nat.reduceLeDiff, xc2_int, xc2_ref, xc2_ra, xc2_null, xc2_long, xc2_none, xisaT_ref, xisaT_ra, xisaT_null, xc1T_int, xc1T_ref, xc1T_ra, xc1T_null, xsum_nil, xsum_int, xsum_ref, xsum_ra, xsum_long, xsum_double, xsum_null, xfl_nil, xfl_int, xfl_ref, xfl_ra, xfl_null, xfl_long, xfl_double, List.length_cons, List.length_nil, r1, r2, tf, tx, nfx, c0, k0, b0, y0, k1, ktk, kpn, eN, hj, knm, eG, c0n, k0n, b0n, krw, k3, xfk, xfv, xak, xan, xcls, xsv', List.getElem?_cons_zero, List.getElem?_cons_succ, List.getD_cons_zero, List.getD_cons_succ, Option.getD_some, Option.isSome_some, if_true, if_pos, xcont, Option.toList_none, Option.toList_some, List.nil_append, List.cons_append]
    rfl
end
