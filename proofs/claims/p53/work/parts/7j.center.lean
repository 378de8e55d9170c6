/-! The class: enter -/
section
variable {X : xX} {S : xLm} {g g' : xGm} {d c p k t o y b m : Nat} {w : xH} {Q : xO → xH → Prop} {P P' : Pd} {A A' B : Sh} {sn : Option Sh} {H : List Sh}
/-- the memory in which a cell has what was read -/
def gRd (g : xGm) (a : Nat) (z kd v n : Int) (r : Int → Int) : xGm := gr (gs (gs (gs (gs g (a + 1) z kd) (a + 2) z v) (a + 3) z 0) (a + 4) z n) (a + 5) (fun i => if z * 60 ≤ i ∧ i < z * 60 + n then r (i - z * 60) else g (a + 5) i)
theorem tkl_gRd {a : Nat} {z kd v : Int} {r : Int → Int} {tk : List Int} (hr : TL r 0 tk) : tkl (gRd g a z kd v tk.length r) a z = tk := by
  have q4 : gRd g a z kd v tk.length r (a + 4) z = tk.length := by
    unfold gRd
    rw [gr_row _ _ (by omega), gs_at, if_pos rfl]
  have q5 : gRd g a z kd v tk.length r (a + 5) = fun i => if z * 60 ≤ i ∧ i < z * 60 + tk.length then r (i - z * 60) else g (a + 5) i := by
    unfold gRd
    rw [gr_hit]
  unfold tkl
  rw [q4, q5, Int.toNat_natCast]
  apply List.ext_getElem
  · simp
  · intro i h1 h2
    simp only [List.getElem_map, List.getElem_range]
    rw [if_pos (by omega)]
    have e : z * 60 + (i : Int) - z * 60 = i := by omega
    rw [e]
    have := TL_mk tk 0 hr i (by omega) (by omega)
    rw [Int.zero_add] at this
    rw [this]
    unfold mkat
    rw [Int.toNat_natCast, List.getD_eq_getElem?_getD, List.getElem?_eq_getElem h2]
    rfl
theorem okG_big {x : Int} (h : okG x) : 0 ≤ x ∧ x ≤ 16777215 := by
  unfold okG okR okS at h
  omega
theorem q_enter {z : Int} (hS : CsS S c p k t o y b m) (hI : CdI g c p k t o y P A sn H) (tz : ti z = z) (hlen : ∀ a kd nu tk, ctF (pdc P) 0 0 = .inr (a, kd, nu, tk) → (mks tk).length ≤ 60 ∧ tk.length ≤ 60) :
    (¬ isB z → CRs X S g c p k t o y b m 14 (d + 300) [.ref c, .int (iI z)] (.inr 0) P A sn H) ∧
    (isB z → (∀ a, ctF (pdc P) 0 0 = .inl a → CRs X S g c p k t o y b m 14 (d + 300) [.ref c, .int (iI z)] (.inr 1) P A sn H) ∧
      (∀ a kd nu tk, ctF (pdc P) 0 0 = .inr (a, kd, nu, tk) → CRs X S g c p k t o y b m 14 (d + 300) [.ref c, .int (iI z)] (.inl (some (.int (iI (chN A z kd nu tk))))) P (chS A z kd nu tk) sn (recH A H))) := by
  have hS' := hS
  obtain ⟨c0, ⟨hp0, hk0, ht0, ho0, hy0⟩, hL⟩ := hS
  obtain ⟨k0, kS, kL⟩ := id hk0
  have b0 := kS.1
  have y0 := hy0.1
  have p0 := hp0.1
  have hrz := c_requireCell (X := X) (S := S) (g := g) (d := d + 298) tz
  have h14 : xMh 14 = [] := by decide +kernel
  have tm1 : ti (-1) = -1 := by decide
  have hC := c_faultAsContent (X := X) (d := d + 290) (g := g) hp0 hI.1.1
  rw [PdC_ch hI.1] at hC
  refine ⟨fun hz => CR_x hI fun Q => ?_, fun hz => ⟨fun a ea => ?_, fun a kd nu tk ea => ?_⟩⟩
  · have r1 := hrz.2 hz
    rw [e14]
    simp (config := { decide := true }) only [w_iload_n1 (pc' := 1) q14 d14_0 rfl, w_invs1 (pc' := 4) q14 d14_1 rfl (by decide +kernel) k14_74_99 m15.1, gs_off, gs_off0, gs_0off, gs_2, xN_0, xN_2, xN_3, xN_6, xN_7, xN_8, xN_9, xN_10, xN_11, xN_12, xN_13, xN_14, xN_15, xN_16, xN_17, xN_18, xN_19, xN_20, xN_21, xN_22, xN_23, xN_24, xN_25, xN_26, xN_27, xN_28, xN_29, xN_30, xN_31, xN_32, xN_33, xN_34, xN_35, xN_36, xN_37, xN_38, xN_39, xN_40, xN_41, xN_42, xN_43, xN_44, xN_45, xN_46, xN_47, xN_48, xN_49, xN_50, xN_51, xN_52, xN_53, xN_54, xN_55, ti_0, ti_1, ti_2, ti_3, ti_4, ti_5, ti_6, ti_7, ti_8, ti_9, ti_10, ti_16, ti_19, ti_20, ti_29, ti_30, ti_31, ti_32, ti_35, ti_36, ti_38, ti_39, ti_40, ti_41, ti_42, ti_43, ti_44, ti_45, ti_46, ti_47, ti_48, ti_49, ti_50, ti_51, ti_52, ti_53, ti_54, ti_55, ti_56, ti_57, ti_58, ti_59, ti_60, ti_61, ti_62, ti_63, ti_64, ti_65, ti_74, ti_77, ti_126, ti_200, ti_201, ti_202, ti_203, ti_204, ti_205, ti_210, ti_255, ti_256, ti_400, ti_512, ti_600, ti_601, ti_602, ti_1000, ti_1023, ti_1024, ti_2000, ti_10000, ti_12602, ti_999999, ti_m999999, ti_m1, ti_2000000, ti_3000000, xN_1, xN_4, xN_5, xN_60, xN_61, xN_64, xN_200, xN_800, xN_12000, xN_12602, eq_self, and_self, and_true, true_and, if_true, if_false, decide_true, Nat.reduceLeDiff, xc2_int, xc2_ref, xc2_ra, xc2_null, xc2_long, xc2_none, xisaT_ref, xisaT_ra, xisaT_null, xc1T_int, xc1T_ref, xc1T_ra, xc1T_null, xsum_nil, xsum_int, xsum_ref, xsum_ra, xsum_long, xsum_double, xsum_null, xfl_nil, xfl_int, xfl_ref, xfl_ra, xfl_null, xfl_long, xfl_double, List.length_cons, List.length_nil, r1, xth_n h14, xfk, xfv, xak, xan, xcls, xsv', List.getElem?_cons_zero, List.getElem?_cons_succ, List.getD_cons_zero, List.getD_cons_succ, Option.getD_some, Option.isSome_some, if_true, if_pos, xcont, Option.toList_none, Option.toList_some, List.nil_append, List.cons_append]
  · have r1 := hrz.1 hz
    rw [ea] at hC
    obtain ⟨g', f1, k1⟩ := hC
    have ha := ctF_B ea
    have ta : ti a = a := ti_eq (by omega) (by omega)
    have n1 : ¬ a < 0 := by omega
    refine ⟨xSx S, g', SEx_x (by decide) (by decide), fun j j1 _ => f1.1 j (by omega) (by omega) (by omega) (by omega) (by omega), TxE_keep (S := S) (S' := xSx S) (g := g) (m := m) (b := b) (fun _ _ => rfl) (Nat.le_refl _) (by omega) (by omega) (fun h hb _ => f1.1 h (by omega) (by omega) (by omega) (by omega) (by omega)) (by rw [xcst_x]; show S.2.2.1 + 1 ≤ _; omega) (by rw [xcst_x]; show S.2.2.2 + 6 ≤ _; omega), CdI_pad (by omega) (fun j j1 => f1.1 j (by omega) (by omega) (by omega) (by omega) (by omega)) (PdC_FrQ f1 hI.1) hI, fun Q => ?_⟩
    rw [e14]
    simp (config := { decide := true }) only [w_iload_n1 (pc' := 1) q14 d14_0 rfl, w_invs1 (pc' := 4) q14 d14_1 rfl (by decide +kernel) k14_74_99 m15.1, w_aload_n0 (pc' := 5) q14 d14_4 rfl, w_getV (pc' := 8) q14 d14_5 rfl f14_12, w_invv0 (ci := 8) (pc' := 11) q14 d14_8 rfl n14_67 k14_67_8 m122.1, w_if_lt (tg := 24) (pc' := 14) q14 d14_11 (by decide) rfl, w_throw (ee := 1) q14 d14_14 (by decide +kernel), w_aload_n0 (pc' := 25) q14 d14_24 rfl, w_getV (pc' := 28) q14 d14_25 rfl f14_36, w_aload_n0 (pc' := 29) q14 d14_28 rfl, w_getV (pc' := 32) q14 d14_29 rfl f14_19, w_getV (pc' := 35) q14 d14_32 rfl f14_80, w_invv1 (ci := 4) (pc' := 38) q14 d14_35 rfl n14_83 k14_83_4 m90.1, w_pop (pc' := 39) q14 d14_38 rfl, w_aload_n0 (pc' := 40) q14 d14_39 rfl, w_getV (pc' := 43) q14 d14_40 rfl f14_19, w_getV (pc' := 46) q14 d14_43 rfl f14_80, w_iload_n1 (pc' := 47) q14 d14_46 rfl, w_aload_n0 (pc' := 48) q14 d14_47 rfl, w_getV (pc' := 51) q14 d14_48 rfl f14_12, w_invv2 (ci := 9) (pc' := 54) q14 d14_51 rfl n14_87 k14_87_9 m156.1, w_aload_n0 (pc' := 55) q14 d14_54 rfl, w_getV (pc' := 58) q14 d14_55 rfl f14_19, w_iload_n1 (pc' := 59) q14 d14_58 rfl, w_invv1 (ci := 2) (pc' := 62) q14 d14_59 rfl n14_91 k14_91_2 m63.1, w_ireturn q14 d14_62 m14.2.1, gs_off, gs_off0, gs_0off, gs_2, xN_0, xN_2, xN_3, xN_6, xN_7, xN_8, xN_9, xN_10, xN_11, xN_12, xN_13, xN_14, xN_15, xN_16, xN_17, xN_18, xN_19, xN_20, xN_21, xN_22, xN_23, xN_24, xN_25, xN_26, xN_27, xN_28, xN_29, xN_30, xN_31, xN_32, xN_33, xN_34, xN_35, xN_36, xN_37, xN_38, xN_39, xN_40, xN_41, xN_42, xN_43, xN_44, xN_45, xN_46, xN_47, xN_48, xN_49, xN_50, xN_51, xN_52, xN_53, xN_54, xN_55, ti_0, ti_1, ti_2, ti_3, ti_4, ti_5, ti_6, ti_7, ti_8, ti_9, ti_10, ti_16, ti_19, ti_20, ti_29, ti_30, ti_31, ti_32, ti_35, ti_36, ti_38, ti_39, ti_40, ti_41, ti_42, ti_43, ti_44, ti_45, ti_46, ti_47, ti_48, ti_49, ti_50, ti_51, ti_52, ti_53, ti_54, ti_55, ti_56, ti_57, ti_58, ti_59, ti_60, ti_61, ti_62, ti_63, ti_64, ti_65, ti_74, ti_77, ti_126, ti_200, ti_201, ti_202, ti_203, ti_204, ti_205, ti_210, ti_255, ti_256, ti_400, ti_512, ti_600, ti_601, ti_602, ti_1000, ti_1023, ti_1024, ti_2000, ti_10000, ti_12602, ti_999999, ti_m999999, ti_m1, ti_2000000, ti_3000000, xN_1, xN_4, xN_5, xN_60, xN_61, xN_64, xN_200, xN_800, xN_12000, xN_12602, eq_self, and_self, and_true, true_and, if_true, if_false, decide_true, Nat.reduceLeDiff, xc2_int, xc2_ref, xc2_ra, xc2_null, xc2_long, xc2_none, xisaT_ref, xisaT_ra, xisaT_null, xc1T_int, xc1T_ref, xc1T_ra, xc1T_null, xsum_nil, xsum_int, xsum_ref, xsum_ra, xsum_long, xsum_double, xsum_null, xfl_nil, xfl_int, xfl_ref, xfl_ra, xfl_null, xfl_long, xfl_double, List.length_cons, List.length_nil, r1, c0, p0, k1, ta, n1, xfk, xfv, xak, xan, xcls, xsv', List.getElem?_cons_zero, List.getElem?_cons_succ, List.getD_cons_zero, List.getD_cons_succ, Option.getD_some, Option.isSome_some, if_true, if_pos, xcont, Option.toList_none, Option.toList_some, List.nil_append, List.cons_append]
  · have r1 := hrz.1 hz
    obtain ⟨hl1, hl2⟩ := hlen a kd nu tk ea
    obtain ⟨p1, p2, p3⟩ := pad_ok ea hl1
    have htr := ctF_tree ea
    rw [ea] at hC
    obtain ⟨g0, f0, hrd, k1⟩ := hC
    have i0 := CdI_pad (g' := g0) (P' := P) (by omega) (fun j j1 => f0.1 j (by omega) (by omega) (by omega) (by omega) (by omega)) (PdC_FrQ f0 hI.1) hI
    obtain ⟨q, g1, hq, f1, i1, -, -, k2⟩ := c_rec (X := X) (d := d + 294) hS' i0
    obtain ⟨d3, d4, d5, d6, d7⟩ := hrd
    have fp : g1 p = g0 p := f1 p (by omega)
    have fp2 : g1 (p + 2) = g0 (p + 2) := f1 (p + 2) (by omega)
    obtain ⟨v, ev⟩ : ∃ v, g0 p 4 = v := ⟨_, rfl⟩
    rw [ev] at d4 d5
    have hpr : ∀ Q, Cw X (d + 299) 156 [.ref (k + 1), .int (iI z), .ref p] (hp S g1) Q = Q (.inl none) (hp S (gRd g1 (k + 1) z kd v tk.length (g1 (p + 2)))) := fun Q => c_putRead (X := X) (d := d + 297) (g := g1) kS hp0 (by omega) hz.1 hz.2 (by rw [fp]; exact d3) (by rw [fp]; exact ev) (by rw [fp]; exact d6) (by omega) (by omega)
    obtain ⟨G, eG⟩ : ∃ G, G = gRd g1 (k + 1) z kd v tk.length (g1 (p + 2)) := ⟨_, rfl⟩
    have q1 : G (k + 1 + 1) = fun x => if x = z then kd else g1 (k + 1 + 1) x := by
      rw [eG]; unfold gRd
      rw [gr_row _ _ (by omega), gs_row _ _ _ (by omega), gs_row _ _ _ (by omega), gs_row _ _ _ (by omega)]
      funext x; rw [gs_at]
    have q2 : G (k + 1 + 2) = fun x => if x = z then v else g1 (k + 1 + 2) x := by
      rw [eG]; unfold gRd
      rw [gr_row _ _ (by omega), gs_row _ _ _ (by omega), gs_row _ _ _ (by omega)]
      funext x; rw [gs_at, gs_row _ _ _ (by omega)]
    have q3 : G (k + 1 + 3) = fun x => if x = z then 0 else g1 (k + 1 + 3) x := by
      rw [eG]; unfold gRd
      rw [gr_row _ _ (by omega), gs_row _ _ _ (by omega)]
      funext x; rw [gs_at, gs_row _ _ _ (by omega), gs_row _ _ _ (by omega)]
    have q4 : G (k + 1 + 4) = fun x => if x = z then (tk.length : Int) else g1 (k + 1 + 4) x := by
      rw [eG]; unfold gRd
      rw [gr_row _ _ (by omega)]
      funext x; rw [gs_at, gs_row _ _ _ (by omega), gs_row _ _ _ (by omega), gs_row _ _ _ (by omega)]
    have q5 : G (k + 1 + 5) = fun i => if z * 60 ≤ i ∧ i < z * 60 + tk.length then g1 (p + 2) (i - z * 60) else g1 (k + 1 + 5) i := by
      rw [eG]; unfold gRd
      rw [gr_hit]
    obtain ⟨r1', r2', r3', r4', r5'⟩ := i1.2.1.1.1
    have d7' : TL (g1 (p + 2)) 0 tk := by rw [fp2]; exact d7
    have hok : ∀ x ∈ tk, okG x := by
      rcases htr with ⟨-, v', rr, n, hT⟩ | ⟨-, e, -⟩
      · exact Tr_okG _ _ _ _ _ hT
      · rw [e]; intro x hx; cases hx
    have hG : StI G (k + 1) := by
      unfold StI rg
      rw [q1, q2, q3, q4, q5]
      refine ⟨fun x => ?_, fun x => ?_, fun x => ?_, fun x => ?_, fun x => ?_⟩
      · have := r1' x
        dsimp only; split <;> omega
      · have := r2' x
        dsimp only; split <;> omega
      · have := r3' x
        dsimp only; split <;> omega
      · have := r4' x
        dsimp only; split <;> omega
      · dsimp only
        split
        · next hh =>
          have e := TL_mk tk 0 d7' (x - z * 60) (by omega) (by omega)
          rw [Int.zero_add] at e
          rw [e]
          exact okG_big (hok _ (mkat_mem (by omega) (by omega)))
        · exact r5' x
    have hA' := ShOK_put (c := z) i1.2.1.2.2 p1 p2 p3
    obtain ⟨g2, f2, i2, k3⟩ := c_chgC (X := X) (d := d + 27) (G := G) (kd := kd) (nu := nu) (tk := tk) hS' i1 hz hA' (fun h a1 a2 a3 a4 a5 => by rw [eG]; unfold gRd; rw [gr_row _ _ a5, gs_row _ _ _ a4, gs_row _ _ _ a3, gs_row _ _ _ a2, gs_row _ _ _ a1]) hG (fun x x1 x2 e => by
      refine ⟨by rw [q1]; exact if_neg e, by rw [q2]; exact if_neg e, by rw [q3]; exact if_neg e, by rw [q4]; exact if_neg e, ?_⟩
      have hb := r4' x
      unfold tkl
      rw [q4, q5]
      dsimp only
      rw [if_neg e]
      refine List.map_congr_left (fun i hi => ?_)
      rw [List.mem_range] at hi
      obtain ⟨hz1, hz2⟩ := hz
      exact if_neg (by omega)) (by rw [q1]; exact if_pos rfl) (fun e => by rw [q2]; exact (if_pos rfl).trans (d4 (by omega))) (fun e => by
        rw [q2]
        refine (if_pos rfl).trans ((d4 (by omega)).trans ?_)
        rcases htr with ⟨e2, -⟩ | ⟨-, -, -, -, e2⟩
        · omega
        · exact e2 e) (fun _ => by rw [eG]; exact tkl_gRd d7') (fun e => by
        refine ⟨?_, by rw [q3]; exact if_pos rfl⟩
        rw [q4]
        refine (if_pos rfl).trans ?_
        rcases htr with ⟨e2, -⟩ | ⟨-, e2, -⟩
        · omega
        · rw [e2]; rfl)
    rw [eG] at k3
    have n1 : (-1 : Int) < 0 := by decide
    refine CR_g hS' (fun j j1 => (f2 j (by omega)).trans ((f1 j (by omega)).trans (f0.1 j (by omega) (by omega) (by omega) (by omega) (by omega)))) i2 fun Q => ?_
    rw [e14]
    simp (config := { decide := true }) only [w_iload_n1 (pc' := 1) q14 d14_0 rfl, w_invs1 (pc' := 4) q14 d14_1 rfl (by decide +kernel) k14_74_99 m15.1, w_aload_n0 (pc' := 5) q14 d14_4 rfl, w_getV (pc' := 8) q14 d14_5 rfl f14_12, w_invv0 (ci := 8) (pc' := 11) q14 d14_8 rfl n14_67 k14_67_8 m122.1, w_if_lt (tg := 24) (pc' := 14) q14 d14_11 (by decide) rfl, w_throw (ee := 1) q14 d14_14 (by decide +kernel), w_aload_n0 (pc' := 25) q14 d14_24 rfl, w_getV (pc' := 28) q14 d14_25 rfl f14_36, w_aload_n0 (pc' := 29) q14 d14_28 rfl, w_getV (pc' := 32) q14 d14_29 rfl f14_19, w_getV (pc' := 35) q14 d14_32 rfl f14_80, w_invv1 (ci := 4) (pc' := 38) q14 d14_35 rfl n14_83 k14_83_4 m90.1, w_pop (pc' := 39) q14 d14_38 rfl, w_aload_n0 (pc' := 40) q14 d14_39 rfl, w_getV (pc' := 43) q14 d14_40 rfl f14_19, w_getV (pc' := 46) q14 d14_43 rfl f14_80, w_iload_n1 (pc' := 47) q14 d14_46 rfl, w_aload_n0 (pc' := 48) q14 d14_47 rfl, w_getV (pc' := 51) q14 d14_48 rfl f14_12, w_invv2 (ci := 9) (pc' := 54) q14 d14_51 rfl n14_87 k14_87_9 m156.1, w_aload_n0 (pc' := 55) q14 d14_54 rfl, w_getV (pc' := 58) q14 d14_55 rfl f14_19, w_iload_n1 (pc' := 59) q14 d14_58 rfl, w_invv1 (ci := 2) (pc' := 62) q14 d14_59 rfl n14_91 k14_91_2 m63.1, w_ireturn q14 d14_62 m14.2.1, gs_off, gs_off0, gs_0off, gs_2, xN_0, xN_2, xN_3, xN_6, xN_7, xN_8, xN_9, xN_10, xN_11, xN_12, xN_13, xN_14, xN_15, xN_16, xN_17, xN_18, xN_19, xN_20, xN_21, xN_22, xN_23, xN_24, xN_25, xN_26, xN_27, xN_28, xN_29, xN_30, xN_31, xN_32, xN_33, xN_34, xN_35, xN_36, xN_37, xN_38, xN_39, xN_40, xN_41, xN_42, xN_43, xN_44, xN_45, xN_46, xN_47, xN_48, xN_49, xN_50, xN_51, xN_52, xN_53, xN_54, xN_55, ti_0, ti_1, ti_2, ti_3, ti_4, ti_5, ti_6, ti_7, ti_8, ti_9, ti_10, ti_16, ti_19, ti_20, ti_29, ti_30, ti_31, ti_32, ti_35, ti_36, ti_38, ti_39, ti_40, ti_41, ti_42, ti_43, ti_44, ti_45, ti_46, ti_47, ti_48, ti_49, ti_50, ti_51, ti_52, ti_53, ti_54, ti_55, ti_56, ti_57, ti_58, ti_59, ti_60, ti_61, ti_62, ti_63, ti_64, ti_65, ti_74, ti_77, ti_126, ti_200, ti_201, ti_202, ti_203, ti_204, ti_205, ti_210, ti_255, ti_256, ti_400, ti_512, ti_600, ti_601, ti_602, ti_1000, ti_1023, ti_1024, ti_2000, ti_10000, ti_12602, ti_999999, ti_m999999, ti_m1, ti_2000000, ti_3000000, xN_1, xN_4, xN_5, xN_60, xN_61, xN_64, xN_200, xN_800, xN_12000, xN_12602, eq_self, and_self, and_true, true_and, if_true, if_false, decide_true, Nat.reduceLeDiff, xc2_int, xc2_ref, xc2_ra, xc2_null, xc2_long, xc2_none, xisaT_ref, xisaT_ra, xisaT_null, xc1T_int, xc1T_ref, xc1T_ra, xc1T_null, xsum_nil, xsum_int, xsum_ref, xsum_ra, xsum_long, xsum_double, xsum_null, xfl_nil, xfl_int, xfl_ref, xfl_ra, xfl_null, xfl_long, xfl_double, List.length_cons, List.length_nil, r1, c0, k0, b0, p0, y0, k1, tm1, n1, k2, hpr, k3, xfk, xfv, xak, xan, xcls, xsv', List.getElem?_cons_zero, List.getElem?_cons_succ, List.getD_cons_zero, List.getD_cons_succ, Option.getD_some, Option.isSome_some, if_true, if_pos, xcont, Option.toList_none, Option.toList_some, List.nil_append, List.cons_append]
end
