/-! The class: States that are copies; keep; a state is recorded -/
section
variable {X : xX} {S : xLm} {g g' : xGm} {d c p k t o y b m : Nat} {w : xH} {Q : xO → xH → Prop} {P P' : Pd} {A A' : Sh} {sn : Option Sh} {H : List Sh}
theorem Sol_same {K T Er R r : _} {n : Int} {K' Er' R' : Int → Int} {T' : Int → List Int} (h : Sol K T Er R r n) (hV : VfA K T) (hK : ∀ c, 0 ≤ c → c < 200 → K' c = K c ∧ T' c = T c ∧ Er' c = Er c ∧ R' c = R c) : Sol K' T' Er' R' r n := by
  have ho : ∀ i, onx (FmA K') (RfA K' T') r i = onx (FmA K) (RfA K T) r i := fun i => onx_congr (fun c c1 c2 => by unfold FmA; rw [(hK c c1 c2).1]) (fun c o c1 c2 _ _ => by unfold RfA; rw [(hK c c1 c2).1, (hK c c1 c2).2.1]) (fun _ _ _ => rfl)
  exact (Sol_copy h hV hK (fun i i1 i2 => ⟨(h.1 i i1 i2).1.trans (ho i).symm, (h.1 i i1 i2).2⟩) h.2.1 (by rw [ho]; exact h.2.2.1)).1
theorem StR_copy {a b : Nat} (h : StR g a) (hE : StE g a g' b) (hI : StI g' b) : StR g' b := by
  obtain ⟨h1, h2, r, n, h3⟩ := h
  exact ⟨hI, VfA_copy h2 (fun x x1 x2 => ⟨(hE x x1 x2).1, (hE x x1 x2).2.1⟩), r, n, Sol_same h3 h2 (fun x x1 x2 => hE x x1 x2)⟩
theorem StA_copy {a b : Nat} (h : StA g a A) (hE : StE g a g' b) (hI : StI g' b) (hJ : StI g a) (h5 : g' b 5 = g a 5) (h6 : g' b 6 = g a 6) : StA g' b A := by
  refine ⟨fun x x1 x2 => ?_, h5.trans h.2.1, h6.trans h.2.2⟩
  obtain ⟨a1, a2, a3, a4⟩ := hE x x1 x2
  obtain ⟨b1, b2, b3, b4⟩ := h.1 x x1 x2
  rw [a1, a2, a4]
  refine ⟨b1, b2, b3, fun e => ?_⟩
  have l1 := tkl_len g' b x
  have l2 := tkl_len g a x
  rw [a2, l2, b4 e] at l1
  have := hI.2.2.2.1 x
  omega
theorem q_keep (hS : CsS S c p k t o y b m) (hI : CdI g c p k t o y P A sn H) : CRs X S g c p k t o y b m 4 (d + 12) [.ref c] (.inl (some (.int (iI (qFil A))))) P A (some A) H := by
  have hS' := hS
  obtain ⟨c0, ⟨hp0, hk0, ht0, ho0, hy0⟩, hL⟩ := hS
  obtain ⟨k0, kS, kL⟩ := id hk0
  have b0 := kS.1
  have o0 := ho0.1
  obtain ⟨hP, ⟨hC, hM, hA⟩, hT, hSn, hH⟩ := id hI
  have hr := hC.1
  have hta := fun Q => c_takeAll (X := X) (d := d + 8) (g := g) (b := o) (o := k + 1) (Q := Q) ho0 kS (by omega) (fun j _ _ => hr.2.2.2.1 j)
  obtain ⟨G, eG⟩ : ∃ G, G = gs (gB' g o (k + 1)) c 4 1 := ⟨_, rfl⟩
  have hrow : ∀ h, ¬ h = c → (h < o ∨ o + 5 < h) → G h = g h := fun h h1 h2 => by rw [eG, gs_row _ _ _ h1, gB'_row h2]
  have hro : ∀ h, ¬ h = c → G h = gB' g o (k + 1) h := fun h h1 => by rw [eG, gs_row _ _ _ h1]
  have f1 := fun Q => c_countOfFilled (X := X) (d := d + 11) (g := G) (Q := Q) kS
  have w1 : sumf (fun j => if ti (G (k + 1 + 1) j) = 0 then 0 else 1) 0 200 = qFil A := sumf_congr 200 0 (fun j j1 j2 => by
    have hz := hr.1 j
    rw [hrow _ (by omega) (by omega), ti_eq (by omega) (by omega), (hM.1 j j1 (by omega)).1])
  rw [w1] at f1
  have iG : StI G o := StI_congr (fun j _ _ => hro _ (by omega)) (gB'_StI hSn.1 hr)
  have eE : StE g (k + 1) G o := fun x x1 x2 => by
    have h := gB'_StE (b := o) hr x x1 x2
    rw [hro _ (by omega), hro _ (by omega), hro _ (by omega), tkl_congr (g := gB' g o (k + 1)) (g' := G) (b := o) (hro _ (by omega)) (hro _ (by omega))]
    exact h
  refine CR_g (g' := G) hS' (fun j j1 => hrow j (by omega) (by omega)) ⟨PdC_congr (by rw [hrow p (by omega) (by omega)]) (hrow _ (by omega) (by omega)) hP, ⟨ClI_congr (fun j _ _ => hrow j (by omega) (by omega)) hC, StA_congr (fun j _ => hrow _ (by omega) (by omega)) hM, hA⟩, TrI_congr (fun j _ _ => hrow j (by omega) (by omega)) hT, ⟨iG, ?_, hA, StR_copy (StR_of hC) eE iG, StA_copy hM eE iG hr (by rw [hro o (by omega)]; exact gB'_5) (by rw [hro o (by omega)]; exact gB'_6)⟩, HiC_congr (fun j _ _ => hrow j (by omega) (by omega)) hH⟩ fun Q => ?_
  · rw [eG, gs_at, if_pos rfl]
  · have hta' : ∀ Q, Cw X (d + 11) 149 [.ref o, .ref (k + 1)] (hp S g) Q = Q (.inl none) (hp S (gB' g o (k + 1))) := hta
    rw [eG] at f1
    rw [e4, eG]
    simp (config := { decide := true }) only [w_aload_n0 (pc' := 1) q4 d4_0 rfl, w_getV (pc' := 4) q4 d4_1 rfl f4_29, w_aload_n0 (pc' := 5) q4 d4_4 rfl, w_getV (pc' := 8) q4 d4_5 rfl f4_19, w_getV (pc' := 11) q4 d4_8 rfl f4_80, w_invv1 (ci := 9) (pc' := 14) q4 d4_11 rfl n4_171 k4_171_9 m149.1, w_aload_n0 (pc' := 15) q4 d4_14 rfl, w_iconst (pc' := 16) q4 d4_15 rfl, w_putZ (pc' := 19) q4 d4_16 rfl f4_158 rfl (by decide +kernel), w_aload_n0 (pc' := 20) q4 d4_19 rfl, w_getV (pc' := 23) q4 d4_20 rfl f4_19, w_getV (pc' := 26) q4 d4_23 rfl f4_80, w_invv0 (ci := 9) (pc' := 29) q4 d4_26 rfl n4_168 k4_168_9 m152.1, w_ireturn q4 d4_29 m4.2.1, gs_off, gs_off0, gs_0off, gs_2, xN_0, xN_2, xN_3, xN_6, xN_7, xN_8, xN_9, xN_10, xN_11, xN_12, xN_13, xN_14, xN_15, xN_16, xN_17, xN_18, xN_19, xN_20, xN_21, xN_22, xN_23, xN_24, xN_25, xN_26, xN_27, xN_28, xN_29, xN_30, xN_31, xN_32, xN_33, xN_34, xN_35, xN_36, xN_37, xN_38, xN_39, xN_40, xN_41, xN_42, xN_43, xN_44, xN_45, xN_46, xN_47, xN_48, xN_49, xN_50, xN_51, xN_52, xN_53, xN_54, xN_55, ti_0, ti_1, ti_2, ti_3, ti_4, ti_5, ti_6, ti_7, ti_8, ti_9, ti_10, ti_16, ti_19, ti_20, ti_29, ti_30, ti_31, ti_32, ti_35, ti_36, ti_38, ti_39, ti_40, ti_41, ti_42, ti_43, ti_44, ti_45, ti_46, ti_47, ti_48, ti_49, ti_50, ti_51, ti_52, ti_53, ti_54, ti_55, ti_56, ti_57, ti_58, ti_59, ti_60, ti_61, ti_62, ti_63, ti_64, ti_65, ti_74, ti_77, ti_126, ti_200, ti_201, ti_202, ti_203, ti_204, ti_205, ti_210, ti_255, ti_256, ti_400, ti_512, ti_600, ti_601, ti_602, ti_1000, ti_1023, ti_1024, ti_2000, ti_10000, ti_12602, ti_999999, ti_m999999, ti_m1, ti_2000000, ti_3000000, xN_1, xN_4, xN_5, xN_60, xN_61, xN_64, xN_200, xN_800, xN_12000, xN_12602, eq_self, and_self, and_true, true_and, if_true, if_false, decide_true, Nat.reduceLeDiff, xc2_int, xc2_ref, xc2_ra, xc2_null, xc2_long, xc2_none, xisaT_ref, xisaT_ra, xisaT_null, xc1T_int, xc1T_ref, xc1T_ra, xc1T_null, xsum_nil, xsum_int, xsum_ref, xsum_ra, xsum_long, xsum_double, xsum_null, xfl_nil, xfl_int, xfl_ref, xfl_ra, xfl_null, xfl_long, xfl_double, List.length_cons, List.length_nil, c0, k0, b0, o0, hta', f1, xfk, xfv, xak, xan, xcls, xsv', List.getElem?_cons_zero, List.getElem?_cons_succ, List.getD_cons_zero, List.getD_cons_succ, Option.getD_some, Option.isSome_some, if_true, if_pos, xcont, Option.toList_none, Option.toList_some, List.nil_append, List.cons_append]
end
