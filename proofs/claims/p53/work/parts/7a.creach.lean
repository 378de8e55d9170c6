/-! The class: what holds over a call; what depends on a cell; chains -/
section
variable {X : xX} {S : xLm} {g g' : xGm} {d c p k t o y b m : Nat} {w : xH} {Q : xO → xH → Prop} {P : Pd} {A A' : Sh} {sn : Option Sh} {H : List Sh}
theorem PdC_congr (h0 : g' p 1 = g p 1) (h1 : g' (p + 1) = g (p + 1)) (h : PdC g p P) : PdC g' p P := by
  unfold PdC PcI rg at *
  rw [h0, h1]
  exact h
theorem StA_congr {b : Nat} (h : ∀ j, j ≤ 5 → g' (b + j) = g (b + j)) (hA : StA g b A) : StA g' b A := by
  have h0 : g' b = g b := h 0 (by decide)
  refine ⟨fun x x1 x2 => ?_, by rw [h0]; exact hA.2.1, by rw [h0]; exact hA.2.2⟩
  rw [h 1 (by decide), h 2 (by decide), h 4 (by decide), tkl_congr (h 4 (by decide)) (h 5 (by decide))]
  exact hA.1 x x1 x2
theorem StR_congr {b : Nat} (h : ∀ j, j ≤ 5 → g' (b + j) = g (b + j)) (hR : StR g b) : StR g' b := by
  obtain ⟨h1, h2, r, n, h3⟩ := hR
  have ht : tkl g' b = tkl g b := tkl_congr (h 4 (by decide)) (h 5 (by decide))
  refine ⟨StI_congr (fun j _ j2 => h j j2) h1, ?_, r, n, ?_⟩
  · rw [h 1 (by decide), ht]; exact h2
  · rw [h 1 (by decide), h 2 (by decide), h 3 (by decide), ht]; exact h3
theorem SnC_congr (hc : g' c 4 = g c 4) (ho : ∀ j, j ≤ 5 → g' (o + j) = g (o + j)) (h : SnC g c o sn) : SnC g' c o sn := by
  refine ⟨StI_congr (fun j _ j2 => ho j j2) h.1, ?_⟩
  cases sn with
  | none => exact hc.trans h.2
  | some B => exact ⟨hc.trans h.2.1, h.2.2.1, StR_congr ho h.2.2.2.1, StA_congr ho h.2.2.2.2⟩
theorem HiC_congr (hy : ∀ h, y ≤ h → h ≤ y + 25 → g' h = g h) (h : HiC g y H) : HiC g' y H := by
  obtain ⟨h1, h2, h3, h4, h5⟩ := h
  have e0 := hy y (by omega) (by omega)
  have e1 := hy (y + 1) (by omega) (by omega)
  refine ⟨by unfold HsI at *; rw [e0, e1]; exact h1, fun q hq => StI_congr (fun j _ j2 => hy _ (by omega) (by omega)) (h2 q hq), by rw [e0]; exact h3, h4, fun i B hB => ?_⟩
  obtain ⟨b1, q, q1, q2, q3, q4⟩ := h5 i B hB
  exact ⟨b1, q, q1, by rw [e0]; exact q2, StR_congr (fun j j2 => hy _ (by omega) (by omega)) q3, StA_congr (fun j j2 => hy _ (by omega) (by omega)) q4⟩
theorem TrI_congr (ht : ∀ h, t ≤ h → h ≤ t + 15 → g' h = g h) (h : TrI g t) : TrI g' t := by
  refine ⟨StI_congr (fun j _ j2 => ht _ (by omega) (by omega)) h.1, ?_⟩
  have h2 := h.2
  unfold LkR rg at h2 ⊢
  rw [ht (t + 7 + 2) (by omega) (by omega), ht (t + 7 + 3) (by omega) (by omega), ht (t + 7 + 4) (by omega) (by omega), ht (t + 7 + 5) (by omega) (by omega), ht (t + 7 + 6) (by omega) (by omega), ht (t + 7 + 7) (by omega) (by omega)]
  exact h2
/-- what a call leaves that touches the sheet alone -/
theorem CdI_calc (hL : c < p ∧ p + 5 < k ∧ k + 15 < t ∧ t + 15 < o ∧ o + 5 < y) (hf : ∀ h, h < k ∨ k + 15 < h → g' h = g h) (h1 : ClI g' k) (h2 : StA g' (k + 1) A') (h3 : ShOK A') (h : CdI g c p k t o y P A sn H) : CdI g' c p k t o y P A' sn H :=
  ⟨PdC_congr (by rw [hf p (by omega)]) (hf _ (by omega)) h.1, ⟨h1, h2, h3⟩, TrI_congr (fun j _ _ => hf j (by omega)) h.2.2.1, SnC_congr (by rw [hf c (by omega)]) (fun j _ => hf _ (by omega)) h.2.2.2.1, HiC_congr (fun j _ _ => hf j (by omega)) h.2.2.2.2⟩
theorem ClI_marks (hf : ∀ h, ¬ h = k + 7 + 6 → ¬ h = k + 7 + 7 → ¬ h = k + 7 + 8 → g' h = g h) (r6 : rg g' (k + 7 + 6) 0 1) (r7 : rg g' (k + 7 + 7) 0 199) (h : ClI g k) : ClI g' k := by
  obtain ⟨h1, h2, h3, h4, h5⟩ := h
  have ht : tkl g' (k + 1) = tkl g (k + 1) := tkl_congr (hf (k + 1 + 4) (by omega) (by omega) (by omega)) (hf (k + 1 + 5) (by omega) (by omega) (by omega))
  have e1 := hf (k + 1 + 1) (by omega) (by omega) (by omega)
  refine ⟨StI_congr (fun j _ _ => hf _ (by omega) (by omega) (by omega)) h1, by rw [ht, e1]; exact h2, ?_, ?_, ?_⟩
  · rw [ht, e1]
    exact LkI_congr (fun j _ _ => hf j (by omega) (by omega) (by omega)) h3
  · unfold LkR rg at h4 ⊢
    rw [hf (k + 7 + 2) (by omega) (by omega) (by omega), hf (k + 7 + 3) (by omega) (by omega) (by omega), hf (k + 7 + 4) (by omega) (by omega) (by omega), hf (k + 7 + 5) (by omega) (by omega) (by omega)]
    exact ⟨h4.1, h4.2.1, h4.2.2.1, h4.2.2.2.1, r6, r7⟩
  · unfold SolC at h5 ⊢
    rw [ht, e1, hf (k + 1 + 3) (by omega) (by omega) (by omega), hf (k + 1 + 2) (by omega) (by omega) (by omega), hf (k + 7 + 3) (by omega) (by omega) (by omega), hf (k + 7) (by omega) (by omega) (by omega)]
    exact h5
theorem CdI_marks (hL : c < p ∧ p + 5 < k ∧ k + 15 < t ∧ t + 15 < o ∧ o + 5 < y) (hf : ∀ h, ¬ h = k + 7 + 6 → ¬ h = k + 7 + 7 → ¬ h = k + 7 + 8 → g' h = g h) (r6 : rg g' (k + 7 + 6) 0 1) (r7 : rg g' (k + 7 + 7) 0 199) (h : CdI g c p k t o y P A sn H) : CdI g' c p k t o y P A sn H :=
  CdI_calc hL (fun j hj => hf j (by omega) (by omega) (by omega)) (ClI_marks hf r6 r7 h.2.1.1) (StA_congr (fun j _ => hf _ (by omega) (by omega) (by omega)) h.2.1.2.1) h.2.1.2.2 h
/-- a call that changes memory alone, and no text -/
theorem CR_g {M D : Nat} {As : List Value} {out : xO} (hS : CsS S c p k t o y b m) (hf : ∀ h, b ≤ h → g' h = g h) (hI : CdI g' c p k t o y P A sn H) (h : ∀ Q, Cw X D M As (hp S g) Q = Q out (hp S g')) : CRs X S g c p k t o y b m M D As out P A sn H :=
  ⟨S, g', SEx_refl, fun j j1 _ => hf j (by have := hS.2.2; omega), TxE_keep (S := S) (S' := S) (g := g) (m := m) (b := b) (fun _ _ => rfl) (Nat.le_refl _) (by have := hS.2.2; omega) (by have := hS.2.2; omega) (fun h hb _ => hf h hb) (Nat.le_add_right _ _) (Nat.le_add_right _ _), hI, h⟩
theorem CdI_re (hI : CdI g c p k t o y P A sn H) {z x : Int} (z1 : 0 ≤ z) (z2 : z < 200) : Rc (Eg g (k + 7) true) z x ↔ reA A z x = true := by
  rw [UsE_Rc hI.2.1.1.2.2.1 z1 z2]
  unfold reA
  rw [cb_iff]
  refine Rc_congr (fun u v => ?_) x
  have hK : ∀ v, 0 ≤ v → v < 200 → g (k + 1 + 1) v = A.1 v ∧ (A.1 v = 2 → tkl g (k + 1) v = A.2.2.1 v) := fun v v1 v2 => ⟨(hI.2.1.2.1.1 v v1 v2).1, (hI.2.1.2.1.1 v v1 v2).2.2.1⟩
  unfold UsE FmA RfA
  constructor
  · rintro ⟨a1, a2, a3, a4, a5, a6, a7⟩
    obtain ⟨q1, q2⟩ := hK v a3 a4
    rw [q1] at a5 a6
    rw [q2 a6] at a7
    exact ⟨a1, a2, a3, a4, a5, a6, a7⟩
  · rintro ⟨a1, a2, a3, a4, a5, a6, a7⟩
    obtain ⟨q1, q2⟩ := hK v a3 a4
    rw [← q2 a6] at a7
    rw [← q1] at a5 a6
    exact ⟨a1, a2, a3, a4, a5, a6, a7⟩
theorem c_reachC {z : Int} (hS : CsS S c p k t o y b m) (hI : CdI g c p k t o y P A sn H) (z1 : 0 ≤ z) (z2 : z < 200) :
    ∃ g', (∀ h, b ≤ h → g' h = g h) ∧ CdI g' c p k t o y P A sn H ∧ (∀ x, 0 ≤ x → x < 200 → (0 ≤ g' (k + 7 + 6) x ∧ g' (k + 7 + 6) x ≤ 1) ∧ (g' (k + 7 + 6) x = 1 ↔ reA A z x = true)) ∧ ∀ Q, Cw X (d + 2) 108 [.ref (k + 7), .int (iI z)] (hp S g) Q = Q (.inl none) (hp S g') := by
  obtain ⟨c0, ⟨hp0, hk0, ht0, ho0, hy0⟩, hL⟩ := hS
  obtain ⟨k0, -, kL⟩ := id hk0
  obtain ⟨n0, n1, n2⟩ := CdI_n hI
  have hR := hI.2.1.1.2.2.2.1
  obtain ⟨g', h1, h2, h3, h4, h5⟩ := c_usersOf (X := X) (d := d) (g := g) kL z1 z2 rfl n0 n1 hR.1 hR.2.2.2.2.1 hR.2.2.2.2.2
  exact ⟨g', fun h hh => h1 h (by omega) (by omega), CdI_marks (by omega) (fun h a1 a2 _ => h1 h a1 a2) h2 h3 hI, fun x x1 x2 => ⟨h2 x, (h4 x x1 x2).trans (CdI_re hI z1 z2)⟩, h5⟩
theorem q_allDeps {z : Int} (hS : CsS S c p k t o y b m) (hI : CdI g c p k t o y P A sn H) (tz : ti z = z) :
    (¬ isB z → CRs X S g c p k t o y b m 50 (d + 12) [.ref c, .int (iI z)] (.inr 0) P A sn H ∧ CRs X S g c p k t o y b m 52 (d + 12) [.ref c, .int (iI z)] (.inr 0) P A sn H) ∧
    (isB z → CRs X S g c p k t o y b m 50 (d + 12) [.ref c, .int (iI z)] (.inl (some (.int (iI (sumf (ind (reA A z)) 0 200))))) P A sn H ∧ CRs X S g c p k t o y b m 52 (d + 12) [.ref c, .int (iI z)] (.inl (some (.int (iI (if reA A z z = true then 1 else 0))))) P A sn H) := by
  have hS' := hS
  obtain ⟨c0, ⟨hp0, hk0, ht0, ho0, hy0⟩, hL⟩ := hS
  obtain ⟨k0, -, kL⟩ := id hk0
  obtain ⟨l0, l1, l2, l3, l4, l5, l6, -⟩ := id kL
  have hrq := c_requireCell (X := X) (S := S) (g := g) (d := d + 10) tz
  have h50 : xMh 50 = [] := by decide +kernel
  have h52 : xMh 52 = [] := by decide +kernel
  refine ⟨fun h => ?_, fun h => ?_⟩
  · have hr := hrq.2 h
    refine ⟨CR_x hI fun Q => ?_, CR_x hI fun Q => ?_⟩
    · rw [e50]
      simp (config := { decide := true }) only [w_iload_n1 (pc' := 1) q50 d50_0 rfl, w_invs1 (pc' := 4) q50 d50_1 rfl (by decide +kernel) k50_74_99 m15.1, gs_off, gs_off0, gs_0off, gs_2, xN_0, xN_2, xN_3, xN_6, xN_7, xN_8, xN_9, xN_10, xN_11, xN_12, xN_13, xN_14, xN_15, xN_16, xN_17, xN_18, xN_19, xN_20, xN_21, xN_22, xN_23, xN_24, xN_25, xN_26, xN_27, xN_28, xN_29, xN_30, xN_31, xN_32, xN_33, xN_34, xN_35, xN_36, xN_37, xN_38, xN_39, xN_40, xN_41, xN_42, xN_43, xN_44, xN_45, xN_46, xN_47, xN_48, xN_49, xN_50, xN_51, xN_52, xN_53, xN_54, xN_55, ti_0, ti_1, ti_2, ti_3, ti_4, ti_5, ti_6, ti_7, ti_8, ti_9, ti_10, ti_16, ti_19, ti_20, ti_29, ti_30, ti_31, ti_32, ti_35, ti_36, ti_38, ti_39, ti_40, ti_41, ti_42, ti_43, ti_44, ti_45, ti_46, ti_47, ti_48, ti_49, ti_50, ti_51, ti_52, ti_53, ti_54, ti_55, ti_56, ti_57, ti_58, ti_59, ti_60, ti_61, ti_62, ti_63, ti_64, ti_65, ti_74, ti_77, ti_126, ti_200, ti_201, ti_202, ti_203, ti_204, ti_205, ti_210, ti_255, ti_256, ti_400, ti_512, ti_600, ti_601, ti_602, ti_1000, ti_1023, ti_1024, ti_2000, ti_10000, ti_12602, ti_999999, ti_m999999, ti_m1, ti_2000000, ti_3000000, xN_1, xN_4, xN_5, xN_60, xN_61, xN_64, xN_200, xN_800, xN_12000, xN_12602, eq_self, and_self, and_true, true_and, if_true, if_false, decide_true, Nat.reduceLeDiff, xc2_int, xc2_ref, xc2_ra, xc2_null, xc2_long, xc2_none, xisaT_ref, xisaT_ra, xisaT_null, xc1T_int, xc1T_ref, xc1T_ra, xc1T_null, xsum_nil, xsum_int, xsum_ref, xsum_ra, xsum_long, xsum_double, xsum_null, xfl_nil, xfl_int, xfl_ref, xfl_ra, xfl_null, xfl_long, xfl_double, List.length_cons, List.length_nil, hr, xth_n h50, xfk, xfv, xak, xan, xcls, xsv', List.getElem?_cons_zero, List.getElem?_cons_succ, List.getD_cons_zero, List.getD_cons_succ, Option.getD_some, Option.isSome_some, if_true, if_pos, xcont, Option.toList_none, Option.toList_some, List.nil_append, List.cons_append]
    · rw [e52]
      simp (config := { decide := true }) only [w_iload_n1 (pc' := 1) q52 d52_0 rfl, w_invs1 (pc' := 4) q52 d52_1 rfl (by decide +kernel) k52_74_99 m15.1, gs_off, gs_off0, gs_0off, gs_2, xN_0, xN_2, xN_3, xN_6, xN_7, xN_8, xN_9, xN_10, xN_11, xN_12, xN_13, xN_14, xN_15, xN_16, xN_17, xN_18, xN_19, xN_20, xN_21, xN_22, xN_23, xN_24, xN_25, xN_26, xN_27, xN_28, xN_29, xN_30, xN_31, xN_32, xN_33, xN_34, xN_35, xN_36, xN_37, xN_38, xN_39, xN_40, xN_41, xN_42, xN_43, xN_44, xN_45, xN_46, xN_47, xN_48, xN_49, xN_50, xN_51, xN_52, xN_53, xN_54, xN_55, ti_0, ti_1, ti_2, ti_3, ti_4, ti_5, ti_6, ti_7, ti_8, ti_9, ti_10, ti_16, ti_19, ti_20, ti_29, ti_30, ti_31, ti_32, ti_35, ti_36, ti_38, ti_39, ti_40, ti_41, ti_42, ti_43, ti_44, ti_45, ti_46, ti_47, ti_48, ti_49, ti_50, ti_51, ti_52, ti_53, ti_54, ti_55, ti_56, ti_57, ti_58, ti_59, ti_60, ti_61, ti_62, ti_63, ti_64, ti_65, ti_74, ti_77, ti_126, ti_200, ti_201, ti_202, ti_203, ti_204, ti_205, ti_210, ti_255, ti_256, ti_400, ti_512, ti_600, ti_601, ti_602, ti_1000, ti_1023, ti_1024, ti_2000, ti_10000, ti_12602, ti_999999, ti_m999999, ti_m1, ti_2000000, ti_3000000, xN_1, xN_4, xN_5, xN_60, xN_61, xN_64, xN_200, xN_800, xN_12000, xN_12602, eq_self, and_self, and_true, true_and, if_true, if_false, decide_true, Nat.reduceLeDiff, xc2_int, xc2_ref, xc2_ra, xc2_null, xc2_long, xc2_none, xisaT_ref, xisaT_ra, xisaT_null, xc1T_int, xc1T_ref, xc1T_ra, xc1T_null, xsum_nil, xsum_int, xsum_ref, xsum_ra, xsum_long, xsum_double, xsum_null, xfl_nil, xfl_int, xfl_ref, xfl_ra, xfl_null, xfl_long, xfl_double, List.length_cons, List.length_nil, hr, xth_n h52, xfk, xfv, xak, xan, xcls, xsv', List.getElem?_cons_zero, List.getElem?_cons_succ, List.getD_cons_zero, List.getD_cons_succ, Option.getD_some, Option.isSome_some, if_true, if_pos, xcont, Option.toList_none, Option.toList_some, List.nil_append, List.cons_append]
  · have hr := hrq.1 h
    obtain ⟨z1, z2⟩ := id h
    obtain ⟨g', f1, i1, v1, q1⟩ := c_reachC (X := X) (d := d + 9) hS' hI z1 z2
    obtain ⟨n0, n1, n2⟩ := CdI_n i1
    have hR := i1.2.1.1.2.2.2.1
    have hm := fun Q => c_marked (X := X) (d := d + 10) (g := g') (Q := Q) kL rfl n0 n1 hR.1 hR.2.2.2.2.1
    have e : sumf (fun i => g' (k + 7 + 6) (g' (k + 7 + 2) i)) 0 (g' (k + 7) 2).toNat = sumf (ind (reA A z)) 0 200 := by
      rw [sumf_FC (f := fun x => g' (k + 7 + 6) x) i1.2.1.1.2.2.1.2.1]
      refine sumf_congr 200 0 (fun j j1 j2 => ?_)
      obtain ⟨w1, w2⟩ := v1 j j1 (by omega)
      unfold ind
      by_cases q : reA A z j = true
      · have q2 := q
        unfold reA at q2
        rw [cb_iff] at q2
        have q3 : A.1 j = 2 := by
          obtain ⟨n, hn⟩ := q2
          cases n with
          | zero => exact of_decide_eq_true hn.2.2.2.2.1
          | succ n =>
            obtain ⟨u, -, hu⟩ := hn
            exact of_decide_eq_true hu.2.2.2.2.1
        have q4 : FmA (g' (k + 1 + 1)) j = true := by unfold FmA; rw [(i1.2.1.2.1.1 j j1 (by omega)).1]; exact decide_eq_true q3
        simp only [q4, q, if_true]
        exact w2.mpr q
      · have w3 : ¬ g' (k + 7 + 6) j = 1 := fun e => q (w2.mp e)
        simp only [q, if_false, Bool.false_eq_true]
        split
        · omega
        · rfl
    rw [e] at hm
    have t1 : ti (g' (k + 7 + 6) z) = g' (k + 7 + 6) z := by have := (v1 z z1 z2).1; exact ti_eq (by omega) (by omega)
    refine ⟨CR_g hS' f1 i1 fun Q => ?_, CR_g hS' f1 i1 fun Q => ?_⟩
    · rw [e50]
      simp (config := { decide := true }) only [w_iload_n1 (pc' := 1) q50 d50_0 rfl, w_invs1 (pc' := 4) q50 d50_1 rfl (by decide +kernel) k50_74_99 m15.1, w_aload_n0 (pc' := 5) q50 d50_4 rfl, w_getV (pc' := 8) q50 d50_5 rfl f50_19, w_getV (pc' := 11) q50 d50_8 rfl f50_210, w_iload_n1 (pc' := 12) q50 d50_11 rfl, w_invv1 (ci := 6) (pc' := 15) q50 d50_12 rfl n50_226 k50_226_6 m108.1, w_aload_n0 (pc' := 16) q50 d50_15 rfl, w_getV (pc' := 19) q50 d50_16 rfl f50_19, w_getV (pc' := 22) q50 d50_19 rfl f50_210, w_invv0 (ci := 6) (pc' := 25) q50 d50_22 rfl n50_229 k50_229_6 m111.1, w_ireturn q50 d50_25 m50.2.1, gs_off, gs_off0, gs_0off, gs_2, xN_0, xN_2, xN_3, xN_6, xN_7, xN_8, xN_9, xN_10, xN_11, xN_12, xN_13, xN_14, xN_15, xN_16, xN_17, xN_18, xN_19, xN_20, xN_21, xN_22, xN_23, xN_24, xN_25, xN_26, xN_27, xN_28, xN_29, xN_30, xN_31, xN_32, xN_33, xN_34, xN_35, xN_36, xN_37, xN_38, xN_39, xN_40, xN_41, xN_42, xN_43, xN_44, xN_45, xN_46, xN_47, xN_48, xN_49, xN_50, xN_51, xN_52, xN_53, xN_54, xN_55, ti_0, ti_1, ti_2, ti_3, ti_4, ti_5, ti_6, ti_7, ti_8, ti_9, ti_10, ti_16, ti_19, ti_20, ti_29, ti_30, ti_31, ti_32, ti_35, ti_36, ti_38, ti_39, ti_40, ti_41, ti_42, ti_43, ti_44, ti_45, ti_46, ti_47, ti_48, ti_49, ti_50, ti_51, ti_52, ti_53, ti_54, ti_55, ti_56, ti_57, ti_58, ti_59, ti_60, ti_61, ti_62, ti_63, ti_64, ti_65, ti_74, ti_77, ti_126, ti_200, ti_201, ti_202, ti_203, ti_204, ti_205, ti_210, ti_255, ti_256, ti_400, ti_512, ti_600, ti_601, ti_602, ti_1000, ti_1023, ti_1024, ti_2000, ti_10000, ti_12602, ti_999999, ti_m999999, ti_m1, ti_2000000, ti_3000000, xN_1, xN_4, xN_5, xN_60, xN_61, xN_64, xN_200, xN_800, xN_12000, xN_12602, eq_self, and_self, and_true, true_and, if_true, if_false, decide_true, Nat.reduceLeDiff, xc2_int, xc2_ref, xc2_ra, xc2_null, xc2_long, xc2_none, xisaT_ref, xisaT_ra, xisaT_null, xc1T_int, xc1T_ref, xc1T_ra, xc1T_null, xsum_nil, xsum_int, xsum_ref, xsum_ra, xsum_long, xsum_double, xsum_null, xfl_nil, xfl_int, xfl_ref, xfl_ra, xfl_null, xfl_long, xfl_double, List.length_cons, List.length_nil, hr, c0, k0, l0, q1, hm, xfk, xfv, xak, xan, xcls, xsv', List.getElem?_cons_zero, List.getElem?_cons_succ, List.getD_cons_zero, List.getD_cons_succ, Option.getD_some, Option.isSome_some, if_true, if_pos, xcont, Option.toList_none, Option.toList_some, List.nil_append, List.cons_append]
    · rw [e52]
      obtain ⟨w1, w2⟩ := v1 z z1 z2
      by_cases q : reA A z z = true
      · have w3 := w2.mpr q
        rw [if_pos q]
        simp (config := { decide := true }) only [w_iload_n1 (pc' := 1) q52 d52_0 rfl, w_invs1 (pc' := 4) q52 d52_1 rfl (by decide +kernel) k52_74_99 m15.1, w_aload_n0 (pc' := 5) q52 d52_4 rfl, w_getV (pc' := 8) q52 d52_5 rfl f52_19, w_getV (pc' := 11) q52 d52_8 rfl f52_210, w_iload_n1 (pc' := 12) q52 d52_11 rfl, w_invv1 (ci := 6) (pc' := 15) q52 d52_12 rfl n52_226 k52_226_6 m108.1, w_aload_n0 (pc' := 16) q52 d52_15 rfl, w_getV (pc' := 19) q52 d52_16 rfl f52_19, w_getV (pc' := 22) q52 d52_19 rfl f52_210, w_getV (pc' := 25) q52 d52_22 rfl f52_232, w_iload_n1 (pc' := 26) q52 d52_25 rfl, w_zaload (pc' := 27) q52 d52_26 rfl, w_baload (pc' := 27) q52 d52_26 rfl, w_zreturn q52 d52_27 m52.2.1, gs_off, gs_off0, gs_0off, gs_2, xN_0, xN_2, xN_3, xN_6, xN_7, xN_8, xN_9, xN_10, xN_11, xN_12, xN_13, xN_14, xN_15, xN_16, xN_17, xN_18, xN_19, xN_20, xN_21, xN_22, xN_23, xN_24, xN_25, xN_26, xN_27, xN_28, xN_29, xN_30, xN_31, xN_32, xN_33, xN_34, xN_35, xN_36, xN_37, xN_38, xN_39, xN_40, xN_41, xN_42, xN_43, xN_44, xN_45, xN_46, xN_47, xN_48, xN_49, xN_50, xN_51, xN_52, xN_53, xN_54, xN_55, ti_0, ti_1, ti_2, ti_3, ti_4, ti_5, ti_6, ti_7, ti_8, ti_9, ti_10, ti_16, ti_19, ti_20, ti_29, ti_30, ti_31, ti_32, ti_35, ti_36, ti_38, ti_39, ti_40, ti_41, ti_42, ti_43, ti_44, ti_45, ti_46, ti_47, ti_48, ti_49, ti_50, ti_51, ti_52, ti_53, ti_54, ti_55, ti_56, ti_57, ti_58, ti_59, ti_60, ti_61, ti_62, ti_63, ti_64, ti_65, ti_74, ti_77, ti_126, ti_200, ti_201, ti_202, ti_203, ti_204, ti_205, ti_210, ti_255, ti_256, ti_400, ti_512, ti_600, ti_601, ti_602, ti_1000, ti_1023, ti_1024, ti_2000, ti_10000, ti_12602, ti_999999, ti_m999999, ti_m1, ti_2000000, ti_3000000, xN_1, xN_4, xN_5, xN_60, xN_61, xN_64, xN_200, xN_800, xN_12000, xN_12602, eq_self, and_self, and_true, true_and, if_true, if_false, decide_true, Nat.reduceLeDiff, xc2_int, xc2_ref, xc2_ra, xc2_null, xc2_long, xc2_none, xisaT_ref, xisaT_ra, xisaT_null, xc1T_int, xc1T_ref, xc1T_ra, xc1T_null, xsum_nil, xsum_int, xsum_ref, xsum_ra, xsum_long, xsum_double, xsum_null, xfl_nil, xfl_int, xfl_ref, xfl_ra, xfl_null, xfl_long, xfl_double, List.length_cons, List.length_nil, hr, c0, k0, l0, l6, q1, tz, z1, z2, w3, xzb_0, xzb_1, xfk, xfv, xak, xan, xcls, xsv', List.getElem?_cons_zero, List.getElem?_cons_succ, List.getD_cons_zero, List.getD_cons_succ, Option.getD_some, Option.isSome_some, if_true, if_pos, xcont, Option.toList_none, Option.toList_some, List.nil_append, List.cons_append]
      · have w3 : g' (k + 7 + 6) z = 0 := by
          have : ¬ g' (k + 7 + 6) z = 1 := fun e => q (w2.mp e)
          omega
        rw [if_neg q]
        simp (config := { decide := true }) only [w_iload_n1 (pc' := 1) q52 d52_0 rfl, w_invs1 (pc' := 4) q52 d52_1 rfl (by decide +kernel) k52_74_99 m15.1, w_aload_n0 (pc' := 5) q52 d52_4 rfl, w_getV (pc' := 8) q52 d52_5 rfl f52_19, w_getV (pc' := 11) q52 d52_8 rfl f52_210, w_iload_n1 (pc' := 12) q52 d52_11 rfl, w_invv1 (ci := 6) (pc' := 15) q52 d52_12 rfl n52_226 k52_226_6 m108.1, w_aload_n0 (pc' := 16) q52 d52_15 rfl, w_getV (pc' := 19) q52 d52_16 rfl f52_19, w_getV (pc' := 22) q52 d52_19 rfl f52_210, w_getV (pc' := 25) q52 d52_22 rfl f52_232, w_iload_n1 (pc' := 26) q52 d52_25 rfl, w_zaload (pc' := 27) q52 d52_26 rfl, w_baload (pc' := 27) q52 d52_26 rfl, w_zreturn q52 d52_27 m52.2.1, gs_off, gs_off0, gs_0off, gs_2, xN_0, xN_2, xN_3, xN_6, xN_7, xN_8, xN_9, xN_10, xN_11, xN_12, xN_13, xN_14, xN_15, xN_16, xN_17, xN_18, xN_19, xN_20, xN_21, xN_22, xN_23, xN_24, xN_25, xN_26, xN_27, xN_28, xN_29, xN_30, xN_31, xN_32, xN_33, xN_34, xN_35, xN_36, xN_37, xN_38, xN_39, xN_40, xN_41, xN_42, xN_43, xN_44, xN_45, xN_46, xN_47, xN_48, xN_49, xN_50, xN_51, xN_52, xN_53, xN_54, xN_55, ti_0, ti_1, ti_2, ti_3, ti_4, ti_5, ti_6, ti_7, ti_8, ti_9, ti_10, ti_16, ti_19, ti_20, ti_29, ti_30, ti_31, ti_32, ti_35, ti_36, ti_38, ti_39, ti_40, ti_41, ti_42, ti_43, ti_44, ti_45, ti_46, ti_47, ti_48, ti_49, ti_50, ti_51, ti_52, ti_53, ti_54, ti_55, ti_56, ti_57, ti_58, ti_59, ti_60, ti_61, ti_62, ti_63, ti_64, ti_65, ti_74, ti_77, ti_126, ti_200, ti_201, ti_202, ti_203, ti_204, ti_205, ti_210, ti_255, ti_256, ti_400, ti_512, ti_600, ti_601, ti_602, ti_1000, ti_1023, ti_1024, ti_2000, ti_10000, ti_12602, ti_999999, ti_m999999, ti_m1, ti_2000000, ti_3000000, xN_1, xN_4, xN_5, xN_60, xN_61, xN_64, xN_200, xN_800, xN_12000, xN_12602, eq_self, and_self, and_true, true_and, if_true, if_false, decide_true, Nat.reduceLeDiff, xc2_int, xc2_ref, xc2_ra, xc2_null, xc2_long, xc2_none, xisaT_ref, xisaT_ra, xisaT_null, xc1T_int, xc1T_ref, xc1T_ra, xc1T_null, xsum_nil, xsum_int, xsum_ref, xsum_ra, xsum_long, xsum_double, xsum_null, xfl_nil, xfl_int, xfl_ref, xfl_ra, xfl_null, xfl_long, xfl_double, List.length_cons, List.length_nil, hr, c0, k0, l0, l6, q1, tz, z1, z2, w3, xzb_0, xzb_1, xfk, xfv, xak, xan, xcls, xsv', List.getElem?_cons_zero, List.getElem?_cons_succ, List.getD_cons_zero, List.getD_cons_succ, Option.getD_some, Option.isSome_some, if_true, if_pos, xcont, Option.toList_none, Option.toList_some, List.nil_append, List.cons_append]
theorem q_dependsOn {z x : Int} (hS : CsS S c p k t o y b m) (hI : CdI g c p k t o y P A sn H) (tz : ti z = z) (tx : ti x = x) :
    (¬ (isB z ∧ isB x) → CRs X S g c p k t o y b m 51 (d + 12) [.ref c, .int (iI z), .int (iI x)] (.inr 0) P A sn H) ∧
    (isB z ∧ isB x → CRs X S g c p k t o y b m 51 (d + 12) [.ref c, .int (iI z), .int (iI x)] (.inl (some (.int (iI (if reA A x z = true then 1 else 0))))) P A sn H) := by
  have hS' := hS
  obtain ⟨c0, ⟨hp0, hk0, ht0, ho0, hy0⟩, hL⟩ := hS
  obtain ⟨k0, -, kL⟩ := id hk0
  obtain ⟨l0, l1, l2, l3, l4, l5, l6, -⟩ := id kL
  have hrz := c_requireCell (X := X) (S := S) (g := g) (d := d + 10) tz
  have hrx := c_requireCell (X := X) (S := S) (g := g) (d := d + 10) tx
  have h51 : xMh 51 = [] := by decide +kernel
  refine ⟨fun h => CR_x hI fun Q => ?_, fun h => ?_⟩
  · rw [e51]
    by_cases hz : isB z
    · have r1 := hrz.1 hz
      have r2 := hrx.2 (fun e => h ⟨hz, e⟩)
      simp (config := { decide := true }) only [w_iload_n1 (pc' := 1) q51 d51_0 rfl, w_invs1 (pc' := 4) q51 d51_1 rfl (by decide +kernel) k51_74_99 m15.1, w_iload_n2 (pc' := 5) q51 d51_4 rfl, w_invs1 (pc' := 8) q51 d51_5 rfl (by decide +kernel) k51_74_99 m15.1, gs_off, gs_off0, gs_0off, gs_2, xN_0, xN_2, xN_3, xN_6, xN_7, xN_8, xN_9, xN_10, xN_11, xN_12, xN_13, xN_14, xN_15, xN_16, xN_17, xN_18, xN_19, xN_20, xN_21, xN_22, xN_23, xN_24, xN_25, xN_26, xN_27, xN_28, xN_29, xN_30, xN_31, xN_32, xN_33, xN_34, xN_35, xN_36, xN_37, xN_38, xN_39, xN_40, xN_41, xN_42, xN_43, xN_44, xN_45, xN_46, xN_47, xN_48, xN_49, xN_50, xN_51, xN_52, xN_53, xN_54, xN_55, ti_0, ti_1, ti_2, ti_3, ti_4, ti_5, ti_6, ti_7, ti_8, ti_9, ti_10, ti_16, ti_19, ti_20, ti_29, ti_30, ti_31, ti_32, ti_35, ti_36, ti_38, ti_39, ti_40, ti_41, ti_42, ti_43, ti_44, ti_45, ti_46, ti_47, ti_48, ti_49, ti_50, ti_51, ti_52, ti_53, ti_54, ti_55, ti_56, ti_57, ti_58, ti_59, ti_60, ti_61, ti_62, ti_63, ti_64, ti_65, ti_74, ti_77, ti_126, ti_200, ti_201, ti_202, ti_203, ti_204, ti_205, ti_210, ti_255, ti_256, ti_400, ti_512, ti_600, ti_601, ti_602, ti_1000, ti_1023, ti_1024, ti_2000, ti_10000, ti_12602, ti_999999, ti_m999999, ti_m1, ti_2000000, ti_3000000, xN_1, xN_4, xN_5, xN_60, xN_61, xN_64, xN_200, xN_800, xN_12000, xN_12602, eq_self, and_self, and_true, true_and, if_true, if_false, decide_true, Nat.reduceLeDiff, xc2_int, xc2_ref, xc2_ra, xc2_null, xc2_long, xc2_none, xisaT_ref, xisaT_ra, xisaT_null, xc1T_int, xc1T_ref, xc1T_ra, xc1T_null, xsum_nil, xsum_int, xsum_ref, xsum_ra, xsum_long, xsum_double, xsum_null, xfl_nil, xfl_int, xfl_ref, xfl_ra, xfl_null, xfl_long, xfl_double, List.length_cons, List.length_nil, r1, r2, xth_n h51, xfk, xfv, xak, xan, xcls, xsv', List.getElem?_cons_zero, List.getElem?_cons_succ, List.getD_cons_zero, List.getD_cons_succ, Option.getD_some, Option.isSome_some, if_true, if_pos, xcont, Option.toList_none, Option.toList_some, List.nil_append, List.cons_append]
    · have r1 := hrz.2 hz
      simp (config := { decide := true }) only [w_iload_n1 (pc' := 1) q51 d51_0 rfl, w_invs1 (pc' := 4) q51 d51_1 rfl (by decide +kernel) k51_74_99 m15.1, gs_off, gs_off0, gs_0off, gs_2, xN_0, xN_2, xN_3, xN_6, xN_7, xN_8, xN_9, xN_10, xN_11, xN_12, xN_13, xN_14, xN_15, xN_16, xN_17, xN_18, xN_19, xN_20, xN_21, xN_22, xN_23, xN_24, xN_25, xN_26, xN_27, xN_28, xN_29, xN_30, xN_31, xN_32, xN_33, xN_34, xN_35, xN_36, xN_37, xN_38, xN_39, xN_40, xN_41, xN_42, xN_43, xN_44, xN_45, xN_46, xN_47, xN_48, xN_49, xN_50, xN_51, xN_52, xN_53, xN_54, xN_55, ti_0, ti_1, ti_2, ti_3, ti_4, ti_5, ti_6, ti_7, ti_8, ti_9, ti_10, ti_16, ti_19, ti_20, ti_29, ti_30, ti_31, ti_32, ti_35, ti_36, ti_38, ti_39, ti_40, ti_41, ti_42, ti_43, ti_44, ti_45, ti_46, ti_47, ti_48, ti_49, ti_50, ti_51, ti_52, ti_53, ti_54, ti_55, ti_56, ti_57, ti_58, ti_59, ti_60, ti_61, ti_62, ti_63, ti_64, ti_65, ti_74, ti_77, ti_126, ti_200, ti_201, ti_202, ti_203, ti_204, ti_205, ti_210, ti_255, ti_256, ti_400, ti_512, ti_600, ti_601, ti_602, ti_1000, ti_1023, ti_1024, ti_2000, ti_10000, ti_12602, ti_999999, ti_m999999, ti_m1, ti_2000000, ti_3000000, xN_1, xN_4, xN_5, xN_60, xN_61, xN_64, xN_200, xN_800, xN_12000, xN_12602, eq_self, and_self, and_true, true_and, if_true, if_false, decide_true, Nat.reduceLeDiff, xc2_int, xc2_ref, xc2_ra, xc2_null, xc2_long, xc2_none, xisaT_ref, xisaT_ra, xisaT_null, xc1T_int, xc1T_ref, xc1T_ra, xc1T_null, xsum_nil, xsum_int, xsum_ref, xsum_ra, xsum_long, xsum_double, xsum_null, xfl_nil, xfl_int, xfl_ref, xfl_ra, xfl_null, xfl_long, xfl_double, List.length_cons, List.length_nil, r1, xth_n h51, xfk, xfv, xak, xan, xcls, xsv', List.getElem?_cons_zero, List.getElem?_cons_succ, List.getD_cons_zero, List.getD_cons_succ, Option.getD_some, Option.isSome_some, if_true, if_pos, xcont, Option.toList_none, Option.toList_some, List.nil_append, List.cons_append]
  · obtain ⟨hz, hx⟩ := h
    have r1 := hrz.1 hz
    have r2 := hrx.1 hx
    obtain ⟨z1, z2⟩ := id hz
    obtain ⟨x1, x2⟩ := id hx
    obtain ⟨g', f1, i1, v1, q1⟩ := c_reachC (X := X) (d := d + 9) hS' hI x1 x2
    refine CR_g hS' f1 i1 fun Q => ?_
    obtain ⟨w1, w2⟩ := v1 z z1 z2
    rw [e51]
    by_cases q : reA A x z = true
    · have w3 := w2.mpr q
      rw [if_pos q]
      simp (config := { decide := true }) only [w_iload_n1 (pc' := 1) q51 d51_0 rfl, w_invs1 (pc' := 4) q51 d51_1 rfl (by decide +kernel) k51_74_99 m15.1, w_iload_n2 (pc' := 5) q51 d51_4 rfl, w_invs1 (pc' := 8) q51 d51_5 rfl (by decide +kernel) k51_74_99 m15.1, w_aload_n0 (pc' := 9) q51 d51_8 rfl, w_getV (pc' := 12) q51 d51_9 rfl f51_19, w_getV (pc' := 15) q51 d51_12 rfl f51_210, w_iload_n2 (pc' := 16) q51 d51_15 rfl, w_invv1 (ci := 6) (pc' := 19) q51 d51_16 rfl n51_226 k51_226_6 m108.1, w_aload_n0 (pc' := 20) q51 d51_19 rfl, w_getV (pc' := 23) q51 d51_20 rfl f51_19, w_getV (pc' := 26) q51 d51_23 rfl f51_210, w_getV (pc' := 29) q51 d51_26 rfl f51_232, w_iload_n1 (pc' := 30) q51 d51_29 rfl, w_zaload (pc' := 31) q51 d51_30 rfl, w_baload (pc' := 31) q51 d51_30 rfl, w_zreturn q51 d51_31 m51.2.1, gs_off, gs_off0, gs_0off, gs_2, xN_0, xN_2, xN_3, xN_6, xN_7, xN_8, xN_9, xN_10, xN_11, xN_12, xN_13, xN_14, xN_15, xN_16, xN_17, xN_18, xN_19, xN_20, xN_21, xN_22, xN_23, xN_24, xN_25, xN_26, xN_27, xN_28, xN_29, xN_30, xN_31, xN_32, xN_33, xN_34, xN_35, xN_36, xN_37, xN_38, xN_39, xN_40, xN_41, xN_42, xN_43, xN_44, xN_45, xN_46, xN_47, xN_48, xN_49, xN_50, xN_51, xN_52, xN_53, xN_54, xN_55, ti_0, ti_1, ti_2, ti_3, ti_4, ti_5, ti_6, ti_7, ti_8, ti_9, ti_10, ti_16, ti_19, ti_20, ti_29, ti_30, ti_31, ti_32, ti_35, ti_36, ti_38, ti_39, ti_40, ti_41, ti_42, ti_43, ti_44, ti_45, ti_46, ti_47, ti_48, ti_49, ti_50, ti_51, ti_52, ti_53, ti_54, ti_55, ti_56, ti_57, ti_58, ti_59, ti_60, ti_61, ti_62, ti_63, ti_64, ti_65, ti_74, ti_77, ti_126, ti_200, ti_201, ti_202, ti_203, ti_204, ti_205, ti_210, ti_255, ti_256, ti_400, ti_512, ti_600, ti_601, ti_602, ti_1000, ti_1023, ti_1024, ti_2000, ti_10000, ti_12602, ti_999999, ti_m999999, ti_m1, ti_2000000, ti_3000000, xN_1, xN_4, xN_5, xN_60, xN_61, xN_64, xN_200, xN_800, xN_12000, xN_12602, eq_self, and_self, and_true, true_and, if_true, if_false, decide_true, Nat.reduceLeDiff, xc2_int, xc2_ref, xc2_ra, xc2_null, xc2_long, xc2_none, xisaT_ref, xisaT_ra, xisaT_null, xc1T_int, xc1T_ref, xc1T_ra, xc1T_null, xsum_nil, xsum_int, xsum_ref, xsum_ra, xsum_long, xsum_double, xsum_null, xfl_nil, xfl_int, xfl_ref, xfl_ra, xfl_null, xfl_long, xfl_double, List.length_cons, List.length_nil, r1, r2, c0, k0, l0, l6, q1, tz, z1, z2, w3, xzb_0, xzb_1, xfk, xfv, xak, xan, xcls, xsv', List.getElem?_cons_zero, List.getElem?_cons_succ, List.getD_cons_zero, List.getD_cons_succ, Option.getD_some, Option.isSome_some, if_true, if_pos, xcont, Option.toList_none, Option.toList_some, List.nil_append, List.cons_append]
    · have w3 : g' (k + 7 + 6) z = 0 := by
        have : ¬ g' (k + 7 + 6) z = 1 := fun e => q (w2.mp e)
        omega
      rw [if_neg q]
      simp (config := { decide := true }) only [w_iload_n1 (pc' := 1) q51 d51_0 rfl, w_invs1 (pc' := 4) q51 d51_1 rfl (by decide +kernel) k51_74_99 m15.1, w_iload_n2 (pc' := 5) q51 d51_4 rfl, w_invs1 (pc' := 8) q51 d51_5 rfl (by decide +kernel) k51_74_99 m15.1, w_aload_n0 (pc' := 9) q51 d51_8 rfl, w_getV (pc' := 12) q51 d51_9 rfl f51_19, w_getV (pc' := 15) q51 d51_12 rfl f51_210, w_iload_n2 (pc' := 16) q51 d51_15 rfl, w_invv1 (ci := 6) (pc' := 19) q51 d51_16 rfl n51_226 k51_226_6 m108.1, w_aload_n0 (pc' := 20) q51 d51_19 rfl, w_getV (pc' := 23) q51 d51_20 rfl f51_19, w_getV (pc' := 26) q51 d51_23 rfl f51_210, w_getV (pc' := 29) q51 d51_26 rfl f51_232, w_iload_n1 (pc' := 30) q51 d51_29 rfl, w_zaload (pc' := 31) q51 d51_30 rfl, w_baload (pc' := 31) q51 d51_30 rfl, w_zreturn q51 d51_31 m51.2.1, gs_off, gs_off0, gs_0off, gs_2, xN_0, xN_2, xN_3, xN_6, xN_7, xN_8, xN_9, xN_10, xN_11, xN_12, xN_13, xN_14, xN_15, xN_16, xN_17, xN_18, xN_19, xN_20, xN_21, xN_22, xN_23, xN_24, xN_25, xN_26, xN_27, xN_28, xN_29, xN_30, xN_31, xN_32, xN_33, xN_34, xN_35, xN_36, xN_37, xN_38, xN_39, xN_40, xN_41, xN_42, xN_43, xN_44, xN_45, xN_46, xN_47, xN_48, xN_49, xN_50, xN_51, xN_52, xN_53, xN_54, xN_55, ti_0, ti_1, ti_2, ti_3, ti_4, ti_5, ti_6, ti_7, ti_8, ti_9, ti_10, ti_16, ti_19, ti_20, ti_29, ti_30, ti_31, ti_32, ti_35, ti_36, ti_38, ti_39, ti_40, ti_41, ti_42, ti_43, ti_44, ti_45, ti_46, ti_47, ti_48, ti_49, ti_50, ti_51, ti_52, ti_53, ti_54, ti_55, ti_56, ti_57, ti_58, ti_59, ti_60, ti_61, ti_62, ti_63, ti_64, ti_65, ti_74, ti_77, ti_126, ti_200, ti_201, ti_202, ti_203, ti_204, ti_205, ti_210, ti_255, ti_256, ti_400, ti_512, ti_600, ti_601, ti_602, ti_1000, ti_1023, ti_1024, ti_2000, ti_10000, ti_12602, ti_999999, ti_m999999, ti_m1, ti_2000000, ti_3000000, xN_1, xN_4, xN_5, xN_60, xN_61, xN_64, xN_200, xN_800, xN_12000, xN_12602, eq_self, and_self, and_true, true_and, if_true, if_false, decide_true, Nat.reduceLeDiff, xc2_int, xc2_ref, xc2_ra, xc2_null, xc2_long, xc2_none, xisaT_ref, xisaT_ra, xisaT_null, xc1T_int, xc1T_ref, xc1T_ra, xc1T_null, xsum_nil, xsum_int, xsum_ref, xsum_ra, xsum_long, xsum_double, xsum_null, xfl_nil, xfl_int, xfl_ref, xfl_ra, xfl_null, xfl_long, xfl_double, List.length_cons, List.length_nil, r1, r2, c0, k0, l0, l6, q1, tz, z1, z2, w3, xzb_0, xzb_1, xfk, xfv, xak, xan, xcls, xsv', List.getElem?_cons_zero, List.getElem?_cons_succ, List.getD_cons_zero, List.getD_cons_succ, Option.getD_some, Option.isSome_some, if_true, if_pos, xcont, Option.toList_none, Option.toList_some, List.nil_append, List.cons_append]
end
