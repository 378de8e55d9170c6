/-! The class: what would be -/
section
variable {X : xX} {S S' : xLm} {g g' G : xGm} {d c p k t o y b m j : Nat} {w : xH} {Q : xO → xH → Prop} {P P' : Pd} {A A' B : Sh} {sn : Option Sh} {H : List Sh}
theorem ClI_ansK (hB : ShOK B) (hs : SlR B (flA B) (vlA B) (odA B) (onA B) (lnA B) (plA B)) (h : ClI g k) (hM : StK g (k + 1) B) : ∀ x, 0 ≤ x → x < 200 → g (k + 1 + 3) x = flA B x ∧ g (k + 1 + 2) x = vlA B x := by
  obtain ⟨h1, h2, h3, h4, h5⟩ := h
  obtain ⟨K, T, hK, hs1, hs2, hs3, hs4, hs5⟩ := hs
  have hK' : ∀ x, 0 ≤ x → x < 200 → g (k + 1 + 1) x = B.1 x ∧ (B.1 x = 2 → tkl g (k + 1) x = B.2.2.1 x) := fun x x1 x2 => ⟨(hM x x1 x2).1, (hM x x1 x2).2.2⟩
  obtain ⟨-, -, u3, -⟩ := Sol_uniq hB hK' hK h5 hs1 (fun x x1 x2 e => by rw [(hM x x1 x2).2.1 e, hs5 x x1 x2 (by omega), if_pos e])
  exact u3
theorem tmp_StK {a : Nat} {z kd v : Int} (hk : ¬ kd = 2) (h : StC g a (shP A z kd v [])) : StK g a (tmpA A z kd v) := fun x x1 x2 => by
  obtain ⟨⟨b1, b2, b3, -⟩, -⟩ := h x x1 x2
  unfold shP at b1 b2 b3
  unfold tmpA
  dsimp only at b1 b2 b3 ⊢
  refine ⟨b1, b2, fun e => ?_⟩
  have hx : ¬ x = z := fun ex => hk (by rw [if_pos ex] at e; exact e)
  rw [b3 e, if_neg hx]
theorem tmp_ok {z kd v : Int} (hA : ShOK A) (hk : kd = 0 ∨ kd = 1) (hv : -999999 ≤ v ∧ v ≤ 999999) : ShOK (tmpA A z kd v) := tmpA_ok hA hk (fun _ => hv)
/-- the trial has the sheet with another cell -/
theorem c_tryPut0 {z kd v : Int} {D1 D2 : Nat} (hS : CsS S c p k t o y b m) (hI : CdI g c p k t o y P A sn H) (hz : 0 ≤ z ∧ z < 200) (hk : kd = 0 ∨ kd = 1) (hv : -999999 ≤ v ∧ v ≤ 999999) (h0 : kd = 0 → v = 0) (hD : 272 ≤ D2) :
    ∃ g1 g' n, (∀ h, h < t ∨ t + 15 < h → g' h = g h) ∧ ClI g' t ∧ StK g' (t + 1) (tmpA A z kd v) ∧ g' (t + 1 + 4) z = 0 ∧ (∀ x, 0 ≤ x → x < 200 → g' (t + 1 + 1) x = 2 → (g' (t + 7 + 6) x = 1 ↔ (Rc (UsE (FmA (g' (t + 1 + 1))) (RfA (g' (t + 1 + 1)) (tkl g' (t + 1)))) z x ∨ x = z))) ∧ (∀ Q, Cw X (D1 + 3) 149 [.ref (t + 1), .ref (k + 1)] (hp S g) Q = Q (.inl none) (hp S g1)) ∧ ∀ Q, Cw X D2 63 [.ref t, .int (iI z)] (hp S (gPut g1 (t + 1) z kd v)) Q = Q (.inl (some (.int (iI n)))) (hp S g') := by
  obtain ⟨c0, ⟨hp0, hk0, ht0, ho0, hy0⟩, hL⟩ := hS
  obtain ⟨k0, kS, kL⟩ := id hk0
  obtain ⟨t0, tS, tL⟩ := id ht0
  obtain ⟨hP, ⟨hC, hM, hA⟩, ⟨hTI, hTL⟩, hSn, hH⟩ := id hI
  have hta : ∀ Q, Cw X (D1 + 3) 149 [.ref (t + 1), .ref (k + 1)] (hp S g) Q = Q (.inl none) (hp S (gB' g (t + 1) (k + 1))) := fun Q => c_takeAll (X := X) (d := D1) (g := g) tS kS (.inl (by omega)) (fun j _ _ => hC.1.2.2.2.1 j)
  have eE := gB'_StE (b := t + 1) hC.1
  have iG := gB'_StI hTI hC.1
  have F1 : ∀ h, (h < t + 1 ∨ t + 1 + 5 < h) → gB' g (t + 1) (k + 1) h = g h := fun h hh => gB'_row hh
  obtain ⟨g1, eg1⟩ : ∃ g1, g1 = gB' g (t + 1) (k + 1) := ⟨_, rfl⟩
  rw [← eg1] at hta eE iG F1
  have cG := StC_rec (StC_of hC hM) eE iG hC.1
  have s1 := StI_gPut (z := z) (kd := kd) (v := v) iG (by omega) (by omega)
  have s2 := StC_gPut (z := z) (kd := kd) (v := v) cG (by omega) h0
  have F2 := gPut_F (g := g1) (a := t + 1) (z := z) (kd := kd) (v := v)
  have q1 := gPut_1 (g := g1) (a := t + 1) (z := z) (kd := kd) (v := v)
  have q2 := gPut_2 (g := g1) (a := t + 1) (z := z) (kd := kd) (v := v)
  have q3 := gPut_3 (g := g1) (a := t + 1) (z := z) (kd := kd) (v := v)
  have q4 := gPut_4 (g := g1) (a := t + 1) (z := z) (kd := kd) (v := v)
  have q5 := gPut_5 (g := g1) (a := t + 1) (z := z) (kd := kd) (v := v)
  obtain ⟨G, eG⟩ : ∃ G, G = gPut g1 (t + 1) z kd v := ⟨_, rfl⟩
  rw [← eG] at s1 s2 F2 q1 q2 q3 q4 q5
  have hB : ShOK (shP A z kd v []) := ShOK_put hA (by omega) (fun e => by omega) (fun _ => hv)
  have hV : VfA (G (t + 1 + 1)) (tkl G (t + 1)) := fun x x1 x2 e => by
    obtain ⟨⟨b1, b2, b3, -⟩, -⟩ := s2 x x1 x2
    rw [b1] at e
    rw [b3 e]
    exact ((hB x x1 x2).2.1 e).1
  have hLk : LkR G (t + 7) := by
    have h := hTL
    unfold LkR rg at h ⊢
    rw [F2 (t + 7 + 2) (by omega), F2 (t + 7 + 3) (by omega), F2 (t + 7 + 4) (by omega), F2 (t + 7 + 5) (by omega), F2 (t + 7 + 6) (by omega), F2 (t + 7 + 7) (by omega), F1 (t + 7 + 2) (by omega), F1 (t + 7 + 3) (by omega), F1 (t + 7 + 4) (by omega), F1 (t + 7 + 5) (by omega), F1 (t + 7 + 6) (by omega), F1 (t + 7 + 7) (by omega)]
    exact h
  have htk : ∀ x, ¬ x = z → tkl G (t + 1) x = tkl g1 (t + 1) x := fun x hx => by
    refine tkl_eq (by rw [q4]; exact if_neg hx) (fun q _ _ => by rw [q5])
  obtain ⟨g', f1, -, f2, f3, f5, f4⟩ := c_computeFrom (X := X) (g := G) (D := D2) (k := t) (c := z) ht0 s1 hV hLk hz.1 hz.2 hC.2.2.2.2 (fun x x1 x2 e => by
    obtain ⟨a1, a2, a3, a4⟩ := eE x x1 x2
    refine ⟨by rw [q1]; exact (if_neg e).trans a1, by rw [htk x e]; exact a2, by rw [q3]; exact (if_neg e).trans a3, by rw [q2]; exact (if_neg e).trans a4⟩) (fun e => by
    refine ⟨by rw [q3]; exact if_pos rfl, fun e2 => ?_⟩
    rw [q1] at e2
    dsimp only at e2
    rw [if_pos rfl] at e2
    rw [q2]
    exact (if_pos rfl).trans (h0 e2)) hD
  have r1 : g' (t + 1 + 1) = G (t + 1 + 1) := f1 _ (by omega) (by omega) (by omega) (by omega) (by omega)
  have r4 : g' (t + 1 + 4) = G (t + 1 + 4) := f1 _ (by omega) (by omega) (by omega) (by omega) (by omega)
  have rt : tkl g' (t + 1) = tkl G (t + 1) := tkl_congr r4 (f1 _ (by omega) (by omega) (by omega) (by omega) (by omega))
  have hKG := tmp_StK (by omega) s2
  have hKg : StK g' (t + 1) (tmpA A z kd v) := fun x x1 x2 => by
    obtain ⟨b1, b2, b3⟩ := hKG x x1 x2
    rw [r1, rt]
    refine ⟨b1, fun e => ?_, b3⟩
    rw [f2 x x1 x2 (by omega)]
    exact b2 e
  refine ⟨g1, g', _, fun h hh => (f1 h (by omega) (by omega) (by omega) (by omega) (by omega)).trans ((F2 h (by omega)).trans (F1 h (by omega))), f3, hKg, by rw [r4, q4]; exact if_pos rfl, by rw [r1, rt]; exact f5, hta, by rw [← eG]; exact f4⟩
theorem tmp_sl (X : xX) {z kd v : Int} (hS : CsS S c p k t o y b m) (hI : CdI g c p k t o y P A sn H) (hz : 0 ≤ z ∧ z < 200) (hk : kd = 0 ∨ kd = 1) (hv : -999999 ≤ v ∧ v ≤ 999999) (h0 : kd = 0 → v = 0) : SlR (tmpA A z kd v) (flA (tmpA A z kd v)) (vlA (tmpA A z kd v)) (odA (tmpA A z kd v)) (onA (tmpA A z kd v)) (lnA (tmpA A z kd v)) (plA (tmpA A z kd v)) := by
  obtain ⟨g1, g', n, -, q2, q3, -⟩ := c_tryPut0 (X := X) (D1 := 0) (D2 := 272) hS hI hz hk hv h0 (Nat.le_refl _)
  exact ClI_slR q2 (tmp_ok hI.2.1.2.2 hk hv) q3
/-- the trial has the sheet with another cell -/
theorem c_tryPut {z kd v : Int} {D1 D2 : Nat} (hS : CsS S c p k t o y b m) (hI : CdI g c p k t o y P A sn H) (hs : SlR (tmpA A z kd v) (flA (tmpA A z kd v)) (vlA (tmpA A z kd v)) (odA (tmpA A z kd v)) (onA (tmpA A z kd v)) (lnA (tmpA A z kd v)) (plA (tmpA A z kd v))) (hz : 0 ≤ z ∧ z < 200) (hk : kd = 0 ∨ kd = 1) (hv : -999999 ≤ v ∧ v ≤ 999999) (h0 : kd = 0 → v = 0) (hD : 272 ≤ D2) :
    ∃ g1 g' n, (∀ h, h < t ∨ t + 15 < h → g' h = g h) ∧ ClI g' t ∧ StK g' (t + 1) (tmpA A z kd v) ∧ g' (t + 1 + 4) z = 0 ∧ (∀ x, 0 ≤ x → x < 200 → g' (t + 1 + 1) x = 2 → (g' (t + 7 + 6) x = 1 ↔ (Rc (UsE (FmA (g' (t + 1 + 1))) (RfA (g' (t + 1 + 1)) (tkl g' (t + 1)))) z x ∨ x = z))) ∧ (∀ x, 0 ≤ x → x < 200 → g' (t + 1 + 3) x = flA (tmpA A z kd v) x ∧ g' (t + 1 + 2) x = vlA (tmpA A z kd v) x) ∧
      (∀ Q, Cw X (D1 + 3) 149 [.ref (t + 1), .ref (k + 1)] (hp S g) Q = Q (.inl none) (hp S g1)) ∧ ∀ Q, Cw X D2 63 [.ref t, .int (iI z)] (hp S (gPut g1 (t + 1) z kd v)) Q = Q (.inl (some (.int (iI n)))) (hp S g') := by
  obtain ⟨c0, ⟨hp0, hk0, ht0, ho0, hy0⟩, hL⟩ := hS
  obtain ⟨k0, kS, kL⟩ := id hk0
  obtain ⟨t0, tS, tL⟩ := id ht0
  obtain ⟨hP, ⟨hC, hM, hA⟩, ⟨hTI, hTL⟩, hSn, hH⟩ := id hI
  have hta : ∀ Q, Cw X (D1 + 3) 149 [.ref (t + 1), .ref (k + 1)] (hp S g) Q = Q (.inl none) (hp S (gB' g (t + 1) (k + 1))) := fun Q => c_takeAll (X := X) (d := D1) (g := g) tS kS (.inl (by omega)) (fun j _ _ => hC.1.2.2.2.1 j)
  have eE := gB'_StE (b := t + 1) hC.1
  have iG := gB'_StI hTI hC.1
  have F1 : ∀ h, (h < t + 1 ∨ t + 1 + 5 < h) → gB' g (t + 1) (k + 1) h = g h := fun h hh => gB'_row hh
  obtain ⟨g1, eg1⟩ : ∃ g1, g1 = gB' g (t + 1) (k + 1) := ⟨_, rfl⟩
  rw [← eg1] at hta eE iG F1
  have cG := StC_rec (StC_of hC hM) eE iG hC.1
  have s1 := StI_gPut (z := z) (kd := kd) (v := v) iG (by omega) (by omega)
  have s2 := StC_gPut (z := z) (kd := kd) (v := v) cG (by omega) h0
  have F2 := gPut_F (g := g1) (a := t + 1) (z := z) (kd := kd) (v := v)
  have q1 := gPut_1 (g := g1) (a := t + 1) (z := z) (kd := kd) (v := v)
  have q2 := gPut_2 (g := g1) (a := t + 1) (z := z) (kd := kd) (v := v)
  have q3 := gPut_3 (g := g1) (a := t + 1) (z := z) (kd := kd) (v := v)
  have q4 := gPut_4 (g := g1) (a := t + 1) (z := z) (kd := kd) (v := v)
  have q5 := gPut_5 (g := g1) (a := t + 1) (z := z) (kd := kd) (v := v)
  obtain ⟨G, eG⟩ : ∃ G, G = gPut g1 (t + 1) z kd v := ⟨_, rfl⟩
  rw [← eG] at s1 s2 F2 q1 q2 q3 q4 q5
  have hB : ShOK (shP A z kd v []) := ShOK_put hA (by omega) (fun e => by omega) (fun _ => hv)
  have hV : VfA (G (t + 1 + 1)) (tkl G (t + 1)) := fun x x1 x2 e => by
    obtain ⟨⟨b1, b2, b3, -⟩, -⟩ := s2 x x1 x2
    rw [b1] at e
    rw [b3 e]
    exact ((hB x x1 x2).2.1 e).1
  have hLk : LkR G (t + 7) := by
    have h := hTL
    unfold LkR rg at h ⊢
    rw [F2 (t + 7 + 2) (by omega), F2 (t + 7 + 3) (by omega), F2 (t + 7 + 4) (by omega), F2 (t + 7 + 5) (by omega), F2 (t + 7 + 6) (by omega), F2 (t + 7 + 7) (by omega), F1 (t + 7 + 2) (by omega), F1 (t + 7 + 3) (by omega), F1 (t + 7 + 4) (by omega), F1 (t + 7 + 5) (by omega), F1 (t + 7 + 6) (by omega), F1 (t + 7 + 7) (by omega)]
    exact h
  have htk : ∀ x, ¬ x = z → tkl G (t + 1) x = tkl g1 (t + 1) x := fun x hx => by
    refine tkl_eq (by rw [q4]; exact if_neg hx) (fun q _ _ => by rw [q5])
  obtain ⟨g', f1, -, f2, f3, f5, f4⟩ := c_computeFrom (X := X) (g := G) (D := D2) (k := t) (c := z) ht0 s1 hV hLk hz.1 hz.2 hC.2.2.2.2 (fun x x1 x2 e => by
    obtain ⟨a1, a2, a3, a4⟩ := eE x x1 x2
    refine ⟨by rw [q1]; exact (if_neg e).trans a1, by rw [htk x e]; exact a2, by rw [q3]; exact (if_neg e).trans a3, by rw [q2]; exact (if_neg e).trans a4⟩) (fun e => by
    refine ⟨by rw [q3]; exact if_pos rfl, fun e2 => ?_⟩
    rw [q1] at e2
    dsimp only at e2
    rw [if_pos rfl] at e2
    rw [q2]
    exact (if_pos rfl).trans (h0 e2)) hD
  have r1 : g' (t + 1 + 1) = G (t + 1 + 1) := f1 _ (by omega) (by omega) (by omega) (by omega) (by omega)
  have r4 : g' (t + 1 + 4) = G (t + 1 + 4) := f1 _ (by omega) (by omega) (by omega) (by omega) (by omega)
  have rt : tkl g' (t + 1) = tkl G (t + 1) := tkl_congr r4 (f1 _ (by omega) (by omega) (by omega) (by omega) (by omega))
  have hKG := tmp_StK (by omega) s2
  have hKg : StK g' (t + 1) (tmpA A z kd v) := fun x x1 x2 => by
    obtain ⟨b1, b2, b3⟩ := hKG x x1 x2
    rw [r1, rt]
    refine ⟨b1, fun e => ?_, b3⟩
    rw [f2 x x1 x2 (by omega)]
    exact b2 e
  refine ⟨g1, g', _, fun h hh => (f1 h (by omega) (by omega) (by omega) (by omega) (by omega)).trans ((F2 h (by omega)).trans (F1 h (by omega))), f3, hKg, by rw [r4, q4]; exact if_pos rfl, by rw [r1, rt]; exact f5, ClI_ansK (tmp_ok hA hk hv) hs f3 hKg, hta, by rw [← eG]; exact f4⟩
theorem TrI_of {k : Nat} (h : ClI g k) : TrI g k := ⟨h.1, h.2.2.2.1⟩
theorem q_errorsWithout {z : Int} (hS : CsS S c p k t o y b m) (hI : CdI g c p k t o y P A sn H) (tz : ti z = z) (hs : isB z → SlR (tmpA A z 0 0) (flA (tmpA A z 0 0)) (vlA (tmpA A z 0 0)) (odA (tmpA A z 0 0)) (onA (tmpA A z 0 0)) (lnA (tmpA A z 0 0)) (plA (tmpA A z 0 0))) :
    (¬ isB z → CRs X S g c p k t o y b m 61 (d + 300) [.ref c, .int (iI z)] (.inr 0) P A sn H) ∧
    (isB z → CRs X S g c p k t o y b m 61 (d + 300) [.ref c, .int (iI z)] (.inl (some (.int (iI (qErr (tmpA A z 0 0)))))) P A sn H) := by
  have hS' := hS
  obtain ⟨c0, ⟨hp0, hk0, ht0, ho0, hy0⟩, hL⟩ := hS
  obtain ⟨k0, kS, kL⟩ := id hk0
  obtain ⟨t0, tS, tL⟩ := id ht0
  have hrz := c_requireCell (X := X) (S := S) (g := g) (d := d + 298) tz
  have h61 : xMh 61 = [] := by decide +kernel
  refine ⟨fun h => CR_x hI fun Q => ?_, fun h => ?_⟩
  · have r1 := hrz.2 h
    rw [e61]
    simp (config := { decide := true }) only [w_iload_n1 (pc' := 1) q61 d61_0 rfl, w_invs1 (pc' := 4) q61 d61_1 rfl (by decide +kernel) k61_74_99 m15.1, gs_off, gs_off0, gs_0off, gs_2, xN_0, xN_2, xN_3, xN_6, xN_7, xN_8, xN_9, xN_10, xN_11, xN_12, xN_13, xN_14, xN_15, xN_16, xN_17, xN_18, xN_19, xN_20, xN_21, xN_22, xN_23, xN_24, xN_25, xN_26, xN_27, xN_28, xN_29, xN_30, xN_31, xN_32, xN_33, xN_34, xN_35, xN_36, xN_37, xN_38, xN_39, xN_40, xN_41, xN_42, xN_43, xN_44, xN_45, xN_46, xN_47, xN_48, xN_49, xN_50, xN_51, xN_52, xN_53, xN_54, xN_55, ti_0, ti_1, ti_2, ti_3, ti_4, ti_5, ti_6, ti_7, ti_8, ti_9, ti_10, ti_16, ti_19, ti_20, ti_29, ti_30, ti_31, ti_32, ti_35, ti_36, ti_38, ti_39, ti_40, ti_41, ti_42, ti_43, ti_44, ti_45, ti_46, ti_47, ti_48, ti_49, ti_50, ti_51, ti_52, ti_53, ti_54, ti_55, ti_56, ti_57, ti_58, ti_59, ti_60, ti_61, ti_62, ti_63, ti_64, ti_65, ti_74, ti_77, ti_126, ti_200, ti_201, ti_202, ti_203, ti_204, ti_205, ti_210, ti_255, ti_256, ti_400, ti_512, ti_600, ti_601, ti_602, ti_1000, ti_1023, ti_1024, ti_2000, ti_10000, ti_12602, ti_999999, ti_m999999, ti_m1, ti_2000000, ti_3000000, xN_1, xN_4, xN_5, xN_60, xN_61, xN_64, xN_200, xN_800, xN_12000, xN_12602, eq_self, and_self, and_true, true_and, if_true, if_false, decide_true, Nat.reduceLeDiff, xc2_int, xc2_ref, xc2_ra, xc2_null, xc2_long, xc2_none, xisaT_ref, xisaT_ra, xisaT_null, xc1T_int, xc1T_ref, xc1T_ra, xc1T_null, xsum_nil, xsum_int, xsum_ref, xsum_ra, xsum_long, xsum_double, xsum_null, xfl_nil, xfl_int, xfl_ref, xfl_ra, xfl_null, xfl_long, xfl_double, List.length_cons, List.length_nil, r1, xth_n h61, xfk, xfv, xak, xan, xcls, xsv', List.getElem?_cons_zero, List.getElem?_cons_succ, List.getD_cons_zero, List.getD_cons_succ, Option.getD_some, Option.isSome_some, if_true, if_pos, xcont, Option.toList_none, Option.toList_some, List.nil_append, List.cons_append]
  · have r1 := hrz.1 h
    obtain ⟨g1, g', n, f1, f2, f3, f4, f5, f6, k1, k2⟩ := c_tryPut (X := X) (D1 := d + 296) (D2 := d + 299) hS' hI (hs h) h (.inl rfl) (by decide) (fun _ => rfl) (by omega)
    have kpn : ∀ Q, Cw X (d + 299) 161 [.ref (t + 1), .int (iI z)] (hp S g1) Q = Q (.inl none) (hp S (gPut g1 (t + 1) z 0 0)) := fun Q => c_putNothing (X := X) (d := d + 297) (g := g1) tS h.1 h.2
    have f3' := fun Q => c_countOfErrors (X := X) (d := d + 299) (g := g') (Q := Q) tS
    have e3 : sumf (fun j => if ti (g' (t + 1 + 3) j) = 0 then 0 else 1) 0 200 = qErr (tmpA A z 0 0) := sumf_congr 200 0 (fun j j1 j2 => by
      have hz := f2.1.2.2.1 j
      rw [ti_eq (by omega) (by omega), (f6 j j1 (by omega)).1])
    rw [e3] at f3'
    refine CR_g hS' (fun j jj => f1 j (by omega)) (CdI_tri (by omega) f1 (TrI_of f2) hI) fun Q => ?_
    rw [e61]
    simp (config := { decide := true }) only [w_iload_n1 (pc' := 1) q61 d61_0 rfl, w_invs1 (pc' := 4) q61 d61_1 rfl (by decide +kernel) k61_74_99 m15.1, w_aload_n0 (pc' := 5) q61 d61_4 rfl, w_getV (pc' := 8) q61 d61_5 rfl f61_23, w_getV (pc' := 11) q61 d61_8 rfl f61_80, w_aload_n0 (pc' := 12) q61 d61_11 rfl, w_getV (pc' := 15) q61 d61_12 rfl f61_19, w_getV (pc' := 18) q61 d61_15 rfl f61_80, w_invv1 (ci := 9) (pc' := 21) q61 d61_18 rfl n61_171 k61_171_9 m149.1, w_aload_n0 (pc' := 22) q61 d61_21 rfl, w_getV (pc' := 25) q61 d61_22 rfl f61_23, w_getV (pc' := 28) q61 d61_25 rfl f61_80, w_iload_n1 (pc' := 29) q61 d61_28 rfl, w_invv1 (ci := 9) (pc' := 32) q61 d61_29 rfl n61_102 k61_102_9 m161.1, w_aload_n0 (pc' := 33) q61 d61_32 rfl, w_getV (pc' := 36) q61 d61_33 rfl f61_23, w_iload_n1 (pc' := 37) q61 d61_36 rfl, w_invv1 (ci := 2) (pc' := 40) q61 d61_37 rfl n61_91 k61_91_2 m63.1, w_pop (pc' := 41) q61 d61_40 rfl, w_aload_n0 (pc' := 42) q61 d61_41 rfl, w_getV (pc' := 45) q61 d61_42 rfl f61_23, w_getV (pc' := 48) q61 d61_45 rfl f61_80, w_invv0 (ci := 9) (pc' := 51) q61 d61_48 rfl n61_256 k61_256_9 m153.1, w_ireturn q61 d61_51 m61.2.1, gs_off, gs_off0, gs_0off, gs_2, xN_0, xN_2, xN_3, xN_6, xN_7, xN_8, xN_9, xN_10, xN_11, xN_12, xN_13, xN_14, xN_15, xN_16, xN_17, xN_18, xN_19, xN_20, xN_21, xN_22, xN_23, xN_24, xN_25, xN_26, xN_27, xN_28, xN_29, xN_30, xN_31, xN_32, xN_33, xN_34, xN_35, xN_36, xN_37, xN_38, xN_39, xN_40, xN_41, xN_42, xN_43, xN_44, xN_45, xN_46, xN_47, xN_48, xN_49, xN_50, xN_51, xN_52, xN_53, xN_54, xN_55, ti_0, ti_1, ti_2, ti_3, ti_4, ti_5, ti_6, ti_7, ti_8, ti_9, ti_10, ti_16, ti_19, ti_20, ti_29, ti_30, ti_31, ti_32, ti_35, ti_36, ti_38, ti_39, ti_40, ti_41, ti_42, ti_43, ti_44, ti_45, ti_46, ti_47, ti_48, ti_49, ti_50, ti_51, ti_52, ti_53, ti_54, ti_55, ti_56, ti_57, ti_58, ti_59, ti_60, ti_61, ti_62, ti_63, ti_64, ti_65, ti_74, ti_77, ti_126, ti_200, ti_201, ti_202, ti_203, ti_204, ti_205, ti_210, ti_255, ti_256, ti_400, ti_512, ti_600, ti_601, ti_602, ti_1000, ti_1023, ti_1024, ti_2000, ti_10000, ti_12602, ti_999999, ti_m999999, ti_m1, ti_2000000, ti_3000000, xN_1, xN_4, xN_5, xN_60, xN_61, xN_64, xN_200, xN_800, xN_12000, xN_12602, eq_self, and_self, and_true, true_and, if_true, if_false, decide_true, Nat.reduceLeDiff, xc2_int, xc2_ref, xc2_ra, xc2_null, xc2_long, xc2_none, xisaT_ref, xisaT_ra, xisaT_null, xc1T_int, xc1T_ref, xc1T_ra, xc1T_null, xsum_nil, xsum_int, xsum_ref, xsum_ra, xsum_long, xsum_double, xsum_null, xfl_nil, xfl_int, xfl_ref, xfl_ra, xfl_null, xfl_long, xfl_double, List.length_cons, List.length_nil, r1, c0, k0, kS.1, t0, tS.1, k1, kpn, k2, f3', xfk, xfv, xak, xan, xcls, xsv', List.getElem?_cons_zero, List.getElem?_cons_succ, List.getD_cons_zero, List.getD_cons_succ, Option.getD_some, Option.isSome_some, if_true, if_pos, xcont, Option.toList_none, Option.toList_some, List.nil_append, List.cons_append]
theorem q_valueIf {z v a : Int} (hS : CsS S c p k t o y b m) (hI : CdI g c p k t o y P A sn H) (tz : ti z = z) (tv : ti v = v) (ta : ti a = a) (hs : isB z → -999999 ≤ v ∧ v ≤ 999999 → SlR (tmpA A z 1 v) (flA (tmpA A z 1 v)) (vlA (tmpA A z 1 v)) (odA (tmpA A z 1 v)) (onA (tmpA A z 1 v)) (lnA (tmpA A z 1 v)) (plA (tmpA A z 1 v))) :
    (¬ (isB z ∧ isB a ∧ -999999 ≤ v ∧ v ≤ 999999) → CRs X S g c p k t o y b m 58 (d + 300) [.ref c, .int (iI z), .int (iI v), .int (iI a)] (.inr 0) P A sn H) ∧
    (isB z ∧ isB a ∧ -999999 ≤ v ∧ v ≤ 999999 → ¬ flA (tmpA A z 1 v) a ≤ 0 → CRs X S g c p k t o y b m 58 (d + 300) [.ref c, .int (iI z), .int (iI v), .int (iI a)] (.inr 1) P A sn H) ∧
    (isB z ∧ isB a ∧ -999999 ≤ v ∧ v ≤ 999999 → flA (tmpA A z 1 v) a ≤ 0 → CRs X S g c p k t o y b m 58 (d + 300) [.ref c, .int (iI z), .int (iI v), .int (iI a)] (.inl (some (.int (iI (vlA (tmpA A z 1 v) a))))) P A sn H) := by
  have hS' := hS
  obtain ⟨c0, ⟨hp0, hk0, ht0, ho0, hy0⟩, hL⟩ := hS
  obtain ⟨k0, kS, kL⟩ := id hk0
  obtain ⟨t0, tS, tL⟩ := id ht0
  obtain ⟨s0, s1, s2, s3, s4, s5⟩ := id tS
  have hrz := c_requireCell (X := X) (S := S) (g := g) (d := d + 298) tz
  have hra := c_requireCell (X := X) (S := S) (g := g) (d := d + 298) ta
  have hrv := c_requireNumber (X := X) (S := S) (g := g) (d := d + 298) tv
  have h58 : xMh 58 = [] := by decide +kernel
  have h36 : xMh 36 = [] := by decide +kernel
  have core : isB z ∧ isB a ∧ -999999 ≤ v ∧ v ≤ 999999 → ∃ g', (∀ h, h < t ∨ t + 15 < h → g' h = g h) ∧ ClI g' t ∧ g' (t + 1 + 3) a = flA (tmpA A z 1 v) a ∧ g' (t + 1 + 2) a = vlA (tmpA A z 1 v) a ∧ ∀ Q, Cw X (d + 300) 58 [.ref c, .int (iI z), .int (iI v), .int (iI a)] (hp S g) Q = Wx X (d + 300) 58 18 [some (.ref c), some (.int (iI z)), some (.int (iI v)), some (.int (iI a))] [] (hp S g') Q := fun ⟨h1, h2, h3⟩ => by
    have r1 := hrz.1 h1
    have r2 := hra.1 h2
    have r3 := hrv.1 h3
    obtain ⟨g1, g', n, f1, f2, f3, f4, f5, f6, k1, k2⟩ := c_tryPut (X := X) (D1 := d + 295) (D2 := d + 298) hS' hI (hs h1 h3) h1 (.inr rfl) h3 (fun e => absurd e (by decide)) (by omega)
    have kpn : ∀ Q, Cw X (d + 298) 159 [.ref (t + 1), .int (iI z), .int (iI v)] (hp S g1) Q = Q (.inl none) (hp S (gPut g1 (t + 1) z 1 v)) := fun Q => c_putNumber (X := X) (d := d + 296) (g := g1) tS h1.1 h1.2
    have k59 : ∀ Q, Cw X (d + 299) 59 [.ref c, .int (iI z), .int (iI v)] (hp S g) Q = Q (.inl none) (hp S g') := fun Q => by
      rw [e59]
      simp (config := { decide := true }) only [w_aload_n0 (pc' := 1) q59 d59_0 rfl, w_getV (pc' := 4) q59 d59_1 rfl f59_23, w_getV (pc' := 7) q59 d59_4 rfl f59_80, w_aload_n0 (pc' := 8) q59 d59_7 rfl, w_getV (pc' := 11) q59 d59_8 rfl f59_19, w_getV (pc' := 14) q59 d59_11 rfl f59_80, w_invv1 (ci := 9) (pc' := 17) q59 d59_14 rfl n59_171 k59_171_9 m149.1, w_aload_n0 (pc' := 18) q59 d59_17 rfl, w_getV (pc' := 21) q59 d59_18 rfl f59_23, w_getV (pc' := 24) q59 d59_21 rfl f59_80, w_iload_n1 (pc' := 25) q59 d59_24 rfl, w_iload_n2 (pc' := 26) q59 d59_25 rfl, w_invv2 (ci := 9) (pc' := 29) q59 d59_26 rfl n59_98 k59_98_9 m159.1, w_aload_n0 (pc' := 30) q59 d59_29 rfl, w_getV (pc' := 33) q59 d59_30 rfl f59_23, w_iload_n1 (pc' := 34) q59 d59_33 rfl, w_invv1 (ci := 2) (pc' := 37) q59 d59_34 rfl n59_91 k59_91_2 m63.1, w_pop (pc' := 38) q59 d59_37 rfl, w_return q59 d59_38 m59.2.1, gs_off, gs_off0, gs_0off, gs_2, xN_0, xN_2, xN_3, xN_6, xN_7, xN_8, xN_9, xN_10, xN_11, xN_12, xN_13, xN_14, xN_15, xN_16, xN_17, xN_18, xN_19, xN_20, xN_21, xN_22, xN_23, xN_24, xN_25, xN_26, xN_27, xN_28, xN_29, xN_30, xN_31, xN_32, xN_33, xN_34, xN_35, xN_36, xN_37, xN_38, xN_39, xN_40, xN_41, xN_42, xN_43, xN_44, xN_45, xN_46, xN_47, xN_48, xN_49, xN_50, xN_51, xN_52, xN_53, xN_54, xN_55, ti_0, ti_1, ti_2, ti_3, ti_4, ti_5, ti_6, ti_7, ti_8, ti_9, ti_10, ti_16, ti_19, ti_20, ti_29, ti_30, ti_31, ti_32, ti_35, ti_36, ti_38, ti_39, ti_40, ti_41, ti_42, ti_43, ti_44, ti_45, ti_46, ti_47, ti_48, ti_49, ti_50, ti_51, ti_52, ti_53, ti_54, ti_55, ti_56, ti_57, ti_58, ti_59, ti_60, ti_61, ti_62, ti_63, ti_64, ti_65, ti_74, ti_77, ti_126, ti_200, ti_201, ti_202, ti_203, ti_204, ti_205, ti_210, ti_255, ti_256, ti_400, ti_512, ti_600, ti_601, ti_602, ti_1000, ti_1023, ti_1024, ti_2000, ti_10000, ti_12602, ti_999999, ti_m999999, ti_m1, ti_2000000, ti_3000000, xN_1, xN_4, xN_5, xN_60, xN_61, xN_64, xN_200, xN_800, xN_12000, xN_12602, eq_self, and_self, and_true, true_and, if_true, if_false, decide_true, Nat.reduceLeDiff, xc2_int, xc2_ref, xc2_ra, xc2_null, xc2_long, xc2_none, xisaT_ref, xisaT_ra, xisaT_null, xc1T_int, xc1T_ref, xc1T_ra, xc1T_null, xsum_nil, xsum_int, xsum_ref, xsum_ra, xsum_long, xsum_double, xsum_null, xfl_nil, xfl_int, xfl_ref, xfl_ra, xfl_null, xfl_long, xfl_double, List.length_cons, List.length_nil, c0, k0, kS.1, t0, tS.1, k1, kpn, k2, xfk, xfv, xak, xan, xcls, xsv', List.getElem?_cons_zero, List.getElem?_cons_succ, List.getD_cons_zero, List.getD_cons_succ, Option.getD_some, Option.isSome_some, if_true, if_pos, xcont, Option.toList_none, Option.toList_some, List.nil_append, List.cons_append]
    refine ⟨g', f1, f2, (f6 a h2.1 h2.2).1, (f6 a h2.1 h2.2).2, fun Q => ?_⟩
    rw [e58]
    simp (config := { decide := true }) only [w_iload_n1 (pc' := 1) q58 d58_0 rfl, w_invs1 (pc' := 4) q58 d58_1 rfl (by decide +kernel) k58_74_99 m15.1, w_iload_n2 (pc' := 5) q58 d58_4 rfl, w_invs1 (pc' := 8) q58 d58_5 rfl (by decide +kernel) k58_95_99 m17.1, w_iload_n3 (pc' := 9) q58 d58_8 rfl, w_invs1 (pc' := 12) q58 d58_9 rfl (by decide +kernel) k58_74_99 m15.1, w_aload_n0 (pc' := 13) q58 d58_12 rfl, w_iload_n1 (pc' := 14) q58 d58_13 rfl, w_iload_n2 (pc' := 15) q58 d58_14 rfl, w_invv2 (ci := 10) (pc' := 18) q58 d58_15 rfl n58_272 k58_272_10 m59.1, gs_off, gs_off0, gs_0off, gs_2, xN_0, xN_2, xN_3, xN_6, xN_7, xN_8, xN_9, xN_10, xN_11, xN_12, xN_13, xN_14, xN_15, xN_16, xN_17, xN_18, xN_19, xN_20, xN_21, xN_22, xN_23, xN_24, xN_25, xN_26, xN_27, xN_28, xN_29, xN_30, xN_31, xN_32, xN_33, xN_34, xN_35, xN_36, xN_37, xN_38, xN_39, xN_40, xN_41, xN_42, xN_43, xN_44, xN_45, xN_46, xN_47, xN_48, xN_49, xN_50, xN_51, xN_52, xN_53, xN_54, xN_55, ti_0, ti_1, ti_2, ti_3, ti_4, ti_5, ti_6, ti_7, ti_8, ti_9, ti_10, ti_16, ti_19, ti_20, ti_29, ti_30, ti_31, ti_32, ti_35, ti_36, ti_38, ti_39, ti_40, ti_41, ti_42, ti_43, ti_44, ti_45, ti_46, ti_47, ti_48, ti_49, ti_50, ti_51, ti_52, ti_53, ti_54, ti_55, ti_56, ti_57, ti_58, ti_59, ti_60, ti_61, ti_62, ti_63, ti_64, ti_65, ti_74, ti_77, ti_126, ti_200, ti_201, ti_202, ti_203, ti_204, ti_205, ti_210, ti_255, ti_256, ti_400, ti_512, ti_600, ti_601, ti_602, ti_1000, ti_1023, ti_1024, ti_2000, ti_10000, ti_12602, ti_999999, ti_m999999, ti_m1, ti_2000000, ti_3000000, xN_1, xN_4, xN_5, xN_60, xN_61, xN_64, xN_200, xN_800, xN_12000, xN_12602, eq_self, and_self, and_true, true_and, if_true, if_false, decide_true, Nat.reduceLeDiff, xc2_int, xc2_ref, xc2_ra, xc2_null, xc2_long, xc2_none, xisaT_ref, xisaT_ra, xisaT_null, xc1T_int, xc1T_ref, xc1T_ra, xc1T_null, xsum_nil, xsum_int, xsum_ref, xsum_ra, xsum_long, xsum_double, xsum_null, xfl_nil, xfl_int, xfl_ref, xfl_ra, xfl_null, xfl_long, xfl_double, List.length_cons, List.length_nil, r1, r2, r3, c0, k59, xfk, xfv, xak, xan, xcls, xsv', List.getElem?_cons_zero, List.getElem?_cons_succ, List.getD_cons_zero, List.getD_cons_succ, Option.getD_some, Option.isSome_some, if_true, if_pos, xcont, Option.toList_none, Option.toList_some, List.nil_append, List.cons_append]
  refine ⟨fun h => CR_x hI fun Q => ?_, fun h hf => ?_, fun h hf => ?_⟩
  · rw [e58]
    by_cases h1 : isB z
    · have r1 := hrz.1 h1
      by_cases h2 : -999999 ≤ v ∧ v ≤ 999999
      · have r2 := hrv.1 h2
        have r3 := hra.2 (fun e => h ⟨h1, e, h2⟩)
        simp (config := { decide := true }) only [w_iload_n1 (pc' := 1) q58 d58_0 rfl, w_invs1 (pc' := 4) q58 d58_1 rfl (by decide +kernel) k58_74_99 m15.1, w_iload_n2 (pc' := 5) q58 d58_4 rfl, w_invs1 (pc' := 8) q58 d58_5 rfl (by decide +kernel) k58_95_99 m17.1, w_iload_n3 (pc' := 9) q58 d58_8 rfl, w_invs1 (pc' := 12) q58 d58_9 rfl (by decide +kernel) k58_74_99 m15.1, gs_off, gs_off0, gs_0off, gs_2, xN_0, xN_2, xN_3, xN_6, xN_7, xN_8, xN_9, xN_10, xN_11, xN_12, xN_13, xN_14, xN_15, xN_16, xN_17, xN_18, xN_19, xN_20, xN_21, xN_22, xN_23, xN_24, xN_25, xN_26, xN_27, xN_28, xN_29, xN_30, xN_31, xN_32, xN_33, xN_34, xN_35, xN_36, xN_37, xN_38, xN_39, xN_40, xN_41, xN_42, xN_43, xN_44, xN_45, xN_46, xN_47, xN_48, xN_49, xN_50, xN_51, xN_52, xN_53, xN_54, xN_55, ti_0, ti_1, ti_2, ti_3, ti_4, ti_5, ti_6, ti_7, ti_8, ti_9, ti_10, ti_16, ti_19, ti_20, ti_29, ti_30, ti_31, ti_32, ti_35, ti_36, ti_38, ti_39, ti_40, ti_41, ti_42, ti_43, ti_44, ti_45, ti_46, ti_47, ti_48, ti_49, ti_50, ti_51, ti_52, ti_53, ti_54, ti_55, ti_56, ti_57, ti_58, ti_59, ti_60, ti_61, ti_62, ti_63, ti_64, ti_65, ti_74, ti_77, ti_126, ti_200, ti_201, ti_202, ti_203, ti_204, ti_205, ti_210, ti_255, ti_256, ti_400, ti_512, ti_600, ti_601, ti_602, ti_1000, ti_1023, ti_1024, ti_2000, ti_10000, ti_12602, ti_999999, ti_m999999, ti_m1, ti_2000000, ti_3000000, xN_1, xN_4, xN_5, xN_60, xN_61, xN_64, xN_200, xN_800, xN_12000, xN_12602, eq_self, and_self, and_true, true_and, if_true, if_false, decide_true, Nat.reduceLeDiff, xc2_int, xc2_ref, xc2_ra, xc2_null, xc2_long, xc2_none, xisaT_ref, xisaT_ra, xisaT_null, xc1T_int, xc1T_ref, xc1T_ra, xc1T_null, xsum_nil, xsum_int, xsum_ref, xsum_ra, xsum_long, xsum_double, xsum_null, xfl_nil, xfl_int, xfl_ref, xfl_ra, xfl_null, xfl_long, xfl_double, List.length_cons, List.length_nil, r1, r2, r3, xth_n h58, xfk, xfv, xak, xan, xcls, xsv', List.getElem?_cons_zero, List.getElem?_cons_succ, List.getD_cons_zero, List.getD_cons_succ, Option.getD_some, Option.isSome_some, if_true, if_pos, xcont, Option.toList_none, Option.toList_some, List.nil_append, List.cons_append]
      · have r2 := hrv.2 h2
        simp (config := { decide := true }) only [w_iload_n1 (pc' := 1) q58 d58_0 rfl, w_invs1 (pc' := 4) q58 d58_1 rfl (by decide +kernel) k58_74_99 m15.1, w_iload_n2 (pc' := 5) q58 d58_4 rfl, w_invs1 (pc' := 8) q58 d58_5 rfl (by decide +kernel) k58_95_99 m17.1, gs_off, gs_off0, gs_0off, gs_2, xN_0, xN_2, xN_3, xN_6, xN_7, xN_8, xN_9, xN_10, xN_11, xN_12, xN_13, xN_14, xN_15, xN_16, xN_17, xN_18, xN_19, xN_20, xN_21, xN_22, xN_23, xN_24, xN_25, xN_26, xN_27, xN_28, xN_29, xN_30, xN_31, xN_32, xN_33, xN_34, xN_35, xN_36, xN_37, xN_38, xN_39, xN_40, xN_41, xN_42, xN_43, xN_44, xN_45, xN_46, xN_47, xN_48, xN_49, xN_50, xN_51, xN_52, xN_53, xN_54, xN_55, ti_0, ti_1, ti_2, ti_3, ti_4, ti_5, ti_6, ti_7, ti_8, ti_9, ti_10, ti_16, ti_19, ti_20, ti_29, ti_30, ti_31, ti_32, ti_35, ti_36, ti_38, ti_39, ti_40, ti_41, ti_42, ti_43, ti_44, ti_45, ti_46, ti_47, ti_48, ti_49, ti_50, ti_51, ti_52, ti_53, ti_54, ti_55, ti_56, ti_57, ti_58, ti_59, ti_60, ti_61, ti_62, ti_63, ti_64, ti_65, ti_74, ti_77, ti_126, ti_200, ti_201, ti_202, ti_203, ti_204, ti_205, ti_210, ti_255, ti_256, ti_400, ti_512, ti_600, ti_601, ti_602, ti_1000, ti_1023, ti_1024, ti_2000, ti_10000, ti_12602, ti_999999, ti_m999999, ti_m1, ti_2000000, ti_3000000, xN_1, xN_4, xN_5, xN_60, xN_61, xN_64, xN_200, xN_800, xN_12000, xN_12602, eq_self, and_self, and_true, true_and, if_true, if_false, decide_true, Nat.reduceLeDiff, xc2_int, xc2_ref, xc2_ra, xc2_null, xc2_long, xc2_none, xisaT_ref, xisaT_ra, xisaT_null, xc1T_int, xc1T_ref, xc1T_ra, xc1T_null, xsum_nil, xsum_int, xsum_ref, xsum_ra, xsum_long, xsum_double, xsum_null, xfl_nil, xfl_int, xfl_ref, xfl_ra, xfl_null, xfl_long, xfl_double, List.length_cons, List.length_nil, r1, r2, xth_n h58, xfk, xfv, xak, xan, xcls, xsv', List.getElem?_cons_zero, List.getElem?_cons_succ, List.getD_cons_zero, List.getD_cons_succ, Option.getD_some, Option.isSome_some, if_true, if_pos, xcont, Option.toList_none, Option.toList_some, List.nil_append, List.cons_append]
    · have r1 := hrz.2 h1
      simp (config := { decide := true }) only [w_iload_n1 (pc' := 1) q58 d58_0 rfl, w_invs1 (pc' := 4) q58 d58_1 rfl (by decide +kernel) k58_74_99 m15.1, gs_off, gs_off0, gs_0off, gs_2, xN_0, xN_2, xN_3, xN_6, xN_7, xN_8, xN_9, xN_10, xN_11, xN_12, xN_13, xN_14, xN_15, xN_16, xN_17, xN_18, xN_19, xN_20, xN_21, xN_22, xN_23, xN_24, xN_25, xN_26, xN_27, xN_28, xN_29, xN_30, xN_31, xN_32, xN_33, xN_34, xN_35, xN_36, xN_37, xN_38, xN_39, xN_40, xN_41, xN_42, xN_43, xN_44, xN_45, xN_46, xN_47, xN_48, xN_49, xN_50, xN_51, xN_52, xN_53, xN_54, xN_55, ti_0, ti_1, ti_2, ti_3, ti_4, ti_5, ti_6, ti_7, ti_8, ti_9, ti_10, ti_16, ti_19, ti_20, ti_29, ti_30, ti_31, ti_32, ti_35, ti_36, ti_38, ti_39, ti_40, ti_41, ti_42, ti_43, ti_44, ti_45, ti_46, ti_47, ti_48, ti_49, ti_50, ti_51, ti_52, ti_53, ti_54, ti_55, ti_56, ti_57, ti_58, ti_59, ti_60, ti_61, ti_62, ti_63, ti_64, ti_65, ti_74, ti_77, ti_126, ti_200, ti_201, ti_202, ti_203, ti_204, ti_205, ti_210, ti_255, ti_256, ti_400, ti_512, ti_600, ti_601, ti_602, ti_1000, ti_1023, ti_1024, ti_2000, ti_10000, ti_12602, ti_999999, ti_m999999, ti_m1, ti_2000000, ti_3000000, xN_1, xN_4, xN_5, xN_60, xN_61, xN_64, xN_200, xN_800, xN_12000, xN_12602, eq_self, and_self, and_true, true_and, if_true, if_false, decide_true, Nat.reduceLeDiff, xc2_int, xc2_ref, xc2_ra, xc2_null, xc2_long, xc2_none, xisaT_ref, xisaT_ra, xisaT_null, xc1T_int, xc1T_ref, xc1T_ra, xc1T_null, xsum_nil, xsum_int, xsum_ref, xsum_ra, xsum_long, xsum_double, xsum_null, xfl_nil, xfl_int, xfl_ref, xfl_ra, xfl_null, xfl_long, xfl_double, List.length_cons, List.length_nil, r1, xth_n h58, xfk, xfv, xak, xan, xcls, xsv', List.getElem?_cons_zero, List.getElem?_cons_succ, List.getD_cons_zero, List.getD_cons_succ, Option.getD_some, Option.isSome_some, if_true, if_pos, xcont, Option.toList_none, Option.toList_some, List.nil_append, List.cons_append]
  · obtain ⟨g', f1, f2, v1, v2, hk⟩ := core h
    obtain ⟨a1, a2⟩ := h.2.1
    have rz := f2.1.2.2.1 a
    rw [v1] at rz
    have tk : ti (flA (tmpA A z 1 v) a) = flA (tmpA A z 1 v) a := ti_eq (by omega) (by omega)
    have hf' : ¬ flA (tmpA A z 1 v) a = 0 := by omega
    have h1 : ∀ Q, Cw X (d + 299) 36 [.ref t, .int (iI a)] (hp S g') Q = Q (.inr 1) (hp (xSx S) g') := fun Q => by
      rw [e36]
      simp (config := { decide := true }) only [w_aload_n0 (pc' := 1) q36 d36_0 rfl, w_getV (pc' := 4) q36 d36_1 rfl f36_80, w_getV (pc' := 7) q36 d36_4 rfl f36_245, w_iload_n1 (pc' := 8) q36 d36_7 rfl, w_iaload (pc' := 9) q36 d36_8 rfl, w_if_eq (tg := 23) (pc' := 12) q36 d36_9 (by decide) rfl, w_throw (ee := 1) q36 d36_12 (by decide +kernel), w_aload_n0 (pc' := 24) q36 d36_23 rfl, w_getV (pc' := 27) q36 d36_24 rfl f36_80, w_getV (pc' := 30) q36 d36_27 rfl f36_278, w_iload_n1 (pc' := 31) q36 d36_30 rfl, w_iaload (pc' := 32) q36 d36_31 rfl, w_ireturn q36 d36_32 m36.2.1, gs_off, gs_off0, gs_0off, gs_2, xN_0, xN_2, xN_3, xN_6, xN_7, xN_8, xN_9, xN_10, xN_11, xN_12, xN_13, xN_14, xN_15, xN_16, xN_17, xN_18, xN_19, xN_20, xN_21, xN_22, xN_23, xN_24, xN_25, xN_26, xN_27, xN_28, xN_29, xN_30, xN_31, xN_32, xN_33, xN_34, xN_35, xN_36, xN_37, xN_38, xN_39, xN_40, xN_41, xN_42, xN_43, xN_44, xN_45, xN_46, xN_47, xN_48, xN_49, xN_50, xN_51, xN_52, xN_53, xN_54, xN_55, ti_0, ti_1, ti_2, ti_3, ti_4, ti_5, ti_6, ti_7, ti_8, ti_9, ti_10, ti_16, ti_19, ti_20, ti_29, ti_30, ti_31, ti_32, ti_35, ti_36, ti_38, ti_39, ti_40, ti_41, ti_42, ti_43, ti_44, ti_45, ti_46, ti_47, ti_48, ti_49, ti_50, ti_51, ti_52, ti_53, ti_54, ti_55, ti_56, ti_57, ti_58, ti_59, ti_60, ti_61, ti_62, ti_63, ti_64, ti_65, ti_74, ti_77, ti_126, ti_200, ti_201, ti_202, ti_203, ti_204, ti_205, ti_210, ti_255, ti_256, ti_400, ti_512, ti_600, ti_601, ti_602, ti_1000, ti_1023, ti_1024, ti_2000, ti_10000, ti_12602, ti_999999, ti_m999999, ti_m1, ti_2000000, ti_3000000, xN_1, xN_4, xN_5, xN_60, xN_61, xN_64, xN_200, xN_800, xN_12000, xN_12602, eq_self, and_self, and_true, true_and, if_true, if_false, decide_true, Nat.reduceLeDiff, xc2_int, xc2_ref, xc2_ra, xc2_null, xc2_long, xc2_none, xisaT_ref, xisaT_ra, xisaT_null, xc1T_int, xc1T_ref, xc1T_ra, xc1T_null, xsum_nil, xsum_int, xsum_ref, xsum_ra, xsum_long, xsum_double, xsum_null, xfl_nil, xfl_int, xfl_ref, xfl_ra, xfl_null, xfl_long, xfl_double, List.length_cons, List.length_nil, t0, s0, s3, ta, a1, a2, v1, tk, hf', xfk, xfv, xak, xan, xcls, xsv', List.getElem?_cons_zero, List.getElem?_cons_succ, List.getD_cons_zero, List.getD_cons_succ, Option.getD_some, Option.isSome_some, if_true, if_pos, xcont, Option.toList_none, Option.toList_some, List.nil_append, List.cons_append]
    refine CR_gx (g' := g') hS' (fun j jj => f1 j (by omega)) (CdI_tri (by omega) f1 (TrI_of f2) hI) fun Q => ?_
    rw [hk]
    simp (config := { decide := true }) only [w_aload_n0 (pc' := 19) q58 d58_18 rfl, w_getV (pc' := 22) q58 d58_19 rfl f58_23, w_iload_n3 (pc' := 23) q58 d58_22 rfl, w_invs2 (pc' := 26) q58 d58_23 rfl (by decide +kernel) k58_191_99 m36.1, w_ireturn q58 d58_26 m58.2.1, gs_off, gs_off0, gs_0off, gs_2, xN_0, xN_2, xN_3, xN_6, xN_7, xN_8, xN_9, xN_10, xN_11, xN_12, xN_13, xN_14, xN_15, xN_16, xN_17, xN_18, xN_19, xN_20, xN_21, xN_22, xN_23, xN_24, xN_25, xN_26, xN_27, xN_28, xN_29, xN_30, xN_31, xN_32, xN_33, xN_34, xN_35, xN_36, xN_37, xN_38, xN_39, xN_40, xN_41, xN_42, xN_43, xN_44, xN_45, xN_46, xN_47, xN_48, xN_49, xN_50, xN_51, xN_52, xN_53, xN_54, xN_55, ti_0, ti_1, ti_2, ti_3, ti_4, ti_5, ti_6, ti_7, ti_8, ti_9, ti_10, ti_16, ti_19, ti_20, ti_29, ti_30, ti_31, ti_32, ti_35, ti_36, ti_38, ti_39, ti_40, ti_41, ti_42, ti_43, ti_44, ti_45, ti_46, ti_47, ti_48, ti_49, ti_50, ti_51, ti_52, ti_53, ti_54, ti_55, ti_56, ti_57, ti_58, ti_59, ti_60, ti_61, ti_62, ti_63, ti_64, ti_65, ti_74, ti_77, ti_126, ti_200, ti_201, ti_202, ti_203, ti_204, ti_205, ti_210, ti_255, ti_256, ti_400, ti_512, ti_600, ti_601, ti_602, ti_1000, ti_1023, ti_1024, ti_2000, ti_10000, ti_12602, ti_999999, ti_m999999, ti_m1, ti_2000000, ti_3000000, xN_1, xN_4, xN_5, xN_60, xN_61, xN_64, xN_200, xN_800, xN_12000, xN_12602, eq_self, and_self, and_true, true_and, if_true, if_false, decide_true, Nat.reduceLeDiff, xc2_int, xc2_ref, xc2_ra, xc2_null, xc2_long, xc2_none, xisaT_ref, xisaT_ra, xisaT_null, xc1T_int, xc1T_ref, xc1T_ra, xc1T_null, xsum_nil, xsum_int, xsum_ref, xsum_ra, xsum_long, xsum_double, xsum_null, xfl_nil, xfl_int, xfl_ref, xfl_ra, xfl_null, xfl_long, xfl_double, List.length_cons, List.length_nil, c0, h1, xth_n h58, xfk, xfv, xak, xan, xcls, xsv', List.getElem?_cons_zero, List.getElem?_cons_succ, List.getD_cons_zero, List.getD_cons_succ, Option.getD_some, Option.isSome_some, if_true, if_pos, xcont, Option.toList_none, Option.toList_some, List.nil_append, List.cons_append]
  · obtain ⟨g', f1, f2, v1, v2, hk⟩ := core h
    obtain ⟨a1, a2⟩ := h.2.1
    have rz := f2.1.2.2.1 a
    rw [v1] at rz
    have hf' : flA (tmpA A z 1 v) a = 0 := by omega
    have h1 : ∀ Q, Cw X (d + 299) 36 [.ref t, .int (iI a)] (hp S g') Q = Q (.inl (some (.int (iI (vlA (tmpA A z 1 v) a))))) (hp S g') := fun Q => by
      rw [e36]
      simp (config := { decide := true }) only [w_aload_n0 (pc' := 1) q36 d36_0 rfl, w_getV (pc' := 4) q36 d36_1 rfl f36_80, w_getV (pc' := 7) q36 d36_4 rfl f36_245, w_iload_n1 (pc' := 8) q36 d36_7 rfl, w_iaload (pc' := 9) q36 d36_8 rfl, w_if_eq (tg := 23) (pc' := 12) q36 d36_9 (by decide) rfl, w_throw (ee := 1) q36 d36_12 (by decide +kernel), w_aload_n0 (pc' := 24) q36 d36_23 rfl, w_getV (pc' := 27) q36 d36_24 rfl f36_80, w_getV (pc' := 30) q36 d36_27 rfl f36_278, w_iload_n1 (pc' := 31) q36 d36_30 rfl, w_iaload (pc' := 32) q36 d36_31 rfl, w_ireturn q36 d36_32 m36.2.1, gs_off, gs_off0, gs_0off, gs_2, xN_0, xN_2, xN_3, xN_6, xN_7, xN_8, xN_9, xN_10, xN_11, xN_12, xN_13, xN_14, xN_15, xN_16, xN_17, xN_18, xN_19, xN_20, xN_21, xN_22, xN_23, xN_24, xN_25, xN_26, xN_27, xN_28, xN_29, xN_30, xN_31, xN_32, xN_33, xN_34, xN_35, xN_36, xN_37, xN_38, xN_39, xN_40, xN_41, xN_42, xN_43, xN_44, xN_45, xN_46, xN_47, xN_48, xN_49, xN_50, xN_51, xN_52, xN_53, xN_54, xN_55, ti_0, ti_1, ti_2, ti_3, ti_4, ti_5, ti_6, ti_7, ti_8, ti_9, ti_10, ti_16, ti_19, ti_20, ti_29, ti_30, ti_31, ti_32, ti_35, ti_36, ti_38, ti_39, ti_40, ti_41, ti_42, ti_43, ti_44, ti_45, ti_46, ti_47, ti_48, ti_49, ti_50, ti_51, ti_52, ti_53, ti_54, ti_55, ti_56, ti_57, ti_58, ti_59, ti_60, ti_61, ti_62, ti_63, ti_64, ti_65, ti_74, ti_77, ti_126, ti_200, ti_201, ti_202, ti_203, ti_204, ti_205, ti_210, ti_255, ti_256, ti_400, ti_512, ti_600, ti_601, ti_602, ti_1000, ti_1023, ti_1024, ti_2000, ti_10000, ti_12602, ti_999999, ti_m999999, ti_m1, ti_2000000, ti_3000000, xN_1, xN_4, xN_5, xN_60, xN_61, xN_64, xN_200, xN_800, xN_12000, xN_12602, eq_self, and_self, and_true, true_and, if_true, if_false, decide_true, Nat.reduceLeDiff, xc2_int, xc2_ref, xc2_ra, xc2_null, xc2_long, xc2_none, xisaT_ref, xisaT_ra, xisaT_null, xc1T_int, xc1T_ref, xc1T_ra, xc1T_null, xsum_nil, xsum_int, xsum_ref, xsum_ra, xsum_long, xsum_double, xsum_null, xfl_nil, xfl_int, xfl_ref, xfl_ra, xfl_null, xfl_long, xfl_double, List.length_cons, List.length_nil, t0, s0, s2, s3, ta, a1, a2, v1, v2, hf', ti_0, xfk, xfv, xak, xan, xcls, xsv', List.getElem?_cons_zero, List.getElem?_cons_succ, List.getD_cons_zero, List.getD_cons_succ, Option.getD_some, Option.isSome_some, if_true, if_pos, xcont, Option.toList_none, Option.toList_some, List.nil_append, List.cons_append]
    refine CR_g hS' (fun j jj => f1 j (by omega)) (CdI_tri (by omega) f1 (TrI_of f2) hI) fun Q => ?_
    rw [hk]
    simp (config := { decide := true }) only [w_aload_n0 (pc' := 19) q58 d58_18 rfl, w_getV (pc' := 22) q58 d58_19 rfl f58_23, w_iload_n3 (pc' := 23) q58 d58_22 rfl, w_invs2 (pc' := 26) q58 d58_23 rfl (by decide +kernel) k58_191_99 m36.1, w_ireturn q58 d58_26 m58.2.1, gs_off, gs_off0, gs_0off, gs_2, xN_0, xN_2, xN_3, xN_6, xN_7, xN_8, xN_9, xN_10, xN_11, xN_12, xN_13, xN_14, xN_15, xN_16, xN_17, xN_18, xN_19, xN_20, xN_21, xN_22, xN_23, xN_24, xN_25, xN_26, xN_27, xN_28, xN_29, xN_30, xN_31, xN_32, xN_33, xN_34, xN_35, xN_36, xN_37, xN_38, xN_39, xN_40, xN_41, xN_42, xN_43, xN_44, xN_45, xN_46, xN_47, xN_48, xN_49, xN_50, xN_51, xN_52, xN_53, xN_54, xN_55, ti_0, ti_1, ti_2, ti_3, ti_4, ti_5, ti_6, ti_7, ti_8, ti_9, ti_10, ti_16, ti_19, ti_20, ti_29, ti_30, ti_31, ti_32, ti_35, ti_36, ti_38, ti_39, ti_40, ti_41, ti_42, ti_43, ti_44, ti_45, ti_46, ti_47, ti_48, ti_49, ti_50, ti_51, ti_52, ti_53, ti_54, ti_55, ti_56, ti_57, ti_58, ti_59, ti_60, ti_61, ti_62, ti_63, ti_64, ti_65, ti_74, ti_77, ti_126, ti_200, ti_201, ti_202, ti_203, ti_204, ti_205, ti_210, ti_255, ti_256, ti_400, ti_512, ti_600, ti_601, ti_602, ti_1000, ti_1023, ti_1024, ti_2000, ti_10000, ti_12602, ti_999999, ti_m999999, ti_m1, ti_2000000, ti_3000000, xN_1, xN_4, xN_5, xN_60, xN_61, xN_64, xN_200, xN_800, xN_12000, xN_12602, eq_self, and_self, and_true, true_and, if_true, if_false, decide_true, Nat.reduceLeDiff, xc2_int, xc2_ref, xc2_ra, xc2_null, xc2_long, xc2_none, xisaT_ref, xisaT_ra, xisaT_null, xc1T_int, xc1T_ref, xc1T_ra, xc1T_null, xsum_nil, xsum_int, xsum_ref, xsum_ra, xsum_long, xsum_double, xsum_null, xfl_nil, xfl_int, xfl_ref, xfl_ra, xfl_null, xfl_long, xfl_double, List.length_cons, List.length_nil, c0, h1, xfk, xfv, xak, xan, xcls, xsv', List.getElem?_cons_zero, List.getElem?_cons_succ, List.getD_cons_zero, List.getD_cons_succ, Option.getD_some, Option.isSome_some, if_true, if_pos, xcont, Option.toList_none, Option.toList_some, List.nil_append, List.cons_append]
end
