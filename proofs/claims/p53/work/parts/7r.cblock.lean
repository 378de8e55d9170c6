/-! The class: blocks are copied -/
section
variable {X : xX} {S S' : xLm} {g g' G : xGm} {d c p k t o y b m j : Nat} {w : xH} {Q : xO → xH → Prop} {P P' : Pd} {A A' B : Sh} {sn : Option Sh} {H : List Sh}
/-- the memory with a copying -/
def gCp (S : xLm) (g : xGm) (f x : Int) : xGm := gs (gs (gz g S.2.1 0) S.2.1 0 f) S.2.1 1 x
def sCp (S : xLm) : xLm := xSn S (.inr (3, xDs 3)) (xDf.getD 3 []).length
theorem gCp_row {f x : Int} {h : Nat} (hh : ¬ h = S.2.1) : gCp S g f x h = g h := by
  unfold gCp
  rw [gs_row _ _ _ hh, gs_row _ _ _ hh, gz_row hh]
theorem c_newCopy {f x : Int} (hj : S.1 j = .inr (3, [none, none])) : ∀ Q, Cw X (d + 2) 86 [.ref j, .int (iI f), .int (iI x)] (hp S g) Q = Q (.inl none) (hp S (gs (gs g j 0 f) j 1 x)) := fun Q => by
  have h0 := fun Q => c_rwInit (X := X) (S := S) (g := g) (d := d) (j := j) Q (by rw [hj]; rfl)
  rw [e86]
  simp (config := { decide := true }) only [w_aload_n0 (pc' := 1) q86 d86_0 rfl, w_invp0 (pc' := 4) q86 d86_1 rfl (by decide +kernel) k86_3_98 m146.1, w_aload_n0 (pc' := 5) q86 d86_4 rfl, w_iload_n1 (pc' := 6) q86 d86_5 rfl, w_putI (pc' := 9) q86 d86_6 rfl f86_9 rfl (by decide +kernel), w_aload_n0 (pc' := 10) q86 d86_9 rfl, w_iload_n2 (pc' := 11) q86 d86_10 rfl, w_putI (pc' := 14) q86 d86_11 rfl f86_15 rfl (by decide +kernel), w_return q86 d86_14 m86.2.1, gs_off, gs_off0, gs_0off, gs_2, xN_0, xN_2, xN_3, xN_6, xN_7, xN_8, xN_9, xN_10, xN_11, xN_12, xN_13, xN_14, xN_15, xN_16, xN_17, xN_18, xN_19, xN_20, xN_21, xN_22, xN_23, xN_24, xN_25, xN_26, xN_27, xN_28, xN_29, xN_30, xN_31, xN_32, xN_33, xN_34, xN_35, xN_36, xN_37, xN_38, xN_39, xN_40, xN_41, xN_42, xN_43, xN_44, xN_45, xN_46, xN_47, xN_48, xN_49, xN_50, xN_51, xN_52, xN_53, xN_54, xN_55, ti_0, ti_1, ti_2, ti_3, ti_4, ti_5, ti_6, ti_7, ti_8, ti_9, ti_10, ti_16, ti_19, ti_20, ti_29, ti_30, ti_31, ti_32, ti_35, ti_36, ti_38, ti_39, ti_40, ti_41, ti_42, ti_43, ti_44, ti_45, ti_46, ti_47, ti_48, ti_49, ti_50, ti_51, ti_52, ti_53, ti_54, ti_55, ti_56, ti_57, ti_58, ti_59, ti_60, ti_61, ti_62, ti_63, ti_64, ti_65, ti_74, ti_77, ti_126, ti_200, ti_201, ti_202, ti_203, ti_204, ti_205, ti_210, ti_255, ti_256, ti_400, ti_512, ti_600, ti_601, ti_602, ti_1000, ti_1023, ti_1024, ti_2000, ti_10000, ti_12602, ti_999999, ti_m999999, ti_m1, ti_2000000, ti_3000000, xN_1, xN_4, xN_5, xN_60, xN_61, xN_64, xN_200, xN_800, xN_12000, xN_12602, eq_self, and_self, and_true, true_and, if_true, if_false, decide_true, Nat.reduceLeDiff, xc2_int, xc2_ref, xc2_ra, xc2_null, xc2_long, xc2_none, xisaT_ref, xisaT_ra, xisaT_null, xc1T_int, xc1T_ref, xc1T_ra, xc1T_null, xsum_nil, xsum_int, xsum_ref, xsum_ra, xsum_long, xsum_double, xsum_null, xfl_nil, xfl_int, xfl_ref, xfl_ra, xfl_null, xfl_long, xfl_double, List.length_cons, List.length_nil, hj, h0, xfk, xfv, xak, xan, xcls, xsv', List.getElem?_cons_zero, List.getElem?_cons_succ, List.getD_cons_zero, List.getD_cons_succ, Option.getD_some, Option.isSome_some, if_true, if_pos, xcont, Option.toList_none, Option.toList_some, List.nil_append, List.cons_append]
theorem cpQ_E {fi to h w v : Int} {f : Int → Int} {p p' : Int → Bool} (hv : inBk to h w (to + v)) (h0 : p (to + v) = false) (h1 : ∀ x, inBk to h w x → p' x = (p x || decide (x = to + v))) : ∀ x, 0 ≤ x → x < 200 → (shP (cpQ A fi to h w f p) (to + v) (A.1 (fi + v)) (A.2.1 (fi + v)) ((A.2.2.1 (fi + v)).map f)).1 x = (cpQ A fi to h w f p').1 x ∧ ((shP (cpQ A fi to h w f p) (to + v) (A.1 (fi + v)) (A.2.1 (fi + v)) ((A.2.2.1 (fi + v)).map f)).1 x = 1 → (shP (cpQ A fi to h w f p) (to + v) (A.1 (fi + v)) (A.2.1 (fi + v)) ((A.2.2.1 (fi + v)).map f)).2.1 x = (cpQ A fi to h w f p').2.1 x) ∧ ((shP (cpQ A fi to h w f p) (to + v) (A.1 (fi + v)) (A.2.1 (fi + v)) ((A.2.2.1 (fi + v)).map f)).1 x = 2 → (shP (cpQ A fi to h w f p) (to + v) (A.1 (fi + v)) (A.2.1 (fi + v)) ((A.2.2.1 (fi + v)).map f)).2.2.1 x = (cpQ A fi to h w f p').2.2.1 x) := fun x x1 x2 => by
  by_cases e : x = to + v
  · have hy : inBk to h w x ∧ p' x = true := by
      refine ⟨by rw [e]; exact hv, ?_⟩
      rw [h1 x (by rw [e]; exact hv), decide_eq_true e, Bool.or_true]
    obtain ⟨q1, q2, q3⟩ := cpQ_y (A := A) (fi := fi) (f := f) hy
    have ex : x - to + fi = fi + v := by omega
    rw [ex] at q1 q2 q3
    rw [q1, q2, q3]
    unfold shP
    dsimp only
    rw [if_pos e, if_pos e, if_pos e]
    exact ⟨rfl, fun _ => rfl, fun _ => rfl⟩
  · unfold shP
    dsimp only
    rw [if_neg e, if_neg e, if_neg e]
    by_cases hb : inBk to h w x
    · have ep : p' x = p x := by rw [h1 x hb, decide_eq_false e, Bool.or_false]
      by_cases ht : p x = true
      · obtain ⟨q1, q2, q3⟩ := cpQ_y (A := A) (fi := fi) (f := f) ⟨hb, ht⟩
        obtain ⟨r1, r2, r3⟩ := cpQ_y (A := A) (fi := fi) (f := f) ⟨hb, ep.trans ht⟩
        rw [q1, q2, q3, r1, r2, r3]
        exact ⟨rfl, fun _ => rfl, fun _ => rfl⟩
      · obtain ⟨q1, q2, q3⟩ := cpQ_n (A := A) (fi := fi) (to := to) (h := h) (w := w) (f := f) (p := p) (fun e => ht e.2)
        obtain ⟨r1, r2, r3⟩ := cpQ_n (A := A) (fi := fi) (to := to) (h := h) (w := w) (f := f) (p := p') (x := x) (fun e => ht (ep.symm.trans e.2))
        rw [q1, q2, q3, r1, r2, r3]
        exact ⟨rfl, fun _ => rfl, fun _ => rfl⟩
    · obtain ⟨q1, q2, q3⟩ := cpQ_n (A := A) (fi := fi) (to := to) (h := h) (w := w) (f := f) (p := p) (fun e => hb e.1)
      obtain ⟨r1, r2, r3⟩ := cpQ_n (A := A) (fi := fi) (to := to) (h := h) (w := w) (f := f) (p := p') (x := x) (fun e => hb e.1)
      rw [q1, q2, q3, r1, r2, r3]
      exact ⟨rfl, fun _ => rfl, fun _ => rfl⟩
/-- the cells of the block before a step -/
def pBf (to v x : Int) : Bool := decide (x < to + v)
/-- a sheet with a part of a block is in order -/
theorem cpQ_ok {fi to h w : Int} {p : Int → Bool} {sp : Int → Int} {co : Int → Int → Int} (ok1 : ∀ s, okS s → okM (sp s)) (ok2 : ∀ s o, okS s → okS o → okM (co s o)) (hA : ShOK A) (hf : 0 ≤ fi) (h1 : fi % 10 + w ≤ 10) (h2 : fi / 10 + h ≤ 20) (ht : 0 ≤ to) (h3 : to % 10 + w ≤ 10) : ShOK (cpQ A fi to h w (tkF sp co) p) := fun x x1 x2 => by
  by_cases hb : inBk to h w x ∧ p x = true
  · obtain ⟨q1, q2, q3⟩ := cpQ_y (A := A) (fi := fi) (f := tkF sp co) hb
    have hr := src_rng hf h1 h2 ht h3 hb.1
    rw [q1, q2, q3]
    obtain ⟨a1, a2, a3⟩ := hA _ hr.1 hr.2
    exact ⟨a1, fun e => words_ok ok1 ok2 (a2 e), a3⟩
  · obtain ⟨q1, q2, q3⟩ := cpQ_n (A := A) (fi := fi) (to := to) (h := h) (w := w) (f := tkF sp co) hb
    rw [q1, q2, q3]
    exact hA x x1 x2
theorem bk_at {to h w r e : Int} (ht : 0 ≤ to) (h1 : to % 10 + w ≤ 10) (hr : 0 ≤ r) (hr2 : r < h) (he : 0 ≤ e) (he2 : e < w) : inBk to h w (to + (10 * r + e)) := by
  unfold inBk
  omega
theorem bk_row {to h w r x : Int} (ht : 0 ≤ to) (h1 : to % 10 + w ≤ 10) (hw : 1 ≤ w) (hr : 0 ≤ r) (hx : inBk to h w x) : pBf to (10 * r + w) x = pBf to (10 * (r + 1) + 0) x := by
  unfold pBf
  unfold inBk at hx
  by_cases e : x < to + (10 * r + w)
  · rw [decide_eq_true e, decide_eq_true (by omega)]
  · rw [decide_eq_false e, decide_eq_false (by omega)]
/-- what a loop of a copied block keeps -/
def CbI (g1 G : xGm) (k : Nat) (A : Sh) (fi to h w dr dc v : Int) : Prop := StF g1 G (k + 1) ∧ StI G (k + 1) ∧ StC G (k + 1) (cpQ A fi to h w (tkF (cpS dr dc) (fun s _ => cpS dr dc s)) (pBf to v))
theorem l_cinner {h0 : Nat} {fi la to h W dr dc r : Int} {g1 : xGm} (hS : CsS S c p k t o y b m) (hj : S.1 j = .inr (3, [none, none])) (hjb : b < j) (hdr : -19 ≤ dr ∧ dr ≤ 19) (hdc : -9 ≤ dc ∧ dc ≤ 9) (hj0 : g1 j 0 = dr) (hj1 : g1 j 1 = dc) (hA : ShOK A) (hh : y < h0 ∧ h0 + 5 < b) (hO : StS S h0) (hR : StI g1 h0) (hC : StC g1 h0 A)
    (hw : 1 ≤ W ∧ W ≤ 10) (hhh : 1 ≤ h ∧ h ≤ 20) (hf : 0 ≤ fi ∧ fi < 200) (hf1 : fi % 10 + W ≤ 10) (hf2 : fi / 10 + h ≤ 20) (ht : 0 ≤ to ∧ to < 200) (ht1 : to % 10 + W ≤ 10) (ht2 : to / 10 + h ≤ 20) (hr : 0 ≤ r) (hr2 : r < h) : ∀ (n : Nat) (e : Int) (G : xGm) (y10 : Option Value), e + n = W → 0 ≤ e → CbI g1 G k A fi to h W dr dc (10 * r + e) →
    ∃ G' y10', CbI g1 G' k A fi to h W dr dc (10 * r + W) ∧ ∀ Q, Wx X (d + 290) 19 150 [some (.ref c), some (.int (iI fi)), some (.int (iI la)), some (.int (iI to)), some (.int (iI h)), some (.int (iI W)), some (.ref h0), some (.ref j), some (.int (iI r)), some (.int (iI e)), y10] [] (hp S G) Q = Wx X (d + 290) 19 210 [some (.ref c), some (.int (iI fi)), some (.int (iI la)), some (.int (iI to)), some (.int (iI h)), some (.int (iI W)), some (.ref h0), some (.ref j), some (.int (iI r)), some (.int (iI W)), y10'] [] (hp S G') Q := by
  obtain ⟨c0, ⟨hp0, hk0, ht0, ho0, hy0⟩, hL⟩ := hS
  obtain ⟨k0, kS, kL⟩ := id hk0
  have b0 := kS.1
  have tW : ti W = W := ti_eq (by omega) (by omega)
  intro n
  induction n with
  | zero =>
    intro e G y10 hn he hI
    have ee : e = W := by omega
    subst ee
    refine ⟨G, y10, hI, fun Q => ?_⟩
    rw [w_iload9 (pc' := 152) q19 d19_150 rfl]
    simp (config := { decide := true }) only [w_iload5 (pc' := 154) q19 d19_152 rfl, w_icmp_ge (tg := 210) (pc' := 157) q19 d19_154 (by decide) rfl, gs_off, gs_off0, gs_0off, gs_2, xN_0, xN_2, xN_3, xN_6, xN_7, xN_8, xN_9, xN_10, xN_11, xN_12, xN_13, xN_14, xN_15, xN_16, xN_17, xN_18, xN_19, xN_20, xN_21, xN_22, xN_23, xN_24, xN_25, xN_26, xN_27, xN_28, xN_29, xN_30, xN_31, xN_32, xN_33, xN_34, xN_35, xN_36, xN_37, xN_38, xN_39, xN_40, xN_41, xN_42, xN_43, xN_44, xN_45, xN_46, xN_47, xN_48, xN_49, xN_50, xN_51, xN_52, xN_53, xN_54, xN_55, ti_0, ti_1, ti_2, ti_3, ti_4, ti_5, ti_6, ti_7, ti_8, ti_9, ti_10, ti_16, ti_19, ti_20, ti_29, ti_30, ti_31, ti_32, ti_35, ti_36, ti_38, ti_39, ti_40, ti_41, ti_42, ti_43, ti_44, ti_45, ti_46, ti_47, ti_48, ti_49, ti_50, ti_51, ti_52, ti_53, ti_54, ti_55, ti_56, ti_57, ti_58, ti_59, ti_60, ti_61, ti_62, ti_63, ti_64, ti_65, ti_74, ti_77, ti_126, ti_200, ti_201, ti_202, ti_203, ti_204, ti_205, ti_210, ti_255, ti_256, ti_400, ti_512, ti_600, ti_601, ti_602, ti_1000, ti_1023, ti_1024, ti_2000, ti_10000, ti_12602, ti_999999, ti_m999999, ti_m1, ti_2000000, ti_3000000, xN_1, xN_4, xN_5, xN_60, xN_61, xN_64, xN_200, xN_800, xN_12000, xN_12602, eq_self, and_self, and_true, true_and, if_true, if_false, decide_true, Nat.reduceLeDiff, xc2_int, xc2_ref, xc2_ra, xc2_null, xc2_long, xc2_none, xisaT_ref, xisaT_ra, xisaT_null, xc1T_int, xc1T_ref, xc1T_ra, xc1T_null, xsum_nil, xsum_int, xsum_ref, xsum_ra, xsum_long, xsum_double, xsum_null, xfl_nil, xfl_int, xfl_ref, xfl_ra, xfl_null, xfl_long, xfl_double, List.length_cons, List.length_nil, tW, Int.le_refl, xfk, xfv, xak, xan, xcls, xsv', List.getElem?_cons_zero, List.getElem?_cons_succ, List.getD_cons_zero, List.getD_cons_succ, Option.getD_some, Option.isSome_some, if_true, if_pos, xcont, Option.toList_none, Option.toList_some, List.nil_append, List.cons_append]
  | succ n ih =>
    intro e G y10 hn he ⟨hF, hI, hG⟩
    have he2 : e < W := by omega
    have hnl : ¬ W ≤ e := by omega
    have te : ti e = e := ti_eq (by omega) (by omega)
    have hbk := bk_at (to := to) (h := h) (w := W) (r := r) (e := e) ht.1 ht1 hr hr2 he he2
    have hto : 0 ≤ to + (10 * r + e) ∧ to + (10 * r + e) < 200 := by omega
    have hfi : 0 ≤ fi + (10 * r + e) ∧ fi + (10 * r + e) < 200 := by omega
    have hRG : StI G h0 := StI_congr (fun i _ _ => hF _ (by omega)) hR
    have hCG : StC G h0 A := StC_congr (fun i _ _ => hF _ (by omega)) hC
    have hb := hRG.2.2.2.1 (fi + (10 * r + e))
    have htk : ∀ Q, Cw X (d + 289) 150 [.ref (k + 1), .int (iI (to + (10 * r + e))), .ref h0, .int (iI (fi + (10 * r + e)))] (hp S G) Q = Q (.inl none) (hp S (gT G (k + 1) h0 (to + (10 * r + e)) (fi + (10 * r + e)))) := fun Q => c_takeCell (X := X) (d := d + 287) (g := G) kS hO (by omega) hto.1 hto.2 hfi.1 hfi.2 hb.1 hb.2
    have s1 := StI_take (c := to + (10 * r + e)) (s := fi + (10 * r + e)) hI hRG
    have s2 := StC_take (c := to + (10 * r + e)) (s := fi + (10 * r + e)) hG hCG hI hRG hto hfi
    have F1 := gT_F (g := G) (a := k + 1) (o := h0) (c := to + (10 * r + e)) (s := fi + (10 * r + e))
    obtain ⟨G1, eG1⟩ : ∃ G1, G1 = gT G (k + 1) h0 (to + (10 * r + e)) (fi + (10 * r + e)) := ⟨_, rfl⟩
    rw [← eG1] at htk s1 s2 F1
    have hRw : RwI S G1 j (cpS dr dc) (fun s _ => cpS dr dc s) := .inl ⟨dr, dc, hj, by rw [F1 j (by omega), hF j (by omega)]; exact hj0, by rw [F1 j (by omega), hF j (by omega)]; exact hj1, hdr, hdc, rfl, rfl⟩
    have hok := RwI_ok hRw
    have hBo : ShOK (shP (cpQ A fi to h W (tkF (cpS dr dc) (fun s _ => cpS dr dc s)) (pBf to (10 * r + e))) (to + (10 * r + e)) (A.1 (fi + (10 * r + e))) (A.2.1 (fi + (10 * r + e))) (A.2.2.1 (fi + (10 * r + e)))) := by
      obtain ⟨a1, a2, a3⟩ := hA _ hfi.1 hfi.2
      exact ShOK_put (cpQ_ok hok.1 hok.2 hA hf.1 hf1 hf2 ht.1 ht1) a1 a2 a3
    have krw : ∀ Q, Cw X (d + 289) 162 [.ref (k + 1), .int (iI (to + (10 * r + e))), .ref j] (hp S G1) Q = Q (.inl (some (.int (iI (chg G1 (k + 1) (tkF (cpS dr dc) (fun s _ => cpS dr dc s)) (to + (10 * r + e))))))) (hp S (gW G1 (k + 1) (to + (10 * r + e)) (G1 (k + 1 + 4) (to + (10 * r + e))) (tkF (cpS dr dc) (fun s _ => cpS dr dc s)))) := fun Q => c_rewrite (X := X) (d := d + 285) (g := G1) (b := k + 1) kS hRw (by omega) hto.1 hto.2 (s1.2.2.2.1 _) (fun q q1 q2 => StC_okW s2 hBo hto q1 q2)
    have u1 := StI_gW hRw s1 s2 hBo hto
    have u2 := StC_gW (f := tkF (cpS dr dc) (fun s _ => cpS dr dc s)) s2 s1 hto
    have F2 := gW_F (g := G1) (a := k + 1) (c := to + (10 * r + e)) (n := G1 (k + 1 + 4) (to + (10 * r + e))) (f := tkF (cpS dr dc) (fun s _ => cpS dr dc s))
    obtain ⟨G2, eG2⟩ : ∃ G2, G2 = gW G1 (k + 1) (to + (10 * r + e)) (G1 (k + 1 + 4) (to + (10 * r + e))) (tkF (cpS dr dc) (fun s _ => cpS dr dc s)) := ⟨_, rfl⟩
    rw [← eG2] at krw u1 u2 F2
    have hz0 : pBf to (10 * r + e) (to + (10 * r + e)) = false := by unfold pBf; exact decide_eq_false (by omega)
    have hz1 : ∀ x, inBk to h W x → pBf to (10 * r + (e + 1)) x = (pBf to (10 * r + e) x || decide (x = to + (10 * r + e))) := fun x _ => by
      unfold pBf
      by_cases q1 : x < to + (10 * r + e)
      · rw [decide_eq_true q1, decide_eq_true (by omega), Bool.true_or]
      · rw [decide_eq_false q1, Bool.false_or]
        by_cases q2 : x = to + (10 * r + e)
        · rw [decide_eq_true q2, decide_eq_true (by omega)]
        · rw [decide_eq_false q2, decide_eq_false (by omega)]
    have u3 : StC G2 (k + 1) (cpQ A fi to h W (tkF (cpS dr dc) (fun s _ => cpS dr dc s)) (pBf to (10 * r + (e + 1)))) := by
      refine StC_E (cpQ_E hbk hz0 hz1) (StC_E (fun x x1 x2 => ?_) u2)
      unfold shP
      dsimp only
      by_cases q : x = to + (10 * r + e)
      · rw [if_pos q, if_pos q, if_pos q, if_pos q, if_pos q, if_pos q, if_pos rfl, if_pos rfl, if_pos rfl]
        exact ⟨rfl, fun _ => rfl, fun _ => rfl⟩
      · rw [if_neg q, if_neg q, if_neg q, if_neg q, if_neg q, if_neg q, if_neg q]
        exact ⟨rfl, fun _ => rfl, fun _ => rfl⟩
    obtain ⟨G', y10', j1, j2⟩ := ih (e + 1) G2 (some (.int (iI (10 * r + e)))) (by omega) (by omega) ⟨StF_trans hF (StF_trans F1 F2), u1, u3⟩
    refine ⟨G', y10', j1, fun Q => ?_⟩
    rw [← j2 Q, w_iload9 (pc' := 152) q19 d19_150 rfl]
    simp (config := { decide := true }) only [w_iload5 (pc' := 154) q19 d19_152 rfl, w_icmp_ge (tg := 210) (pc' := 157) q19 d19_154 (by decide) rfl, w_bipush (z' := (10)) (pc' := 159) q19 d19_157 rfl (by decide), w_iload8 (pc' := 161) q19 d19_159 rfl, w_imul (pc' := 162) q19 d19_161 rfl, w_iload9 (pc' := 164) q19 d19_162 rfl, w_iadd (pc' := 165) q19 d19_164 rfl, w_istore10 (pc' := 167) q19 d19_165 rfl, w_aload_n0 (pc' := 168) q19 d19_167 rfl, w_getV (pc' := 171) q19 d19_168 rfl f19_19, w_getV (pc' := 174) q19 d19_171 rfl f19_80, w_iload_n3 (pc' := 175) q19 d19_174 rfl, w_iload10 (pc' := 177) q19 d19_175 rfl, w_iadd (pc' := 178) q19 d19_177 rfl, w_aload6 (pc' := 180) q19 d19_178 rfl, w_iload_n1 (pc' := 181) q19 d19_180 rfl, w_iload10 (pc' := 183) q19 d19_181 rfl, w_iadd (pc' := 184) q19 d19_183 rfl, w_invv3 (ci := 9) (pc' := 187) q19 d19_184 rfl n19_113 k19_113_9 m150.1, w_aload_n0 (pc' := 188) q19 d19_187 rfl, w_getV (pc' := 191) q19 d19_188 rfl f19_19, w_getV (pc' := 194) q19 d19_191 rfl f19_80, w_iload_n3 (pc' := 195) q19 d19_194 rfl, w_iload10 (pc' := 197) q19 d19_195 rfl, w_iadd (pc' := 198) q19 d19_197 rfl, w_aload7 (pc' := 200) q19 d19_198 rfl, w_invv2 (ci := 9) (pc' := 203) q19 d19_200 rfl n19_117 k19_117_9 m162.1, w_pop (pc' := 204) q19 d19_203 rfl, w_iinc9 (z := (1)) (pc' := 207) q19 d19_204 rfl, w_goto (tg := 150) q19 d19_207 (by decide), gs_off, gs_off0, gs_0off, gs_2, xN_0, xN_2, xN_3, xN_6, xN_7, xN_8, xN_9, xN_10, xN_11, xN_12, xN_13, xN_14, xN_15, xN_16, xN_17, xN_18, xN_19, xN_20, xN_21, xN_22, xN_23, xN_24, xN_25, xN_26, xN_27, xN_28, xN_29, xN_30, xN_31, xN_32, xN_33, xN_34, xN_35, xN_36, xN_37, xN_38, xN_39, xN_40, xN_41, xN_42, xN_43, xN_44, xN_45, xN_46, xN_47, xN_48, xN_49, xN_50, xN_51, xN_52, xN_53, xN_54, xN_55, ti_0, ti_1, ti_2, ti_3, ti_4, ti_5, ti_6, ti_7, ti_8, ti_9, ti_10, ti_16, ti_19, ti_20, ti_29, ti_30, ti_31, ti_32, ti_35, ti_36, ti_38, ti_39, ti_40, ti_41, ti_42, ti_43, ti_44, ti_45, ti_46, ti_47, ti_48, ti_49, ti_50, ti_51, ti_52, ti_53, ti_54, ti_55, ti_56, ti_57, ti_58, ti_59, ti_60, ti_61, ti_62, ti_63, ti_64, ti_65, ti_74, ti_77, ti_126, ti_200, ti_201, ti_202, ti_203, ti_204, ti_205, ti_210, ti_255, ti_256, ti_400, ti_512, ti_600, ti_601, ti_602, ti_1000, ti_1023, ti_1024, ti_2000, ti_10000, ti_12602, ti_999999, ti_m999999, ti_m1, ti_2000000, ti_3000000, xN_1, xN_4, xN_5, xN_60, xN_61, xN_64, xN_200, xN_800, xN_12000, xN_12602, eq_self, and_self, and_true, true_and, if_true, if_false, decide_true, Nat.reduceLeDiff, xc2_int, xc2_ref, xc2_ra, xc2_null, xc2_long, xc2_none, xisaT_ref, xisaT_ra, xisaT_null, xc1T_int, xc1T_ref, xc1T_ra, xc1T_null, xsum_nil, xsum_int, xsum_ref, xsum_ra, xsum_long, xsum_double, xsum_null, xfl_nil, xfl_int, xfl_ref, xfl_ra, xfl_null, xfl_long, xfl_double, List.length_cons, List.length_nil, tW, te, hnl, c0, k0, b0, hj, htk, krw, xfk, xfv, xak, xan, xcls, xsv', List.getElem?_cons_zero, List.getElem?_cons_succ, List.getD_cons_zero, List.getD_cons_succ, Option.getD_some, Option.isSome_some, if_true, if_pos, xcont, Option.toList_none, Option.toList_some, List.nil_append, List.cons_append]
theorem l_couter {h0 : Nat} {fi la to h W dr dc : Int} {g1 : xGm} (hS : CsS S c p k t o y b m) (hj : S.1 j = .inr (3, [none, none])) (hjb : b < j) (hdr : -19 ≤ dr ∧ dr ≤ 19) (hdc : -9 ≤ dc ∧ dc ≤ 9) (hj0 : g1 j 0 = dr) (hj1 : g1 j 1 = dc) (hA : ShOK A) (hh : y < h0 ∧ h0 + 5 < b) (hO : StS S h0) (hR : StI g1 h0) (hC : StC g1 h0 A)
    (hw : 1 ≤ W ∧ W ≤ 10) (hhh : 1 ≤ h ∧ h ≤ 20) (hf : 0 ≤ fi ∧ fi < 200) (hf1 : fi % 10 + W ≤ 10) (hf2 : fi / 10 + h ≤ 20) (ht : 0 ≤ to ∧ to < 200) (ht1 : to % 10 + W ≤ 10) (ht2 : to / 10 + h ≤ 20) : ∀ (n : Nat) (r : Int) (G : xGm) (y9 y10 : Option Value), r + n = h → 0 ≤ r → CbI g1 G k A fi to h W dr dc (10 * r + 0) →
    ∃ G' y9' y10', CbI g1 G' k A fi to h W dr dc (10 * h + 0) ∧ ∀ Q, Wx X (d + 290) 19 140 [some (.ref c), some (.int (iI fi)), some (.int (iI la)), some (.int (iI to)), some (.int (iI h)), some (.int (iI W)), some (.ref h0), some (.ref j), some (.int (iI r)), y9, y10] [] (hp S G) Q = Wx X (d + 290) 19 216 [some (.ref c), some (.int (iI fi)), some (.int (iI la)), some (.int (iI to)), some (.int (iI h)), some (.int (iI W)), some (.ref h0), some (.ref j), some (.int (iI h)), y9', y10'] [] (hp S G') Q := by
  have th : ti h = h := ti_eq (by omega) (by omega)
  intro n
  induction n with
  | zero =>
    intro r G y9 y10 hn hr hI
    have ee : r = h := by omega
    subst ee
    refine ⟨G, y9, y10, hI, fun Q => ?_⟩
    rw [w_iload8 (pc' := 142) q19 d19_140 rfl]
    simp (config := { decide := true }) only [w_iload4 (pc' := 144) q19 d19_142 rfl, w_icmp_ge (tg := 216) (pc' := 147) q19 d19_144 (by decide) rfl, gs_off, gs_off0, gs_0off, gs_2, xN_0, xN_2, xN_3, xN_6, xN_7, xN_8, xN_9, xN_10, xN_11, xN_12, xN_13, xN_14, xN_15, xN_16, xN_17, xN_18, xN_19, xN_20, xN_21, xN_22, xN_23, xN_24, xN_25, xN_26, xN_27, xN_28, xN_29, xN_30, xN_31, xN_32, xN_33, xN_34, xN_35, xN_36, xN_37, xN_38, xN_39, xN_40, xN_41, xN_42, xN_43, xN_44, xN_45, xN_46, xN_47, xN_48, xN_49, xN_50, xN_51, xN_52, xN_53, xN_54, xN_55, ti_0, ti_1, ti_2, ti_3, ti_4, ti_5, ti_6, ti_7, ti_8, ti_9, ti_10, ti_16, ti_19, ti_20, ti_29, ti_30, ti_31, ti_32, ti_35, ti_36, ti_38, ti_39, ti_40, ti_41, ti_42, ti_43, ti_44, ti_45, ti_46, ti_47, ti_48, ti_49, ti_50, ti_51, ti_52, ti_53, ti_54, ti_55, ti_56, ti_57, ti_58, ti_59, ti_60, ti_61, ti_62, ti_63, ti_64, ti_65, ti_74, ti_77, ti_126, ti_200, ti_201, ti_202, ti_203, ti_204, ti_205, ti_210, ti_255, ti_256, ti_400, ti_512, ti_600, ti_601, ti_602, ti_1000, ti_1023, ti_1024, ti_2000, ti_10000, ti_12602, ti_999999, ti_m999999, ti_m1, ti_2000000, ti_3000000, xN_1, xN_4, xN_5, xN_60, xN_61, xN_64, xN_200, xN_800, xN_12000, xN_12602, eq_self, and_self, and_true, true_and, if_true, if_false, decide_true, Nat.reduceLeDiff, xc2_int, xc2_ref, xc2_ra, xc2_null, xc2_long, xc2_none, xisaT_ref, xisaT_ra, xisaT_null, xc1T_int, xc1T_ref, xc1T_ra, xc1T_null, xsum_nil, xsum_int, xsum_ref, xsum_ra, xsum_long, xsum_double, xsum_null, xfl_nil, xfl_int, xfl_ref, xfl_ra, xfl_null, xfl_long, xfl_double, List.length_cons, List.length_nil, th, Int.le_refl, xfk, xfv, xak, xan, xcls, xsv', List.getElem?_cons_zero, List.getElem?_cons_succ, List.getD_cons_zero, List.getD_cons_succ, Option.getD_some, Option.isSome_some, if_true, if_pos, xcont, Option.toList_none, Option.toList_some, List.nil_append, List.cons_append]
  | succ n ih =>
    intro r G y9 y10 hn hr hI
    have hr2 : r < h := by omega
    have hnl : ¬ h ≤ r := by omega
    have tr : ti r = r := ti_eq (by omega) (by omega)
    obtain ⟨G1, y10', ⟨i1, i2, i3⟩, j2⟩ := l_cinner (X := X) (d := d) (la := la) hS hj hjb hdr hdc hj0 hj1 hA hh hO hR hC hw hhh hf hf1 hf2 ht ht1 ht2 hr hr2 W.toNat 0 G y10 (by omega) (Int.le_refl _) hI
    have i3' : StC G1 (k + 1) (cpQ A fi to h W (tkF (cpS dr dc) (fun s _ => cpS dr dc s)) (pBf to (10 * (r + 1) + 0))) := by
      rw [← cpQ_congr (fun x hx => bk_row ht.1 ht1 hw.1 hr hx)]
      exact i3
    obtain ⟨G', y9', y10'', k1, k2⟩ := ih (r + 1) G1 (some (.int (iI W))) y10' (by omega) (by omega) ⟨i1, i2, i3'⟩
    refine ⟨G', y9', y10'', k1, fun Q => ?_⟩
    rw [← k2 Q, w_iload8 (pc' := 142) q19 d19_140 rfl]
    simp (config := { decide := true }) only [w_iload4 (pc' := 144) q19 d19_142 rfl, w_icmp_ge (tg := 216) (pc' := 147) q19 d19_144 (by decide) rfl, w_iconst (pc' := 148) q19 d19_147 rfl, w_istore9 (pc' := 150) q19 d19_148 rfl, gs_off, gs_off0, gs_0off, gs_2, xN_0, xN_2, xN_3, xN_6, xN_7, xN_8, xN_9, xN_10, xN_11, xN_12, xN_13, xN_14, xN_15, xN_16, xN_17, xN_18, xN_19, xN_20, xN_21, xN_22, xN_23, xN_24, xN_25, xN_26, xN_27, xN_28, xN_29, xN_30, xN_31, xN_32, xN_33, xN_34, xN_35, xN_36, xN_37, xN_38, xN_39, xN_40, xN_41, xN_42, xN_43, xN_44, xN_45, xN_46, xN_47, xN_48, xN_49, xN_50, xN_51, xN_52, xN_53, xN_54, xN_55, ti_0, ti_1, ti_2, ti_3, ti_4, ti_5, ti_6, ti_7, ti_8, ti_9, ti_10, ti_16, ti_19, ti_20, ti_29, ti_30, ti_31, ti_32, ti_35, ti_36, ti_38, ti_39, ti_40, ti_41, ti_42, ti_43, ti_44, ti_45, ti_46, ti_47, ti_48, ti_49, ti_50, ti_51, ti_52, ti_53, ti_54, ti_55, ti_56, ti_57, ti_58, ti_59, ti_60, ti_61, ti_62, ti_63, ti_64, ti_65, ti_74, ti_77, ti_126, ti_200, ti_201, ti_202, ti_203, ti_204, ti_205, ti_210, ti_255, ti_256, ti_400, ti_512, ti_600, ti_601, ti_602, ti_1000, ti_1023, ti_1024, ti_2000, ti_10000, ti_12602, ti_999999, ti_m999999, ti_m1, ti_2000000, ti_3000000, xN_1, xN_4, xN_5, xN_60, xN_61, xN_64, xN_200, xN_800, xN_12000, xN_12602, eq_self, and_self, and_true, true_and, if_true, if_false, decide_true, Nat.reduceLeDiff, xc2_int, xc2_ref, xc2_ra, xc2_null, xc2_long, xc2_none, xisaT_ref, xisaT_ra, xisaT_null, xc1T_int, xc1T_ref, xc1T_ra, xc1T_null, xsum_nil, xsum_int, xsum_ref, xsum_ra, xsum_long, xsum_double, xsum_null, xfl_nil, xfl_int, xfl_ref, xfl_ra, xfl_null, xfl_long, xfl_double, List.length_cons, List.length_nil, th, tr, hnl, xfk, xfv, xak, xan, xcls, xsv', List.getElem?_cons_zero, List.getElem?_cons_succ, List.getD_cons_zero, List.getD_cons_succ, Option.getD_some, Option.isSome_some, if_true, if_pos, xcont, Option.toList_none, Option.toList_some, List.nil_append, List.cons_append]
    rw [j2 Q]
    simp (config := { decide := true }) only [w_iinc8 (z := (1)) (pc' := 213) q19 d19_210 rfl, w_goto (tg := 140) q19 d19_213 (by decide), gs_off, gs_off0, gs_0off, gs_2, xN_0, xN_2, xN_3, xN_6, xN_7, xN_8, xN_9, xN_10, xN_11, xN_12, xN_13, xN_14, xN_15, xN_16, xN_17, xN_18, xN_19, xN_20, xN_21, xN_22, xN_23, xN_24, xN_25, xN_26, xN_27, xN_28, xN_29, xN_30, xN_31, xN_32, xN_33, xN_34, xN_35, xN_36, xN_37, xN_38, xN_39, xN_40, xN_41, xN_42, xN_43, xN_44, xN_45, xN_46, xN_47, xN_48, xN_49, xN_50, xN_51, xN_52, xN_53, xN_54, xN_55, ti_0, ti_1, ti_2, ti_3, ti_4, ti_5, ti_6, ti_7, ti_8, ti_9, ti_10, ti_16, ti_19, ti_20, ti_29, ti_30, ti_31, ti_32, ti_35, ti_36, ti_38, ti_39, ti_40, ti_41, ti_42, ti_43, ti_44, ti_45, ti_46, ti_47, ti_48, ti_49, ti_50, ti_51, ti_52, ti_53, ti_54, ti_55, ti_56, ti_57, ti_58, ti_59, ti_60, ti_61, ti_62, ti_63, ti_64, ti_65, ti_74, ti_77, ti_126, ti_200, ti_201, ti_202, ti_203, ti_204, ti_205, ti_210, ti_255, ti_256, ti_400, ti_512, ti_600, ti_601, ti_602, ti_1000, ti_1023, ti_1024, ti_2000, ti_10000, ti_12602, ti_999999, ti_m999999, ti_m1, ti_2000000, ti_3000000, xN_1, xN_4, xN_5, xN_60, xN_61, xN_64, xN_200, xN_800, xN_12000, xN_12602, eq_self, and_self, and_true, true_and, if_true, if_false, decide_true, Nat.reduceLeDiff, xc2_int, xc2_ref, xc2_ra, xc2_null, xc2_long, xc2_none, xisaT_ref, xisaT_ra, xisaT_null, xc1T_int, xc1T_ref, xc1T_ra, xc1T_null, xsum_nil, xsum_int, xsum_ref, xsum_ra, xsum_long, xsum_double, xsum_null, xfl_nil, xfl_int, xfl_ref, xfl_ra, xfl_null, xfl_long, xfl_double, List.length_cons, List.length_nil, th, xfk, xfv, xak, xan, xcls, xsv', List.getElem?_cons_zero, List.getElem?_cons_succ, List.getD_cons_zero, List.getD_cons_succ, Option.getD_some, Option.isSome_some, if_true, if_pos, xcont, Option.toList_none, Option.toList_some, List.nil_append, List.cons_append]
theorem q_copyBlock {fi la to : Int} (hS : CsS S c p k t o y b m) (hm : m ≤ S.2.1) (hI : CdI g c p k t o y P A sn H) (tf : ti fi = fi) (tl : ti la = la) (tt : ti to = to) :
    (¬ (isB fi ∧ isB la ∧ isB to) → CRs X S g c p k t o y b m 19 (d + 300) [.ref c, .int (iI fi), .int (iI la), .int (iI to)] (.inr 0) P A sn H) ∧
    (isB fi ∧ isB la ∧ isB to → (la / 10 < fi / 10 ∨ la % 10 < fi % 10) → CRs X S g c p k t o y b m 19 (d + 300) [.ref c, .int (iI fi), .int (iI la), .int (iI to)] (.inr 0) P A sn H) ∧
    (isB fi ∧ isB la ∧ isB to → ¬ (la / 10 < fi / 10 ∨ la % 10 < fi % 10) → ¬ (to / 10 + (la / 10 - fi / 10) < 20 ∧ to % 10 + (la % 10 - fi % 10) < 10) → CRs X S g c p k t o y b m 19 (d + 300) [.ref c, .int (iI fi), .int (iI la), .int (iI to)] (.inr 1) P A sn H) ∧
    (isB fi ∧ isB la ∧ isB to → ¬ (la / 10 < fi / 10 ∨ la % 10 < fi % 10) → (to / 10 + (la / 10 - fi / 10) < 20 ∧ to % 10 + (la % 10 - fi % 10) < 10) → CRs X S g c p k t o y b m 19 (d + 300) [.ref c, .int (iI fi), .int (iI la), .int (iI to)] (.inl (some (.int (iI ((la / 10 - fi / 10 + 1) * (la % 10 - fi % 10 + 1)))))) P (cbkS A fi to (la / 10 - fi / 10 + 1) (la % 10 - fi % 10 + 1)) sn (recH A H)) := by
  have hS' := hS
  obtain ⟨c0, ⟨hp0, hk0, ht0, ho0, hy0⟩, hL⟩ := hS
  obtain ⟨k0, kS, kL⟩ := id hk0
  have b0 := kS.1
  have y0 := hy0.1
  have hrf := c_requireCell (X := X) (S := S) (g := g) (d := d + 298) tf
  have hrl := c_requireCell (X := X) (S := S) (g := g) (d := d + 298) tl
  have hrt := c_requireCell (X := X) (S := S) (g := g) (d := d + 298) tt
  have h19 : xMh 19 = [] := by decide +kernel
  have dv : ∀ z, isB z → xdiv z 10 = z / 10 ∧ xrem z 10 = z % 10 := fun z hz => div10 hz.1 (by have := hz.2; omega)
  have t20 : ti 20 = 20 := by decide
  have n10 : ¬ (10 : Int) = 0 := by decide
  have rng : ∀ z : Int, -1000 ≤ z → z ≤ 1000 → ti z = z := fun z z1 z2 => ti_eq (by omega) (by omega)
  refine ⟨fun h => CR_x hI fun Q => ?_, fun ⟨hf, hl, ht⟩ hw => CR_x hI fun Q => ?_, fun ⟨hf, hl, ht⟩ hw hv => CR_x hI fun Q => ?_, fun ⟨hf, hl, ht⟩ hw hv => ?_⟩
  · rw [e19]
    by_cases h1 : isB fi
    · have r1 := hrf.1 h1
      by_cases h2 : isB la
      · have r2 := hrl.1 h2
        have r3 := hrt.2 (fun e => h ⟨h1, h2, e⟩)
        simp (config := { decide := true }) only [w_iload_n1 (pc' := 1) q19 d19_0 rfl, w_invs1 (pc' := 4) q19 d19_1 rfl (by decide +kernel) k19_74_99 m15.1, w_iload_n2 (pc' := 5) q19 d19_4 rfl, w_invs1 (pc' := 8) q19 d19_5 rfl (by decide +kernel) k19_74_99 m15.1, w_iload_n3 (pc' := 9) q19 d19_8 rfl, w_invs1 (pc' := 12) q19 d19_9 rfl (by decide +kernel) k19_74_99 m15.1, gs_off, gs_off0, gs_0off, gs_2, xN_0, xN_2, xN_3, xN_6, xN_7, xN_8, xN_9, xN_10, xN_11, xN_12, xN_13, xN_14, xN_15, xN_16, xN_17, xN_18, xN_19, xN_20, xN_21, xN_22, xN_23, xN_24, xN_25, xN_26, xN_27, xN_28, xN_29, xN_30, xN_31, xN_32, xN_33, xN_34, xN_35, xN_36, xN_37, xN_38, xN_39, xN_40, xN_41, xN_42, xN_43, xN_44, xN_45, xN_46, xN_47, xN_48, xN_49, xN_50, xN_51, xN_52, xN_53, xN_54, xN_55, ti_0, ti_1, ti_2, ti_3, ti_4, ti_5, ti_6, ti_7, ti_8, ti_9, ti_10, ti_16, ti_19, ti_20, ti_29, ti_30, ti_31, ti_32, ti_35, ti_36, ti_38, ti_39, ti_40, ti_41, ti_42, ti_43, ti_44, ti_45, ti_46, ti_47, ti_48, ti_49, ti_50, ti_51, ti_52, ti_53, ti_54, ti_55, ti_56, ti_57, ti_58, ti_59, ti_60, ti_61, ti_62, ti_63, ti_64, ti_65, ti_74, ti_77, ti_126, ti_200, ti_201, ti_202, ti_203, ti_204, ti_205, ti_210, ti_255, ti_256, ti_400, ti_512, ti_600, ti_601, ti_602, ti_1000, ti_1023, ti_1024, ti_2000, ti_10000, ti_12602, ti_999999, ti_m999999, ti_m1, ti_2000000, ti_3000000, xN_1, xN_4, xN_5, xN_60, xN_61, xN_64, xN_200, xN_800, xN_12000, xN_12602, eq_self, and_self, and_true, true_and, if_true, if_false, decide_true, Nat.reduceLeDiff, xc2_int, xc2_ref, xc2_ra, xc2_null, xc2_long, xc2_none, xisaT_ref, xisaT_ra, xisaT_null, xc1T_int, xc1T_ref, xc1T_ra, xc1T_null, xsum_nil, xsum_int, xsum_ref, xsum_ra, xsum_long, xsum_double, xsum_null, xfl_nil, xfl_int, xfl_ref, xfl_ra, xfl_null, xfl_long, xfl_double, List.length_cons, List.length_nil, r1, r2, r3, xth_n h19, xfk, xfv, xak, xan, xcls, xsv', List.getElem?_cons_zero, List.getElem?_cons_succ, List.getD_cons_zero, List.getD_cons_succ, Option.getD_some, Option.isSome_some, if_true, if_pos, xcont, Option.toList_none, Option.toList_some, List.nil_append, List.cons_append]
      · have r2 := hrl.2 h2
        simp (config := { decide := true }) only [w_iload_n1 (pc' := 1) q19 d19_0 rfl, w_invs1 (pc' := 4) q19 d19_1 rfl (by decide +kernel) k19_74_99 m15.1, w_iload_n2 (pc' := 5) q19 d19_4 rfl, w_invs1 (pc' := 8) q19 d19_5 rfl (by decide +kernel) k19_74_99 m15.1, gs_off, gs_off0, gs_0off, gs_2, xN_0, xN_2, xN_3, xN_6, xN_7, xN_8, xN_9, xN_10, xN_11, xN_12, xN_13, xN_14, xN_15, xN_16, xN_17, xN_18, xN_19, xN_20, xN_21, xN_22, xN_23, xN_24, xN_25, xN_26, xN_27, xN_28, xN_29, xN_30, xN_31, xN_32, xN_33, xN_34, xN_35, xN_36, xN_37, xN_38, xN_39, xN_40, xN_41, xN_42, xN_43, xN_44, xN_45, xN_46, xN_47, xN_48, xN_49, xN_50, xN_51, xN_52, xN_53, xN_54, xN_55, ti_0, ti_1, ti_2, ti_3, ti_4, ti_5, ti_6, ti_7, ti_8, ti_9, ti_10, ti_16, ti_19, ti_20, ti_29, ti_30, ti_31, ti_32, ti_35, ti_36, ti_38, ti_39, ti_40, ti_41, ti_42, ti_43, ti_44, ti_45, ti_46, ti_47, ti_48, ti_49, ti_50, ti_51, ti_52, ti_53, ti_54, ti_55, ti_56, ti_57, ti_58, ti_59, ti_60, ti_61, ti_62, ti_63, ti_64, ti_65, ti_74, ti_77, ti_126, ti_200, ti_201, ti_202, ti_203, ti_204, ti_205, ti_210, ti_255, ti_256, ti_400, ti_512, ti_600, ti_601, ti_602, ti_1000, ti_1023, ti_1024, ti_2000, ti_10000, ti_12602, ti_999999, ti_m999999, ti_m1, ti_2000000, ti_3000000, xN_1, xN_4, xN_5, xN_60, xN_61, xN_64, xN_200, xN_800, xN_12000, xN_12602, eq_self, and_self, and_true, true_and, if_true, if_false, decide_true, Nat.reduceLeDiff, xc2_int, xc2_ref, xc2_ra, xc2_null, xc2_long, xc2_none, xisaT_ref, xisaT_ra, xisaT_null, xc1T_int, xc1T_ref, xc1T_ra, xc1T_null, xsum_nil, xsum_int, xsum_ref, xsum_ra, xsum_long, xsum_double, xsum_null, xfl_nil, xfl_int, xfl_ref, xfl_ra, xfl_null, xfl_long, xfl_double, List.length_cons, List.length_nil, r1, r2, xth_n h19, xfk, xfv, xak, xan, xcls, xsv', List.getElem?_cons_zero, List.getElem?_cons_succ, List.getD_cons_zero, List.getD_cons_succ, Option.getD_some, Option.isSome_some, if_true, if_pos, xcont, Option.toList_none, Option.toList_some, List.nil_append, List.cons_append]
    · have r1 := hrf.2 h1
      simp (config := { decide := true }) only [w_iload_n1 (pc' := 1) q19 d19_0 rfl, w_invs1 (pc' := 4) q19 d19_1 rfl (by decide +kernel) k19_74_99 m15.1, gs_off, gs_off0, gs_0off, gs_2, xN_0, xN_2, xN_3, xN_6, xN_7, xN_8, xN_9, xN_10, xN_11, xN_12, xN_13, xN_14, xN_15, xN_16, xN_17, xN_18, xN_19, xN_20, xN_21, xN_22, xN_23, xN_24, xN_25, xN_26, xN_27, xN_28, xN_29, xN_30, xN_31, xN_32, xN_33, xN_34, xN_35, xN_36, xN_37, xN_38, xN_39, xN_40, xN_41, xN_42, xN_43, xN_44, xN_45, xN_46, xN_47, xN_48, xN_49, xN_50, xN_51, xN_52, xN_53, xN_54, xN_55, ti_0, ti_1, ti_2, ti_3, ti_4, ti_5, ti_6, ti_7, ti_8, ti_9, ti_10, ti_16, ti_19, ti_20, ti_29, ti_30, ti_31, ti_32, ti_35, ti_36, ti_38, ti_39, ti_40, ti_41, ti_42, ti_43, ti_44, ti_45, ti_46, ti_47, ti_48, ti_49, ti_50, ti_51, ti_52, ti_53, ti_54, ti_55, ti_56, ti_57, ti_58, ti_59, ti_60, ti_61, ti_62, ti_63, ti_64, ti_65, ti_74, ti_77, ti_126, ti_200, ti_201, ti_202, ti_203, ti_204, ti_205, ti_210, ti_255, ti_256, ti_400, ti_512, ti_600, ti_601, ti_602, ti_1000, ti_1023, ti_1024, ti_2000, ti_10000, ti_12602, ti_999999, ti_m999999, ti_m1, ti_2000000, ti_3000000, xN_1, xN_4, xN_5, xN_60, xN_61, xN_64, xN_200, xN_800, xN_12000, xN_12602, eq_self, and_self, and_true, true_and, if_true, if_false, decide_true, Nat.reduceLeDiff, xc2_int, xc2_ref, xc2_ra, xc2_null, xc2_long, xc2_none, xisaT_ref, xisaT_ra, xisaT_null, xc1T_int, xc1T_ref, xc1T_ra, xc1T_null, xsum_nil, xsum_int, xsum_ref, xsum_ra, xsum_long, xsum_double, xsum_null, xfl_nil, xfl_int, xfl_ref, xfl_ra, xfl_null, xfl_long, xfl_double, List.length_cons, List.length_nil, r1, xth_n h19, xfk, xfv, xak, xan, xcls, xsv', List.getElem?_cons_zero, List.getElem?_cons_succ, List.getD_cons_zero, List.getD_cons_succ, Option.getD_some, Option.isSome_some, if_true, if_pos, xcont, Option.toList_none, Option.toList_some, List.nil_append, List.cons_append]
  · have r1 := hrf.1 hf
    have r2 := hrl.1 hl
    have r3 := hrt.1 ht
    obtain ⟨f1, f2⟩ := dv fi hf
    obtain ⟨l1, l2⟩ := dv la hl
    obtain ⟨hf1, hf2⟩ := id hf
    obtain ⟨hl1, hl2⟩ := id hl
    have th := rng (la / 10 - fi / 10 + 1) (by omega) (by omega)
    have tw := rng (la % 10 - fi % 10 + 1) (by omega) (by omega)
    rw [e19]
    by_cases a1 : la / 10 - fi / 10 + 1 < 1
    · simp (config := { decide := true }) only [w_iload_n1 (pc' := 1) q19 d19_0 rfl, w_invs1 (pc' := 4) q19 d19_1 rfl (by decide +kernel) k19_74_99 m15.1, w_iload_n2 (pc' := 5) q19 d19_4 rfl, w_invs1 (pc' := 8) q19 d19_5 rfl (by decide +kernel) k19_74_99 m15.1, w_iload_n3 (pc' := 9) q19 d19_8 rfl, w_invs1 (pc' := 12) q19 d19_9 rfl (by decide +kernel) k19_74_99 m15.1, w_iload_n2 (pc' := 13) q19 d19_12 rfl, w_bipush (z' := (10)) (pc' := 15) q19 d19_13 rfl (by decide), w_idiv (pc' := 16) q19 d19_15 rfl, w_iload_n1 (pc' := 17) q19 d19_16 rfl, w_bipush (z' := (10)) (pc' := 19) q19 d19_17 rfl (by decide), w_idiv (pc' := 20) q19 d19_19 rfl, w_isub (pc' := 21) q19 d19_20 rfl, w_iconst (pc' := 22) q19 d19_21 rfl, w_iadd (pc' := 23) q19 d19_22 rfl, w_istore4 (pc' := 25) q19 d19_23 rfl, w_iload_n2 (pc' := 26) q19 d19_25 rfl, w_bipush (z' := (10)) (pc' := 28) q19 d19_26 rfl (by decide), w_irem (pc' := 29) q19 d19_28 rfl, w_iload_n1 (pc' := 30) q19 d19_29 rfl, w_bipush (z' := (10)) (pc' := 32) q19 d19_30 rfl (by decide), w_irem (pc' := 33) q19 d19_32 rfl, w_isub (pc' := 34) q19 d19_33 rfl, w_iconst (pc' := 35) q19 d19_34 rfl, w_iadd (pc' := 36) q19 d19_35 rfl, w_istore5 (pc' := 38) q19 d19_36 rfl, w_iload4 (pc' := 40) q19 d19_38 rfl, w_iconst (pc' := 41) q19 d19_40 rfl, w_icmp_lt (tg := 50) (pc' := 44) q19 d19_41 (by decide) rfl, w_iload5 (pc' := 46) q19 d19_44 rfl, w_iconst (pc' := 47) q19 d19_46 rfl, w_icmp_ge (tg := 60) (pc' := 50) q19 d19_47 (by decide) rfl, w_throw (ee := 0) q19 d19_50 (by decide +kernel), gs_off, gs_off0, gs_0off, gs_2, xN_0, xN_2, xN_3, xN_6, xN_7, xN_8, xN_9, xN_10, xN_11, xN_12, xN_13, xN_14, xN_15, xN_16, xN_17, xN_18, xN_19, xN_20, xN_21, xN_22, xN_23, xN_24, xN_25, xN_26, xN_27, xN_28, xN_29, xN_30, xN_31, xN_32, xN_33, xN_34, xN_35, xN_36, xN_37, xN_38, xN_39, xN_40, xN_41, xN_42, xN_43, xN_44, xN_45, xN_46, xN_47, xN_48, xN_49, xN_50, xN_51, xN_52, xN_53, xN_54, xN_55, ti_0, ti_1, ti_2, ti_3, ti_4, ti_5, ti_6, ti_7, ti_8, ti_9, ti_10, ti_16, ti_19, ti_20, ti_29, ti_30, ti_31, ti_32, ti_35, ti_36, ti_38, ti_39, ti_40, ti_41, ti_42, ti_43, ti_44, ti_45, ti_46, ti_47, ti_48, ti_49, ti_50, ti_51, ti_52, ti_53, ti_54, ti_55, ti_56, ti_57, ti_58, ti_59, ti_60, ti_61, ti_62, ti_63, ti_64, ti_65, ti_74, ti_77, ti_126, ti_200, ti_201, ti_202, ti_203, ti_204, ti_205, ti_210, ti_255, ti_256, ti_400, ti_512, ti_600, ti_601, ti_602, ti_1000, ti_1023, ti_1024, ti_2000, ti_10000, ti_12602, ti_999999, ti_m999999, ti_m1, ti_2000000, ti_3000000, xN_1, xN_4, xN_5, xN_60, xN_61, xN_64, xN_200, xN_800, xN_12000, xN_12602, eq_self, and_self, and_true, true_and, if_true, if_false, decide_true, Nat.reduceLeDiff, xc2_int, xc2_ref, xc2_ra, xc2_null, xc2_long, xc2_none, xisaT_ref, xisaT_ra, xisaT_null, xc1T_int, xc1T_ref, xc1T_ra, xc1T_null, xsum_nil, xsum_int, xsum_ref, xsum_ra, xsum_long, xsum_double, xsum_null, xfl_nil, xfl_int, xfl_ref, xfl_ra, xfl_null, xfl_long, xfl_double, List.length_cons, List.length_nil, r1, r2, r3, f1, f2, l1, l2, th, tw, n10, a1, xfk, xfv, xak, xan, xcls, xsv', List.getElem?_cons_zero, List.getElem?_cons_succ, List.getD_cons_zero, List.getD_cons_succ, Option.getD_some, Option.isSome_some, if_true, if_pos, xcont, Option.toList_none, Option.toList_some, List.nil_append, List.cons_append]
    · have a2 : ¬ 1 ≤ la % 10 - fi % 10 + 1 := by omega
      simp (config := { decide := true }) only [w_iload_n1 (pc' := 1) q19 d19_0 rfl, w_invs1 (pc' := 4) q19 d19_1 rfl (by decide +kernel) k19_74_99 m15.1, w_iload_n2 (pc' := 5) q19 d19_4 rfl, w_invs1 (pc' := 8) q19 d19_5 rfl (by decide +kernel) k19_74_99 m15.1, w_iload_n3 (pc' := 9) q19 d19_8 rfl, w_invs1 (pc' := 12) q19 d19_9 rfl (by decide +kernel) k19_74_99 m15.1, w_iload_n2 (pc' := 13) q19 d19_12 rfl, w_bipush (z' := (10)) (pc' := 15) q19 d19_13 rfl (by decide), w_idiv (pc' := 16) q19 d19_15 rfl, w_iload_n1 (pc' := 17) q19 d19_16 rfl, w_bipush (z' := (10)) (pc' := 19) q19 d19_17 rfl (by decide), w_idiv (pc' := 20) q19 d19_19 rfl, w_isub (pc' := 21) q19 d19_20 rfl, w_iconst (pc' := 22) q19 d19_21 rfl, w_iadd (pc' := 23) q19 d19_22 rfl, w_istore4 (pc' := 25) q19 d19_23 rfl, w_iload_n2 (pc' := 26) q19 d19_25 rfl, w_bipush (z' := (10)) (pc' := 28) q19 d19_26 rfl (by decide), w_irem (pc' := 29) q19 d19_28 rfl, w_iload_n1 (pc' := 30) q19 d19_29 rfl, w_bipush (z' := (10)) (pc' := 32) q19 d19_30 rfl (by decide), w_irem (pc' := 33) q19 d19_32 rfl, w_isub (pc' := 34) q19 d19_33 rfl, w_iconst (pc' := 35) q19 d19_34 rfl, w_iadd (pc' := 36) q19 d19_35 rfl, w_istore5 (pc' := 38) q19 d19_36 rfl, w_iload4 (pc' := 40) q19 d19_38 rfl, w_iconst (pc' := 41) q19 d19_40 rfl, w_icmp_lt (tg := 50) (pc' := 44) q19 d19_41 (by decide) rfl, w_iload5 (pc' := 46) q19 d19_44 rfl, w_iconst (pc' := 47) q19 d19_46 rfl, w_icmp_ge (tg := 60) (pc' := 50) q19 d19_47 (by decide) rfl, w_throw (ee := 0) q19 d19_50 (by decide +kernel), gs_off, gs_off0, gs_0off, gs_2, xN_0, xN_2, xN_3, xN_6, xN_7, xN_8, xN_9, xN_10, xN_11, xN_12, xN_13, xN_14, xN_15, xN_16, xN_17, xN_18, xN_19, xN_20, xN_21, xN_22, xN_23, xN_24, xN_25, xN_26, xN_27, xN_28, xN_29, xN_30, xN_31, xN_32, xN_33, xN_34, xN_35, xN_36, xN_37, xN_38, xN_39, xN_40, xN_41, xN_42, xN_43, xN_44, xN_45, xN_46, xN_47, xN_48, xN_49, xN_50, xN_51, xN_52, xN_53, xN_54, xN_55, ti_0, ti_1, ti_2, ti_3, ti_4, ti_5, ti_6, ti_7, ti_8, ti_9, ti_10, ti_16, ti_19, ti_20, ti_29, ti_30, ti_31, ti_32, ti_35, ti_36, ti_38, ti_39, ti_40, ti_41, ti_42, ti_43, ti_44, ti_45, ti_46, ti_47, ti_48, ti_49, ti_50, ti_51, ti_52, ti_53, ti_54, ti_55, ti_56, ti_57, ti_58, ti_59, ti_60, ti_61, ti_62, ti_63, ti_64, ti_65, ti_74, ti_77, ti_126, ti_200, ti_201, ti_202, ti_203, ti_204, ti_205, ti_210, ti_255, ti_256, ti_400, ti_512, ti_600, ti_601, ti_602, ti_1000, ti_1023, ti_1024, ti_2000, ti_10000, ti_12602, ti_999999, ti_m999999, ti_m1, ti_2000000, ti_3000000, xN_1, xN_4, xN_5, xN_60, xN_61, xN_64, xN_200, xN_800, xN_12000, xN_12602, eq_self, and_self, and_true, true_and, if_true, if_false, decide_true, Nat.reduceLeDiff, xc2_int, xc2_ref, xc2_ra, xc2_null, xc2_long, xc2_none, xisaT_ref, xisaT_ra, xisaT_null, xc1T_int, xc1T_ref, xc1T_ra, xc1T_null, xsum_nil, xsum_int, xsum_ref, xsum_ra, xsum_long, xsum_double, xsum_null, xfl_nil, xfl_int, xfl_ref, xfl_ra, xfl_null, xfl_long, xfl_double, List.length_cons, List.length_nil, r1, r2, r3, f1, f2, l1, l2, th, tw, n10, a1, a2, xfk, xfv, xak, xan, xcls, xsv', List.getElem?_cons_zero, List.getElem?_cons_succ, List.getD_cons_zero, List.getD_cons_succ, Option.getD_some, Option.isSome_some, if_true, if_pos, xcont, Option.toList_none, Option.toList_some, List.nil_append, List.cons_append]
  · have r1 := hrf.1 hf
    have r2 := hrl.1 hl
    have r3 := hrt.1 ht
    obtain ⟨f1, f2⟩ := dv fi hf
    obtain ⟨l1, l2⟩ := dv la hl
    obtain ⟨o1, o2⟩ := dv to ht
    obtain ⟨hf1, hf2⟩ := id hf
    obtain ⟨hl1, hl2⟩ := id hl
    obtain ⟨ht1, ht2⟩ := id ht
    have th := rng (la / 10 - fi / 10 + 1) (by omega) (by omega)
    have tw := rng (la % 10 - fi % 10 + 1) (by omega) (by omega)
    have a1 : ¬ la / 10 - fi / 10 + 1 < 1 := by omega
    have a2 : 1 ≤ la % 10 - fi % 10 + 1 := by omega
    have th2 := rng (to / 10 + (la / 10 - fi / 10 + 1)) (by omega) (by omega)
    have tw2 := rng (to % 10 + (la % 10 - fi % 10 + 1)) (by omega) (by omega)
    rw [e19]
    by_cases b1 : 20 < to / 10 + (la / 10 - fi / 10 + 1)
    · simp (config := { decide := true }) only [w_iload_n1 (pc' := 1) q19 d19_0 rfl, w_invs1 (pc' := 4) q19 d19_1 rfl (by decide +kernel) k19_74_99 m15.1, w_iload_n2 (pc' := 5) q19 d19_4 rfl, w_invs1 (pc' := 8) q19 d19_5 rfl (by decide +kernel) k19_74_99 m15.1, w_iload_n3 (pc' := 9) q19 d19_8 rfl, w_invs1 (pc' := 12) q19 d19_9 rfl (by decide +kernel) k19_74_99 m15.1, w_iload_n2 (pc' := 13) q19 d19_12 rfl, w_bipush (z' := (10)) (pc' := 15) q19 d19_13 rfl (by decide), w_idiv (pc' := 16) q19 d19_15 rfl, w_iload_n1 (pc' := 17) q19 d19_16 rfl, w_bipush (z' := (10)) (pc' := 19) q19 d19_17 rfl (by decide), w_idiv (pc' := 20) q19 d19_19 rfl, w_isub (pc' := 21) q19 d19_20 rfl, w_iconst (pc' := 22) q19 d19_21 rfl, w_iadd (pc' := 23) q19 d19_22 rfl, w_istore4 (pc' := 25) q19 d19_23 rfl, w_iload_n2 (pc' := 26) q19 d19_25 rfl, w_bipush (z' := (10)) (pc' := 28) q19 d19_26 rfl (by decide), w_irem (pc' := 29) q19 d19_28 rfl, w_iload_n1 (pc' := 30) q19 d19_29 rfl, w_bipush (z' := (10)) (pc' := 32) q19 d19_30 rfl (by decide), w_irem (pc' := 33) q19 d19_32 rfl, w_isub (pc' := 34) q19 d19_33 rfl, w_iconst (pc' := 35) q19 d19_34 rfl, w_iadd (pc' := 36) q19 d19_35 rfl, w_istore5 (pc' := 38) q19 d19_36 rfl, w_iload4 (pc' := 40) q19 d19_38 rfl, w_iconst (pc' := 41) q19 d19_40 rfl, w_icmp_lt (tg := 50) (pc' := 44) q19 d19_41 (by decide) rfl, w_iload5 (pc' := 46) q19 d19_44 rfl, w_iconst (pc' := 47) q19 d19_46 rfl, w_icmp_ge (tg := 60) (pc' := 50) q19 d19_47 (by decide) rfl, w_iload_n3 (pc' := 61) q19 d19_60 rfl, w_bipush (z' := (10)) (pc' := 63) q19 d19_61 rfl (by decide), w_idiv (pc' := 64) q19 d19_63 rfl, w_iload4 (pc' := 66) q19 d19_64 rfl, w_iadd (pc' := 67) q19 d19_66 rfl, w_bipush (z' := (20)) (pc' := 69) q19 d19_67 rfl (by decide), w_icmp_gt (tg := 84) (pc' := 72) q19 d19_69 (by decide) rfl, w_iload_n3 (pc' := 73) q19 d19_72 rfl, w_bipush (z' := (10)) (pc' := 75) q19 d19_73 rfl (by decide), w_irem (pc' := 76) q19 d19_75 rfl, w_iload5 (pc' := 78) q19 d19_76 rfl, w_iadd (pc' := 79) q19 d19_78 rfl, w_bipush (z' := (10)) (pc' := 81) q19 d19_79 rfl (by decide), w_icmp_le (tg := 94) (pc' := 84) q19 d19_81 (by decide) rfl, w_throw (ee := 1) q19 d19_84 (by decide +kernel), gs_off, gs_off0, gs_0off, gs_2, xN_0, xN_2, xN_3, xN_6, xN_7, xN_8, xN_9, xN_10, xN_11, xN_12, xN_13, xN_14, xN_15, xN_16, xN_17, xN_18, xN_19, xN_20, xN_21, xN_22, xN_23, xN_24, xN_25, xN_26, xN_27, xN_28, xN_29, xN_30, xN_31, xN_32, xN_33, xN_34, xN_35, xN_36, xN_37, xN_38, xN_39, xN_40, xN_41, xN_42, xN_43, xN_44, xN_45, xN_46, xN_47, xN_48, xN_49, xN_50, xN_51, xN_52, xN_53, xN_54, xN_55, ti_0, ti_1, ti_2, ti_3, ti_4, ti_5, ti_6, ti_7, ti_8, ti_9, ti_10, ti_16, ti_19, ti_20, ti_29, ti_30, ti_31, ti_32, ti_35, ti_36, ti_38, ti_39, ti_40, ti_41, ti_42, ti_43, ti_44, ti_45, ti_46, ti_47, ti_48, ti_49, ti_50, ti_51, ti_52, ti_53, ti_54, ti_55, ti_56, ti_57, ti_58, ti_59, ti_60, ti_61, ti_62, ti_63, ti_64, ti_65, ti_74, ti_77, ti_126, ti_200, ti_201, ti_202, ti_203, ti_204, ti_205, ti_210, ti_255, ti_256, ti_400, ti_512, ti_600, ti_601, ti_602, ti_1000, ti_1023, ti_1024, ti_2000, ti_10000, ti_12602, ti_999999, ti_m999999, ti_m1, ti_2000000, ti_3000000, xN_1, xN_4, xN_5, xN_60, xN_61, xN_64, xN_200, xN_800, xN_12000, xN_12602, eq_self, and_self, and_true, true_and, if_true, if_false, decide_true, Nat.reduceLeDiff, xc2_int, xc2_ref, xc2_ra, xc2_null, xc2_long, xc2_none, xisaT_ref, xisaT_ra, xisaT_null, xc1T_int, xc1T_ref, xc1T_ra, xc1T_null, xsum_nil, xsum_int, xsum_ref, xsum_ra, xsum_long, xsum_double, xsum_null, xfl_nil, xfl_int, xfl_ref, xfl_ra, xfl_null, xfl_long, xfl_double, List.length_cons, List.length_nil, r1, r2, r3, f1, f2, l1, l2, o1, o2, th, tw, th2, tw2, t20, n10, a1, a2, b1, xfk, xfv, xak, xan, xcls, xsv', List.getElem?_cons_zero, List.getElem?_cons_succ, List.getD_cons_zero, List.getD_cons_succ, Option.getD_some, Option.isSome_some, if_true, if_pos, xcont, Option.toList_none, Option.toList_some, List.nil_append, List.cons_append]
    · have b2 : ¬ to % 10 + (la % 10 - fi % 10 + 1) ≤ 10 := by omega
      simp (config := { decide := true }) only [w_iload_n1 (pc' := 1) q19 d19_0 rfl, w_invs1 (pc' := 4) q19 d19_1 rfl (by decide +kernel) k19_74_99 m15.1, w_iload_n2 (pc' := 5) q19 d19_4 rfl, w_invs1 (pc' := 8) q19 d19_5 rfl (by decide +kernel) k19_74_99 m15.1, w_iload_n3 (pc' := 9) q19 d19_8 rfl, w_invs1 (pc' := 12) q19 d19_9 rfl (by decide +kernel) k19_74_99 m15.1, w_iload_n2 (pc' := 13) q19 d19_12 rfl, w_bipush (z' := (10)) (pc' := 15) q19 d19_13 rfl (by decide), w_idiv (pc' := 16) q19 d19_15 rfl, w_iload_n1 (pc' := 17) q19 d19_16 rfl, w_bipush (z' := (10)) (pc' := 19) q19 d19_17 rfl (by decide), w_idiv (pc' := 20) q19 d19_19 rfl, w_isub (pc' := 21) q19 d19_20 rfl, w_iconst (pc' := 22) q19 d19_21 rfl, w_iadd (pc' := 23) q19 d19_22 rfl, w_istore4 (pc' := 25) q19 d19_23 rfl, w_iload_n2 (pc' := 26) q19 d19_25 rfl, w_bipush (z' := (10)) (pc' := 28) q19 d19_26 rfl (by decide), w_irem (pc' := 29) q19 d19_28 rfl, w_iload_n1 (pc' := 30) q19 d19_29 rfl, w_bipush (z' := (10)) (pc' := 32) q19 d19_30 rfl (by decide), w_irem (pc' := 33) q19 d19_32 rfl, w_isub (pc' := 34) q19 d19_33 rfl, w_iconst (pc' := 35) q19 d19_34 rfl, w_iadd (pc' := 36) q19 d19_35 rfl, w_istore5 (pc' := 38) q19 d19_36 rfl, w_iload4 (pc' := 40) q19 d19_38 rfl, w_iconst (pc' := 41) q19 d19_40 rfl, w_icmp_lt (tg := 50) (pc' := 44) q19 d19_41 (by decide) rfl, w_iload5 (pc' := 46) q19 d19_44 rfl, w_iconst (pc' := 47) q19 d19_46 rfl, w_icmp_ge (tg := 60) (pc' := 50) q19 d19_47 (by decide) rfl, w_iload_n3 (pc' := 61) q19 d19_60 rfl, w_bipush (z' := (10)) (pc' := 63) q19 d19_61 rfl (by decide), w_idiv (pc' := 64) q19 d19_63 rfl, w_iload4 (pc' := 66) q19 d19_64 rfl, w_iadd (pc' := 67) q19 d19_66 rfl, w_bipush (z' := (20)) (pc' := 69) q19 d19_67 rfl (by decide), w_icmp_gt (tg := 84) (pc' := 72) q19 d19_69 (by decide) rfl, w_iload_n3 (pc' := 73) q19 d19_72 rfl, w_bipush (z' := (10)) (pc' := 75) q19 d19_73 rfl (by decide), w_irem (pc' := 76) q19 d19_75 rfl, w_iload5 (pc' := 78) q19 d19_76 rfl, w_iadd (pc' := 79) q19 d19_78 rfl, w_bipush (z' := (10)) (pc' := 81) q19 d19_79 rfl (by decide), w_icmp_le (tg := 94) (pc' := 84) q19 d19_81 (by decide) rfl, w_throw (ee := 1) q19 d19_84 (by decide +kernel), gs_off, gs_off0, gs_0off, gs_2, xN_0, xN_2, xN_3, xN_6, xN_7, xN_8, xN_9, xN_10, xN_11, xN_12, xN_13, xN_14, xN_15, xN_16, xN_17, xN_18, xN_19, xN_20, xN_21, xN_22, xN_23, xN_24, xN_25, xN_26, xN_27, xN_28, xN_29, xN_30, xN_31, xN_32, xN_33, xN_34, xN_35, xN_36, xN_37, xN_38, xN_39, xN_40, xN_41, xN_42, xN_43, xN_44, xN_45, xN_46, xN_47, xN_48, xN_49, xN_50, xN_51, xN_52, xN_53, xN_54, xN_55, ti_0, ti_1, ti_2, ti_3, ti_4, ti_5, ti_6, ti_7, ti_8, ti_9, ti_10, ti_16, ti_19, ti_20, ti_29, ti_30, ti_31, ti_32, ti_35, ti_36, ti_38, ti_39, ti_40, ti_41, ti_42, ti_43, ti_44, ti_45, ti_46, ti_47, ti_48, ti_49, ti_50, ti_51, ti_52, ti_53, ti_54, ti_55, ti_56, ti_57, ti_58, ti_59, ti_60, ti_61, ti_62, ti_63, ti_64, ti_65, ti_74, ti_77, ti_126, ti_200, ti_201, ti_202, ti_203, ti_204, ti_205, ti_210, ti_255, ti_256, ti_400, ti_512, ti_600, ti_601, ti_602, ti_1000, ti_1023, ti_1024, ti_2000, ti_10000, ti_12602, ti_999999, ti_m999999, ti_m1, ti_2000000, ti_3000000, xN_1, xN_4, xN_5, xN_60, xN_61, xN_64, xN_200, xN_800, xN_12000, xN_12602, eq_self, and_self, and_true, true_and, if_true, if_false, decide_true, Nat.reduceLeDiff, xc2_int, xc2_ref, xc2_ra, xc2_null, xc2_long, xc2_none, xisaT_ref, xisaT_ra, xisaT_null, xc1T_int, xc1T_ref, xc1T_ra, xc1T_null, xsum_nil, xsum_int, xsum_ref, xsum_ra, xsum_long, xsum_double, xsum_null, xfl_nil, xfl_int, xfl_ref, xfl_ra, xfl_null, xfl_long, xfl_double, List.length_cons, List.length_nil, r1, r2, r3, f1, f2, l1, l2, o1, o2, th, tw, th2, tw2, t20, n10, a1, a2, b1, b2, xfk, xfv, xak, xan, xcls, xsv', List.getElem?_cons_zero, List.getElem?_cons_succ, List.getD_cons_zero, List.getD_cons_succ, Option.getD_some, Option.isSome_some, if_true, if_pos, xcont, Option.toList_none, Option.toList_some, List.nil_append, List.cons_append]
  · have r1 := hrf.1 hf
    have r2 := hrl.1 hl
    have r3 := hrt.1 ht
    obtain ⟨f1, f2⟩ := dv fi hf
    obtain ⟨l1, l2⟩ := dv la hl
    obtain ⟨o1, o2⟩ := dv to ht
    obtain ⟨hf1, hf2⟩ := id hf
    obtain ⟨hl1, hl2⟩ := id hl
    obtain ⟨ht1, ht2⟩ := id ht
    have th := rng (la / 10 - fi / 10 + 1) (by omega) (by omega)
    have tw := rng (la % 10 - fi % 10 + 1) (by omega) (by omega)
    have a1 : ¬ la / 10 - fi / 10 + 1 < 1 := by omega
    have a2 : 1 ≤ la % 10 - fi % 10 + 1 := by omega
    have th2 := rng (to / 10 + (la / 10 - fi / 10 + 1)) (by omega) (by omega)
    have tw2 := rng (to % 10 + (la % 10 - fi % 10 + 1)) (by omega) (by omega)
    have b1 : ¬ 20 < to / 10 + (la / 10 - fi / 10 + 1) := by omega
    have b2 : to % 10 + (la % 10 - fi % 10 + 1) ≤ 10 := by omega
    obtain ⟨q, g1, hq, F0, i1, eE, iR, k1⟩ := c_rec (X := X) (d := d + 294) hS' hI
    obtain ⟨hC, hM, hA⟩ := hI.2.1
    have hC1 := i1.2.1.1
    have cA := StC_of hC1 i1.2.1.2.1
    obtain ⟨h0, eh0⟩ : ∃ h0, h0 = y + 2 + 6 * q := ⟨_, rfl⟩
    have hO : StS S h0 := by rw [eh0]; exact hy0.2.2 q hq
    rw [← eh0] at eE iR k1
    have cR : StC g1 h0 A := StC_rec (StC_of hC hM) eE iR hC.1
    have hS2 := CsS_ext (S' := sCp S) hS' (fun h hh => xSn_off (by omega)) (by show S.2.1 ≤ S.2.1 + 1; omega)
    have kS2 := hS2.2.1.2.1.2.1
    have yS2 := hS2.2.1.2.2.2.2
    have c0n := hS2.1
    have k0n := hS2.2.1.2.1.1
    have hO2 : StS (sCp S) h0 := by rw [eh0]; exact yS2.2.2 q hq
    have hj : (sCp S).1 S.2.1 = .inr (3, [none, none]) := xSn_at
    have eN : xSn S (.inr (3, xDs 3)) (xDf.getD 3 []).length = sCp S := rfl
    obtain ⟨dr, edr⟩ : ∃ dr, to / 10 - fi / 10 = dr := ⟨_, rfl⟩
    obtain ⟨dc, edc⟩ : ∃ dc, to % 10 - fi % 10 = dc := ⟨_, rfl⟩
    have eG : gs (gs (gz g1 S.2.1 0) S.2.1 0 dr) S.2.1 1 dc = gCp S g1 dr dc := rfl
    have knm := c_newCopy (X := X) (S := sCp S) (g := gz g1 S.2.1 0) (d := d + 297) (f := dr) (x := dc) hj
    have F3 : ∀ h, h < S.2.1 → gCp S g1 dr dc h = g1 h := fun h hh => gCp_row (by omega)
    obtain ⟨G3, eG3⟩ : ∃ G3, G3 = gCp S g1 dr dc := ⟨_, rfl⟩
    rw [← eG3] at F3 eG
    have j0 : G3 S.2.1 0 = dr := by rw [eG3]; unfold gCp; rw [gs_at, if_neg (by decide), gs_at, if_pos rfl]
    have j1 : G3 S.2.1 1 = dc := by rw [eG3]; unfold gCp; rw [gs_at, if_pos rfl]
    have s5 : StI G3 (k + 1) := StI_congr (fun i _ _ => F3 _ (by omega)) hC1.1
    have s6 : StC G3 (k + 1) A := StC_congr (fun i _ _ => F3 _ (by omega)) cA
    have s7 : StI G3 h0 := StI_congr (fun i _ _ => F3 _ (by omega)) iR
    have s8 : StC G3 h0 A := StC_congr (fun i _ _ => F3 _ (by omega)) cR
    have hdr : -19 ≤ dr ∧ dr ≤ 19 := by omega
    have hdc : -9 ≤ dc ∧ dc ≤ 9 := by omega
    obtain ⟨hh, ehh⟩ : ∃ hh, la / 10 - fi / 10 + 1 = hh := ⟨_, rfl⟩
    obtain ⟨W, eW⟩ : ∃ W, la % 10 - fi % 10 + 1 = W := ⟨_, rfl⟩
    have hhr : 1 ≤ hh ∧ hh ≤ 20 := by omega
    have hWr : 1 ≤ W ∧ W ≤ 10 := by omega
    have z1 : fi % 10 + W ≤ 10 := by omega
    have z2 : fi / 10 + hh ≤ 20 := by omega
    have z3 : to % 10 + W ≤ 10 := by omega
    have z4 : to / 10 + hh ≤ 20 := by omega
    obtain ⟨G4, y9, y10, ⟨m1, m2, m3⟩, m4⟩ := l_couter (X := X) (S := sCp S) (d := d + 10) (la := la) (g1 := G3) (fi := fi) (to := to) (h := hh) (W := W) hS2 hj (by omega) hdr hdc j0 j1 hA (by omega) hO2 s7 s8 hWr hhr ⟨hf1, hf2⟩ z1 z2 ⟨ht1, ht2⟩ z3 z4 hh.toNat 0 G3 none none (by omega) (Int.le_refl _) ⟨StF_refl, s5, StC_E (fun x x1 x2 => by
      by_cases hb : inBk to hh W x
      · have hn : ¬ (inBk to hh W x ∧ pBf to (10 * 0 + 0) x = true) := fun e => by
          have h2 := of_decide_eq_true e.2
          have h3 := e.1
          unfold inBk at h3
          omega
        obtain ⟨q1, q2, q3⟩ := cpQ_n (A := A) (fi := fi) (f := tkF (cpS dr dc) (fun s _ => cpS dr dc s)) hn
        rw [q1, q2, q3]
        exact ⟨rfl, fun _ => rfl, fun _ => rfl⟩
      · obtain ⟨q1, q2, q3⟩ := cpQ_n (A := A) (fi := fi) (f := tkF (cpS dr dc) (fun s _ => cpS dr dc s)) (p := pBf to (10 * 0 + 0)) (fun e => hb e.1)
        rw [q1, q2, q3]
        exact ⟨rfl, fun _ => rfl, fun _ => rfl⟩) s6⟩
    have eall : cpQ A fi to hh W (tkF (cpS dr dc) (fun s _ => cpS dr dc s)) (pBf to (10 * hh + 0)) = cpA A fi to hh W (tkF (cpS dr dc) (fun s _ => cpS dr dc s)) := cpQ_congr (fun x hx => by
      unfold pBf
      unfold inBk at hx
      exact decide_eq_true (by omega))
    rw [eall] at m3
    have hok1 : ∀ s, okS s → okM (cpS dr dc s) := fun s hs => cpS_ok hs
    have hok2 : ∀ s o, okS s → okS o → okM ((fun s _ => cpS dr dc s) s o) := fun s _ hs _ => cpS_ok hs
    have hBo := cpA_ok (A := A) (fi := fi) (to := to) (h := hh) (w := W) hok1 hok2 hA hf1 z1 z2 ht1 z3
    obtain ⟨gb, egb⟩ : ∃ gb : xGm, gb = fun h => if h < S.2.1 then g1 h else G3 h := ⟨_, rfl⟩
    have hb1 : ∀ h, h < S.2.1 → gb h = g1 h := fun h hh => by rw [egb]; exact if_pos hh
    have hb2 : ∀ h, ¬ h < S.2.1 → gb h = G3 h := fun h hh => by rw [egb]; exact if_neg hh
    have ib : CdI gb c p k t o y P A sn (recH A H) := CdI_high (by omega) (fun h hh => hb1 h (by omega)) i1
    obtain ⟨g3, f3, i3, k3⟩ := c_chgAllC (X := X) (S := sCp S) (G := G4) (d := d + 27) hS2 ib hBo (fun h a1 a2 a3 a4 a5 => by
      by_cases hh : h < S.2.1
      · rw [hb1 h hh]; exact (m1 h (by omega)).trans (F3 h hh)
      · rw [hb2 h hh]; exact m1 h (by omega)) m2 (fun x x1 x2 => (m3 x x1 x2).1) (fun x x1 x2 => (m3 x x1 x2).2) rfl
    have hlen : (xDf.getD 3 []).length = 2 := by decide
    rw [ehh, eW]
    have ecb : cbkS A fi to hh W = shC (cpA A fi to hh W (tkF (cpS dr dc) (fun s _ => cpS dr dc s))) (cnA (cpA A fi to hh W (tkF (cpS dr dc) (fun s _ => cpS dr dc s))).1) := by unfold cbkS; rw [edr, edc]
    rw [ecb]
    refine CR_s (S' := sCp S) (g' := g3) hS' hm (fun h hh => xSn_off hh) (by show S.2.1 ≤ S.2.1 + 1; omega) (by show S.2.2.1 + 1 ≤ _; omega) (by show S.2.2.2 + (xDf.getD 3 []).length ≤ _; omega) (fun h h1 h2 => (f3 h (by omega)).trans ((hb1 h h2).trans (F0 h (by omega)))) i3 fun Q => ?_
    rw [ehh] at th a1 th2 b1
    rw [eW] at tw a2 tw2 b2
    rw [e19]
    simp (config := { decide := true }) only [w_iload_n1 (pc' := 1) q19 d19_0 rfl, w_invs1 (pc' := 4) q19 d19_1 rfl (by decide +kernel) k19_74_99 m15.1, w_iload_n2 (pc' := 5) q19 d19_4 rfl, w_invs1 (pc' := 8) q19 d19_5 rfl (by decide +kernel) k19_74_99 m15.1, w_iload_n3 (pc' := 9) q19 d19_8 rfl, w_invs1 (pc' := 12) q19 d19_9 rfl (by decide +kernel) k19_74_99 m15.1, w_iload_n2 (pc' := 13) q19 d19_12 rfl, w_bipush (z' := (10)) (pc' := 15) q19 d19_13 rfl (by decide), w_idiv (pc' := 16) q19 d19_15 rfl, w_iload_n1 (pc' := 17) q19 d19_16 rfl, w_bipush (z' := (10)) (pc' := 19) q19 d19_17 rfl (by decide), w_idiv (pc' := 20) q19 d19_19 rfl, w_isub (pc' := 21) q19 d19_20 rfl, w_iconst (pc' := 22) q19 d19_21 rfl, w_iadd (pc' := 23) q19 d19_22 rfl, w_istore4 (pc' := 25) q19 d19_23 rfl, w_iload_n2 (pc' := 26) q19 d19_25 rfl, w_bipush (z' := (10)) (pc' := 28) q19 d19_26 rfl (by decide), w_irem (pc' := 29) q19 d19_28 rfl, w_iload_n1 (pc' := 30) q19 d19_29 rfl, w_bipush (z' := (10)) (pc' := 32) q19 d19_30 rfl (by decide), w_irem (pc' := 33) q19 d19_32 rfl, w_isub (pc' := 34) q19 d19_33 rfl, w_iconst (pc' := 35) q19 d19_34 rfl, w_iadd (pc' := 36) q19 d19_35 rfl, w_istore5 (pc' := 38) q19 d19_36 rfl, w_iload4 (pc' := 40) q19 d19_38 rfl, w_iconst (pc' := 41) q19 d19_40 rfl, w_icmp_lt (tg := 50) (pc' := 44) q19 d19_41 (by decide) rfl, w_iload5 (pc' := 46) q19 d19_44 rfl, w_iconst (pc' := 47) q19 d19_46 rfl, w_icmp_ge (tg := 60) (pc' := 50) q19 d19_47 (by decide) rfl, w_iload_n3 (pc' := 61) q19 d19_60 rfl, w_bipush (z' := (10)) (pc' := 63) q19 d19_61 rfl (by decide), w_idiv (pc' := 64) q19 d19_63 rfl, w_iload4 (pc' := 66) q19 d19_64 rfl, w_iadd (pc' := 67) q19 d19_66 rfl, w_bipush (z' := (20)) (pc' := 69) q19 d19_67 rfl (by decide), w_icmp_gt (tg := 84) (pc' := 72) q19 d19_69 (by decide) rfl, w_iload_n3 (pc' := 73) q19 d19_72 rfl, w_bipush (z' := (10)) (pc' := 75) q19 d19_73 rfl (by decide), w_irem (pc' := 76) q19 d19_75 rfl, w_iload5 (pc' := 78) q19 d19_76 rfl, w_iadd (pc' := 79) q19 d19_78 rfl, w_bipush (z' := (10)) (pc' := 81) q19 d19_79 rfl (by decide), w_icmp_le (tg := 94) (pc' := 84) q19 d19_81 (by decide) rfl, w_throw (ee := 1) q19 d19_84 (by decide +kernel), w_aload_n0 (pc' := 95) q19 d19_94 rfl, w_getV (pc' := 98) q19 d19_95 rfl f19_36, w_aload_n0 (pc' := 99) q19 d19_98 rfl, w_getV (pc' := 102) q19 d19_99 rfl f19_19, w_getV (pc' := 105) q19 d19_102 rfl f19_80, w_invv1 (ci := 4) (pc' := 108) q19 d19_105 rfl n19_83 k19_83_4 m90.1, w_astore6 (pc' := 110) q19 d19_108 rfl, w_new (ci := 3) (pc' := 113) q19 d19_110 rfl (by decide +kernel) (by decide +kernel) (by decide), w_dup (pc' := 114) q19 d19_113 rfl, w_iload_n3 (pc' := 115) q19 d19_114 rfl, w_bipush (z' := (10)) (pc' := 117) q19 d19_115 rfl (by decide), w_idiv (pc' := 118) q19 d19_117 rfl, w_iload_n1 (pc' := 119) q19 d19_118 rfl, w_bipush (z' := (10)) (pc' := 121) q19 d19_119 rfl (by decide), w_idiv (pc' := 122) q19 d19_121 rfl, w_isub (pc' := 123) q19 d19_122 rfl, w_iload_n3 (pc' := 124) q19 d19_123 rfl, w_bipush (z' := (10)) (pc' := 126) q19 d19_124 rfl (by decide), w_irem (pc' := 127) q19 d19_126 rfl, w_iload_n1 (pc' := 128) q19 d19_127 rfl, w_bipush (z' := (10)) (pc' := 130) q19 d19_128 rfl (by decide), w_irem (pc' := 131) q19 d19_130 rfl, w_isub (pc' := 132) q19 d19_131 rfl, w_invp2 (pc' := 135) q19 d19_132 rfl (by decide +kernel) k19_111_98 m86.1, w_astore7 (pc' := 137) q19 d19_135 rfl, w_iconst (pc' := 138) q19 d19_137 rfl, w_istore8 (pc' := 140) q19 d19_138 rfl, gs_off, gs_off0, gs_0off, gs_2, xN_0, xN_2, xN_3, xN_6, xN_7, xN_8, xN_9, xN_10, xN_11, xN_12, xN_13, xN_14, xN_15, xN_16, xN_17, xN_18, xN_19, xN_20, xN_21, xN_22, xN_23, xN_24, xN_25, xN_26, xN_27, xN_28, xN_29, xN_30, xN_31, xN_32, xN_33, xN_34, xN_35, xN_36, xN_37, xN_38, xN_39, xN_40, xN_41, xN_42, xN_43, xN_44, xN_45, xN_46, xN_47, xN_48, xN_49, xN_50, xN_51, xN_52, xN_53, xN_54, xN_55, ti_0, ti_1, ti_2, ti_3, ti_4, ti_5, ti_6, ti_7, ti_8, ti_9, ti_10, ti_16, ti_19, ti_20, ti_29, ti_30, ti_31, ti_32, ti_35, ti_36, ti_38, ti_39, ti_40, ti_41, ti_42, ti_43, ti_44, ti_45, ti_46, ti_47, ti_48, ti_49, ti_50, ti_51, ti_52, ti_53, ti_54, ti_55, ti_56, ti_57, ti_58, ti_59, ti_60, ti_61, ti_62, ti_63, ti_64, ti_65, ti_74, ti_77, ti_126, ti_200, ti_201, ti_202, ti_203, ti_204, ti_205, ti_210, ti_255, ti_256, ti_400, ti_512, ti_600, ti_601, ti_602, ti_1000, ti_1023, ti_1024, ti_2000, ti_10000, ti_12602, ti_999999, ti_m999999, ti_m1, ti_2000000, ti_3000000, xN_1, xN_4, xN_5, xN_60, xN_61, xN_64, xN_200, xN_800, xN_12000, xN_12602, eq_self, and_self, and_true, true_and, if_true, if_false, decide_true, Nat.reduceLeDiff, xc2_int, xc2_ref, xc2_ra, xc2_null, xc2_long, xc2_none, xisaT_ref, xisaT_ra, xisaT_null, xc1T_int, xc1T_ref, xc1T_ra, xc1T_null, xsum_nil, xsum_int, xsum_ref, xsum_ra, xsum_long, xsum_double, xsum_null, xfl_nil, xfl_int, xfl_ref, xfl_ra, xfl_null, xfl_long, xfl_double, List.length_cons, List.length_nil, r1, r2, r3, f1, f2, l1, l2, o1, o2, ehh, eW, edr, edc, th, tw, th2, tw2, t20, n10, a1, a2, b1, b2, c0, k0, b0, y0, k1, eN, hj, knm, eG, xfk, xfv, xak, xan, xcls, xsv', List.getElem?_cons_zero, List.getElem?_cons_succ, List.getD_cons_zero, List.getD_cons_succ, Option.getD_some, Option.isSome_some, if_true, if_pos, xcont, Option.toList_none, Option.toList_some, List.nil_append, List.cons_append]
    rw [m4 Q]
    simp (config := { decide := true }) only [w_aload_n0 (pc' := 217) q19 d19_216 rfl, w_getV (pc' := 220) q19 d19_217 rfl f19_19, w_invv0 (ci := 2) (pc' := 223) q19 d19_220 rfl n19_121 k19_121_2 m83.1, w_pop (pc' := 224) q19 d19_223 rfl, w_iload4 (pc' := 226) q19 d19_224 rfl, w_iload5 (pc' := 228) q19 d19_226 rfl, w_imul (pc' := 229) q19 d19_228 rfl, w_ireturn q19 d19_229 m19.2.1, gs_off, gs_off0, gs_0off, gs_2, xN_0, xN_2, xN_3, xN_6, xN_7, xN_8, xN_9, xN_10, xN_11, xN_12, xN_13, xN_14, xN_15, xN_16, xN_17, xN_18, xN_19, xN_20, xN_21, xN_22, xN_23, xN_24, xN_25, xN_26, xN_27, xN_28, xN_29, xN_30, xN_31, xN_32, xN_33, xN_34, xN_35, xN_36, xN_37, xN_38, xN_39, xN_40, xN_41, xN_42, xN_43, xN_44, xN_45, xN_46, xN_47, xN_48, xN_49, xN_50, xN_51, xN_52, xN_53, xN_54, xN_55, ti_0, ti_1, ti_2, ti_3, ti_4, ti_5, ti_6, ti_7, ti_8, ti_9, ti_10, ti_16, ti_19, ti_20, ti_29, ti_30, ti_31, ti_32, ti_35, ti_36, ti_38, ti_39, ti_40, ti_41, ti_42, ti_43, ti_44, ti_45, ti_46, ti_47, ti_48, ti_49, ti_50, ti_51, ti_52, ti_53, ti_54, ti_55, ti_56, ti_57, ti_58, ti_59, ti_60, ti_61, ti_62, ti_63, ti_64, ti_65, ti_74, ti_77, ti_126, ti_200, ti_201, ti_202, ti_203, ti_204, ti_205, ti_210, ti_255, ti_256, ti_400, ti_512, ti_600, ti_601, ti_602, ti_1000, ti_1023, ti_1024, ti_2000, ti_10000, ti_12602, ti_999999, ti_m999999, ti_m1, ti_2000000, ti_3000000, xN_1, xN_4, xN_5, xN_60, xN_61, xN_64, xN_200, xN_800, xN_12000, xN_12602, eq_self, and_self, and_true, true_and, if_true, if_false, decide_true, Nat.reduceLeDiff, xc2_int, xc2_ref, xc2_ra, xc2_null, xc2_long, xc2_none, xisaT_ref, xisaT_ra, xisaT_null, xc1T_int, xc1T_ref, xc1T_ra, xc1T_null, xsum_nil, xsum_int, xsum_ref, xsum_ra, xsum_long, xsum_double, xsum_null, xfl_nil, xfl_int, xfl_ref, xfl_ra, xfl_null, xfl_long, xfl_double, List.length_cons, List.length_nil, c0n, k0n, k3, xfk, xfv, xak, xan, xcls, xsv', List.getElem?_cons_zero, List.getElem?_cons_succ, List.getD_cons_zero, List.getD_cons_succ, Option.getD_some, Option.isSome_some, if_true, if_pos, xcont, Option.toList_none, Option.toList_some, List.nil_append, List.cons_append]
end
