/-! The class: lines are inserted and deleted -/
section
variable {X : xX} {S S' : xLm} {g g' : xGm} {d c p k t o y b m j : Nat} {w : xH} {Q : xO → xH → Prop} {P P' : Pd} {A A' B : Sh} {sn : Option Sh} {H : List Sh}
theorem StS_congr {a : Nat} (h : ∀ i, i ≤ 5 → S'.1 (a + i) = S.1 (a + i)) (hS : StS S a) : StS S' a := by
  unfold StS at *
  rw [show S'.1 a = S.1 a from h 0 (by decide), h 1 (by decide), h 2 (by decide), h 3 (by decide), h 4 (by decide), h 5 (by decide)]
  exact hS
theorem PdS_congr {a : Nat} (h : ∀ i, i ≤ 5 → S'.1 (a + i) = S.1 (a + i)) (hS : PdS S a) : PdS S' a := by
  unfold PdS at *
  rw [show S'.1 a = S.1 a from h 0 (by decide), h 1 (by decide), h 2 (by decide), h 3 (by decide), h 4 (by decide), h 5 (by decide)]
  exact hS
theorem LkS_congr {a : Nat} (h : ∀ i, i ≤ 8 → S'.1 (a + i) = S.1 (a + i)) (hS : LkS S a) : LkS S' a := by
  unfold LkS at *
  rw [show S'.1 a = S.1 a from h 0 (by decide), h 1 (by decide), h 2 (by decide), h 3 (by decide), h 4 (by decide), h 5 (by decide), h 6 (by decide), h 7 (by decide), h 8 (by decide)]
  exact hS
theorem ClS_congr {a : Nat} (h : ∀ x, a ≤ x → x ≤ a + 15 → S'.1 x = S.1 x) (hS : ClS S a) : ClS S' a :=
  ⟨(h a (by omega) (by omega)).trans hS.1, StS_congr (fun i _ => h _ (by omega) (by omega)) hS.2.1, LkS_congr (fun i _ => h _ (by omega) (by omega)) hS.2.2⟩
theorem HsS_congr {a : Nat} (h : ∀ x, a ≤ x → x ≤ a + 25 → S'.1 x = S.1 x) (hS : HsS S a) : HsS S' a :=
  ⟨(h a (by omega) (by omega)).trans hS.1, (h _ (by omega) (by omega)).trans hS.2.1, fun q hq => StS_congr (fun i _ => h _ (by omega) (by omega)) (hS.2.2 q hq)⟩
theorem CsS_ext (hS : CsS S c p k t o y b m) (h1 : ∀ h, h < b → S'.1 h = S.1 h) (h2 : S.2.1 ≤ S'.2.1) : CsS S' c p k t o y b m := by
  obtain ⟨c0, ⟨hp0, hk0, ht0, ho0, hy0⟩, hL⟩ := hS
  exact ⟨(h1 c (by omega)).trans c0, ⟨PdS_congr (fun i _ => h1 _ (by omega)) hp0, ClS_congr (fun x _ _ => h1 x (by omega)) hk0, ClS_congr (fun x _ _ => h1 x (by omega)) ht0, StS_congr (fun i _ => h1 _ (by omega)) ho0, HsS_congr (fun x _ _ => h1 x (by omega)) hy0⟩, by omega⟩
theorem CdI_high (hL : c < p ∧ p + 5 < k ∧ k + 15 < t ∧ t + 15 < o ∧ o + 5 < y) (hf : ∀ h, h ≤ y + 25 → g' h = g h) (h : CdI g c p k t o y P A sn H) : CdI g' c p k t o y P A sn H := by
  obtain ⟨hP, ⟨hC, hM, hA⟩, hT, hSn, hH⟩ := h
  exact ⟨PdC_congr (by rw [hf p (by omega)]) (hf _ (by omega)) hP, ⟨ClI_congr (fun j _ _ => hf j (by omega)) hC, StA_congr (fun j _ => hf _ (by omega)) hM, hA⟩, TrI_congr (fun j _ _ => hf j (by omega)) hT, SnC_congr (by rw [hf c (by omega)]) (fun j _ => hf _ (by omega)) hSn, HiC_congr (fun j _ _ => hf j (by omega)) hH⟩
/-- a call that makes cells of its own -/
theorem CR_s {M D : Nat} {As : List Value} {out : xO} (hS : CsS S c p k t o y b m) (hm : m ≤ S.2.1) (h1 : ∀ h, h < S.2.1 → S'.1 h = S.1 h) (h2 : S.2.1 ≤ S'.2.1) (h3 : S'.2.2.1 ≤ S.2.2.1 + 2) (h4 : S'.2.2.2 ≤ S.2.2.2 + 20) (hf : ∀ h, b ≤ h → h < S.2.1 → g' h = g h) (hI : CdI g' c p k t o y P A sn H) (h : ∀ Q, Cw X D M As (hp S g) Q = Q out (hp S' g')) (hM : xbig M := by decide) : CRs X S g c p k t o y b m M D As out P A sn H :=
  ⟨S', g', ⟨fun h hh _ => h1 h hh, h2, by omega, by omega⟩, fun j j1 j2 => hf j (by have := hS.2.2; omega) (by omega), TxE_keep h1 h2 (by have := hS.2.2; omega) (by have := hS.2.2; omega) hf (by rw [xcst_b hM]; omega) (by rw [xcst_b hM]; omega), hI, h⟩
theorem c_rwInit : ∀ Q, (xcls (S.1 j)).isSome = true → Cw X (d + 1) 146 [.ref j] (hp S g) Q = Q (.inl none) (hp S g) := fun Q hj => by
  rw [e146]
  simp (config := { decide := true }) only [w_aload_n0 (pc' := 1) q146 d146_0 rfl, w_obji (pc' := 4) q146 d146_1 rfl (by decide +kernel), w_return q146 d146_4 m146.2.1, gs_off, gs_off0, gs_0off, gs_2, xN_0, xN_2, xN_3, xN_6, xN_7, xN_8, xN_9, xN_10, xN_11, xN_12, xN_13, xN_14, xN_15, xN_16, xN_17, xN_18, xN_19, xN_20, xN_21, xN_22, xN_23, xN_24, xN_25, xN_26, xN_27, xN_28, xN_29, xN_30, xN_31, xN_32, xN_33, xN_34, xN_35, xN_36, xN_37, xN_38, xN_39, xN_40, xN_41, xN_42, xN_43, xN_44, xN_45, xN_46, xN_47, xN_48, xN_49, xN_50, xN_51, xN_52, xN_53, xN_54, xN_55, ti_0, ti_1, ti_2, ti_3, ti_4, ti_5, ti_6, ti_7, ti_8, ti_9, ti_10, ti_16, ti_19, ti_20, ti_29, ti_30, ti_31, ti_32, ti_35, ti_36, ti_38, ti_39, ti_40, ti_41, ti_42, ti_43, ti_44, ti_45, ti_46, ti_47, ti_48, ti_49, ti_50, ti_51, ti_52, ti_53, ti_54, ti_55, ti_56, ti_57, ti_58, ti_59, ti_60, ti_61, ti_62, ti_63, ti_64, ti_65, ti_74, ti_77, ti_126, ti_200, ti_201, ti_202, ti_203, ti_204, ti_205, ti_210, ti_255, ti_256, ti_400, ti_512, ti_600, ti_601, ti_602, ti_1000, ti_1023, ti_1024, ti_2000, ti_10000, ti_12602, ti_999999, ti_m999999, ti_m1, ti_2000000, ti_3000000, xN_1, xN_4, xN_5, xN_60, xN_61, xN_64, xN_200, xN_800, xN_12000, xN_12602, eq_self, and_self, and_true, true_and, if_true, if_false, decide_true, Nat.reduceLeDiff, xc2_int, xc2_ref, xc2_ra, xc2_null, xc2_long, xc2_none, xisaT_ref, xisaT_ra, xisaT_null, xc1T_int, xc1T_ref, xc1T_ra, xc1T_null, xsum_nil, xsum_int, xsum_ref, xsum_ra, xsum_long, xsum_double, xsum_null, xfl_nil, xfl_int, xfl_ref, xfl_ra, xfl_null, xfl_long, xfl_double, List.length_cons, List.length_nil, hj, xfk, xfv, xak, xan, xcls, xsv', List.getElem?_cons_zero, List.getElem?_cons_succ, List.getD_cons_zero, List.getD_cons_succ, Option.getD_some, Option.isSome_some, if_true, if_pos, xcont, Option.toList_none, Option.toList_some, List.nil_append, List.cons_append]
theorem c_newLine {u ln i : Int} (hj : LcS S j) (hu : u = 0 ∨ u = 1) (hi : i = 0 ∨ i = 1) : ∀ Q, Cw X (d + 2) 97 [.ref j, .int (iI u), .int (iI ln), .int (iI i)] (hp S g) Q = Q (.inl none) (hp S (gs (gs (gs g j 0 u) j 1 ln) j 2 i)) := fun Q => by
  have hj' : S.1 j = .inr (5, [none, none, none]) := hj
  have h0 := fun Q => c_rwInit (X := X) (S := S) (g := g) (d := d) (j := j) Q (by rw [hj']; rfl)
  have tu : (ti u = 0 ∨ ti u = 1) = True := by rcases hu with rfl | rfl <;> simp [ti_0, ti_1]
  have t_i : (ti i = 0 ∨ ti i = 1) = True := by rcases hi with rfl | rfl <;> simp [ti_0, ti_1]
  rw [e97]
  simp (config := { decide := true }) only [w_aload_n0 (pc' := 1) q97 d97_0 rfl, w_invp0 (pc' := 4) q97 d97_1 rfl (by decide +kernel) k97_3_98 m146.1, w_aload_n0 (pc' := 5) q97 d97_4 rfl, w_iload_n1 (pc' := 6) q97 d97_5 rfl, w_putZ (pc' := 9) q97 d97_6 rfl f97_9 rfl (by decide +kernel), w_aload_n0 (pc' := 10) q97 d97_9 rfl, w_iload_n2 (pc' := 11) q97 d97_10 rfl, w_putI (pc' := 14) q97 d97_11 rfl f97_15 rfl (by decide +kernel), w_aload_n0 (pc' := 15) q97 d97_14 rfl, w_iload_n3 (pc' := 16) q97 d97_15 rfl, w_putZ (pc' := 19) q97 d97_16 rfl f97_19 rfl (by decide +kernel), w_return q97 d97_19 m97.2.1, gs_off, gs_off0, gs_0off, gs_2, xN_0, xN_2, xN_3, xN_6, xN_7, xN_8, xN_9, xN_10, xN_11, xN_12, xN_13, xN_14, xN_15, xN_16, xN_17, xN_18, xN_19, xN_20, xN_21, xN_22, xN_23, xN_24, xN_25, xN_26, xN_27, xN_28, xN_29, xN_30, xN_31, xN_32, xN_33, xN_34, xN_35, xN_36, xN_37, xN_38, xN_39, xN_40, xN_41, xN_42, xN_43, xN_44, xN_45, xN_46, xN_47, xN_48, xN_49, xN_50, xN_51, xN_52, xN_53, xN_54, xN_55, ti_0, ti_1, ti_2, ti_3, ti_4, ti_5, ti_6, ti_7, ti_8, ti_9, ti_10, ti_16, ti_19, ti_20, ti_29, ti_30, ti_31, ti_32, ti_35, ti_36, ti_38, ti_39, ti_40, ti_41, ti_42, ti_43, ti_44, ti_45, ti_46, ti_47, ti_48, ti_49, ti_50, ti_51, ti_52, ti_53, ti_54, ti_55, ti_56, ti_57, ti_58, ti_59, ti_60, ti_61, ti_62, ti_63, ti_64, ti_65, ti_74, ti_77, ti_126, ti_200, ti_201, ti_202, ti_203, ti_204, ti_205, ti_210, ti_255, ti_256, ti_400, ti_512, ti_600, ti_601, ti_602, ti_1000, ti_1023, ti_1024, ti_2000, ti_10000, ti_12602, ti_999999, ti_m999999, ti_m1, ti_2000000, ti_3000000, xN_1, xN_4, xN_5, xN_60, xN_61, xN_64, xN_200, xN_800, xN_12000, xN_12602, eq_self, and_self, and_true, true_and, if_true, if_false, decide_true, Nat.reduceLeDiff, xc2_int, xc2_ref, xc2_ra, xc2_null, xc2_long, xc2_none, xisaT_ref, xisaT_ra, xisaT_null, xc1T_int, xc1T_ref, xc1T_ra, xc1T_null, xsum_nil, xsum_int, xsum_ref, xsum_ra, xsum_long, xsum_double, xsum_null, xfl_nil, xfl_int, xfl_ref, xfl_ra, xfl_null, xfl_long, xfl_double, List.length_cons, List.length_nil, hj', h0, tu, t_i, xfk, xfv, xak, xan, xcls, xsv', List.getElem?_cons_zero, List.getElem?_cons_succ, List.getD_cons_zero, List.getD_cons_succ, Option.getD_some, Option.isSome_some, if_true, if_pos, xcont, Option.toList_none, Option.toList_some, List.nil_append, List.cons_append]
theorem lnF_ge {u ln i x : Int} (hu : u = 0 ∨ u = 1) (hl : 0 ≤ ln) (hx : 0 ≤ x ∧ x < 200) : -1 ≤ lnF u ln i x := by
  unfold lnF lnO lnT lnL
  rcases hu with rfl | rfl
  · simp only [if_true]
    repeat' split
    all_goals omega
  · simp only [show ¬ (1 : Int) = 0 by decide, if_false]
    repeat' split
    all_goals omega
/-- the cells below n as they become -/
def srN (A : Sh) (s : Int → Int) (n : Int) : Sh := (fun x => if x < n then (srA A s).1 x else A.1 x, fun x => if x < n then (srA A s).2.1 x else A.2.1 x, fun x => if x < n then (srA A s).2.2.1 x else A.2.2.1 x, A.2.2.2)
theorem srN_0 {s : Int → Int} : ∀ x, 0 ≤ x → x < 200 → A.1 x = (srN A s 0).1 x ∧ (A.1 x = 1 → A.2.1 x = (srN A s 0).2.1 x) ∧ (A.1 x = 2 → A.2.2.1 x = (srN A s 0).2.2.1 x) := fun x x1 x2 => by
  unfold srN
  dsimp only
  rw [if_neg (by omega), if_neg (by omega), if_neg (by omega)]
  exact ⟨rfl, fun _ => rfl, fun _ => rfl⟩
theorem srN_200 {s : Int → Int} : ∀ x, 0 ≤ x → x < 200 → (srN A s 200).1 x = (srA A s).1 x ∧ ((srN A s 200).1 x = 1 → (srN A s 200).2.1 x = (srA A s).2.1 x) ∧ ((srN A s 200).1 x = 2 → (srN A s 200).2.2.1 x = (srA A s).2.2.1 x) := fun x x1 x2 => by
  unfold srN
  dsimp only
  rw [if_pos x2, if_pos x2, if_pos x2]
  exact ⟨rfl, fun _ => rfl, fun _ => rfl⟩
theorem srN_step {s : Int → Int} {n kd nu : Int} {tk : List Int} (h1 : kd = (srA A s).1 n) (h2 : nu = (srA A s).2.1 n) (h3 : tk = (srA A s).2.2.1 n) : ∀ x, 0 ≤ x → x < 200 → (shP (srN A s n) n kd nu tk).1 x = (srN A s (n + 1)).1 x ∧ ((shP (srN A s n) n kd nu tk).1 x = 1 → (shP (srN A s n) n kd nu tk).2.1 x = (srN A s (n + 1)).2.1 x) ∧ ((shP (srN A s n) n kd nu tk).1 x = 2 → (shP (srN A s n) n kd nu tk).2.2.1 x = (srN A s (n + 1)).2.2.1 x) := fun x x1 x2 => by
  unfold shP srN
  dsimp only
  by_cases e : x = n
  · subst e
    rw [if_pos rfl, if_pos rfl, if_pos rfl, if_pos (show x < x + 1 by omega), if_pos (show x < x + 1 by omega), if_pos (show x < x + 1 by omega)]
    exact ⟨h1, fun _ => h2, fun _ => h3⟩
  · rw [if_neg e, if_neg e, if_neg e]
    by_cases e2 : x < n
    · rw [if_pos e2, if_pos e2, if_pos e2, if_pos (show x < n + 1 by omega), if_pos (show x < n + 1 by omega), if_pos (show x < n + 1 by omega)]
      exact ⟨rfl, fun _ => rfl, fun _ => rfl⟩
    · rw [if_neg e2, if_neg e2, if_neg e2, if_neg (show ¬ x < n + 1 by omega), if_neg (show ¬ x < n + 1 by omega), if_neg (show ¬ x < n + 1 by omega)]
      exact ⟨rfl, fun _ => rfl, fun _ => rfl⟩
theorem LcI_congr {u ln i : Int} (h : g' j = g j) (hI : LcI g j u ln i) : LcI g' j u ln i := by
  unfold LcI at *
  rw [h]
  exact hI
theorem l_clines {h0 : Nat} {u ln i v : Int} {g1 : xGm} (hS : CsS S c p k t o y b m) (hj : LcS S j) (hjb : b < j) (hu : u = 0 ∨ u = 1) (hi : i = 0 ∨ i = 1) (hl : 0 ≤ ln ∧ ln ≤ lnL u) (hh : y < h0 ∧ h0 + 5 < b) (hO : StS S h0) (hJ : LcI g1 j u ln i) (hR : StI g1 h0) (hC : StC g1 h0 A) : ∀ (n : Nat) (x : Int) (G : xGm) (y5 : Option Value), x + n = 200 → 0 ≤ x → StF g1 G (k + 1) → StI G (k + 1) → StC G (k + 1) (srN A (lnF u ln i) x) →
    ∃ G' y5', StF g1 G' (k + 1) ∧ StI G' (k + 1) ∧ StC G' (k + 1) (srA A (lnF u ln i)) ∧ ∀ Q, Wx X (d + 290) 23 66 [some (.ref c), some (.ref j), some (.int (iI v)), some (.ref h0), some (.int (iI x)), y5] [] (hp S G) Q = Wx X (d + 290) 23 123 [some (.ref c), some (.ref j), some (.int (iI v)), some (.ref h0), some (.int (iI 200)), y5'] [] (hp S G') Q := by
  obtain ⟨c0, ⟨hp0, hk0, ht0, ho0, hy0⟩, hL⟩ := hS
  obtain ⟨k0, kS, kL⟩ := id hk0
  have hj' : S.1 j = .inr (5, [none, none, none]) := hj
  have t200 : ti 200 = 200 := by decide
  intro n
  induction n with
  | zero =>
    intro x G y5 hx hx0 hF hI hG
    have ex : x = 200 := by omega
    subst ex
    have hge : (200 : Int) ≤ 200 := Int.le_refl _
    refine ⟨G, y5, hF, hI, StC_E srN_200 hG, fun Q => ?_⟩
    rw [w_iload4 (pc' := 68) q23 d23_66 rfl]
    simp (config := { decide := true }) only [w_sipush (z' := (200)) (pc' := 71) q23 d23_68 rfl (by decide), w_icmp_ge (tg := 123) (pc' := 74) q23 d23_71 (by decide) rfl, gs_off, gs_off0, gs_0off, gs_2, xN_0, xN_2, xN_3, xN_6, xN_7, xN_8, xN_9, xN_10, xN_11, xN_12, xN_13, xN_14, xN_15, xN_16, xN_17, xN_18, xN_19, xN_20, xN_21, xN_22, xN_23, xN_24, xN_25, xN_26, xN_27, xN_28, xN_29, xN_30, xN_31, xN_32, xN_33, xN_34, xN_35, xN_36, xN_37, xN_38, xN_39, xN_40, xN_41, xN_42, xN_43, xN_44, xN_45, xN_46, xN_47, xN_48, xN_49, xN_50, xN_51, xN_52, xN_53, xN_54, xN_55, ti_0, ti_1, ti_2, ti_3, ti_4, ti_5, ti_6, ti_7, ti_8, ti_9, ti_10, ti_16, ti_19, ti_20, ti_29, ti_30, ti_31, ti_32, ti_35, ti_36, ti_38, ti_39, ti_40, ti_41, ti_42, ti_43, ti_44, ti_45, ti_46, ti_47, ti_48, ti_49, ti_50, ti_51, ti_52, ti_53, ti_54, ti_55, ti_56, ti_57, ti_58, ti_59, ti_60, ti_61, ti_62, ti_63, ti_64, ti_65, ti_74, ti_77, ti_126, ti_200, ti_201, ti_202, ti_203, ti_204, ti_205, ti_210, ti_255, ti_256, ti_400, ti_512, ti_600, ti_601, ti_602, ti_1000, ti_1023, ti_1024, ti_2000, ti_10000, ti_12602, ti_999999, ti_m999999, ti_m1, ti_2000000, ti_3000000, xN_1, xN_4, xN_5, xN_60, xN_61, xN_64, xN_200, xN_800, xN_12000, xN_12602, eq_self, and_self, and_true, true_and, if_true, if_false, decide_true, Nat.reduceLeDiff, xc2_int, xc2_ref, xc2_ra, xc2_null, xc2_long, xc2_none, xisaT_ref, xisaT_ra, xisaT_null, xc1T_int, xc1T_ref, xc1T_ra, xc1T_null, xsum_nil, xsum_int, xsum_ref, xsum_ra, xsum_long, xsum_double, xsum_null, xfl_nil, xfl_int, xfl_ref, xfl_ra, xfl_null, xfl_long, xfl_double, List.length_cons, List.length_nil, t200, hge, xfk, xfv, xak, xan, xcls, xsv', List.getElem?_cons_zero, List.getElem?_cons_succ, List.getD_cons_zero, List.getD_cons_succ, Option.getD_some, Option.isSome_some, if_true, if_pos, xcont, Option.toList_none, Option.toList_some, List.nil_append, List.cons_append]
  | succ n ih =>
    intro x G y5 hx hx0 hF hI hG
    have hx2 : x < 200 := by omega
    have hn : ¬ 200 ≤ x := by omega
    have tx : ti x = x := ti_eq (by omega) (by omega)
    have hJ' : LcI G j u ln i := LcI_congr (hF j (by omega)) hJ
    have hge := lnF_ge (i := i) hu hl.1 ⟨hx0, hx2⟩
    have hlt := lnF_lt (i := i) hu hl.1 x hx0 hx2
    have hso := fun Q => c_sourceOf (X := X) (d := d + 288) (g := G) (c := x) (Q := Q) hj hJ' hx0 hx2
    obtain ⟨z, ez⟩ : ∃ z, lnF u ln i x = z := ⟨_, rfl⟩
    rw [ez] at hge hlt hso
    have tz : ti z = z := ti_eq (by omega) (by omega)
    by_cases e : z < 0
    · have e' : ¬ 0 ≤ z := by omega
      have hpn : ∀ Q, Cw X (d + 289) 161 [.ref (k + 1), .int (iI x)] (hp S G) Q = Q (.inl none) (hp S (gPut G (k + 1) x 0 0)) := fun Q => c_putNothing (X := X) (d := d + 287) (g := G) kS hx0 hx2
      have s1 := StI_gPut (z := x) (kd := 0) (v := 0) hI (by decide) (by decide)
      have s2 := StC_E (srN_step (by unfold srA; dsimp only; rw [ez, if_pos e]) (by unfold srA; dsimp only; rw [ez, if_pos e]) (by unfold srA; dsimp only; rw [ez, if_pos e])) (StC_gPut (z := x) (kd := 0) (v := 0) hG (by decide) (fun _ => rfl))
      obtain ⟨G', y5', j1, j2, j3, j4⟩ := ih (x + 1) (gPut G (k + 1) x 0 0) (some (.int (iI z))) (by omega) (by omega) (StF_trans hF gPut_F) s1 s2
      refine ⟨G', y5', j1, j2, j3, fun Q => ?_⟩
      rw [← j4 Q, w_iload4 (pc' := 68) q23 d23_66 rfl]
      simp (config := { decide := true }) only [w_sipush (z' := (200)) (pc' := 71) q23 d23_68 rfl (by decide), w_icmp_ge (tg := 123) (pc' := 74) q23 d23_71 (by decide) rfl, w_aload_n1 (pc' := 75) q23 d23_74 rfl, w_iload4 (pc' := 77) q23 d23_75 rfl, w_invv1 (ci := 5) (pc' := 80) q23 d23_77 rfl n23_321 k23_321_5 m98.1, w_istore5 (pc' := 82) q23 d23_80 rfl, w_iload5 (pc' := 84) q23 d23_82 rfl, w_if_ge (tg := 102) (pc' := 87) q23 d23_84 (by decide) rfl, w_aload_n0 (pc' := 88) q23 d23_87 rfl, w_getV (pc' := 91) q23 d23_88 rfl f23_19, w_getV (pc' := 94) q23 d23_91 rfl f23_80, w_iload4 (pc' := 96) q23 d23_94 rfl, w_invv1 (ci := 9) (pc' := 99) q23 d23_96 rfl n23_102 k23_102_9 m161.1, w_goto (tg := 117) q23 d23_99 (by decide), w_aload_n0 (pc' := 103) q23 d23_102 rfl, w_getV (pc' := 106) q23 d23_103 rfl f23_19, w_getV (pc' := 109) q23 d23_106 rfl f23_80, w_iload4 (pc' := 111) q23 d23_109 rfl, w_aload_n3 (pc' := 112) q23 d23_111 rfl, w_iload5 (pc' := 114) q23 d23_112 rfl, w_invv3 (ci := 9) (pc' := 117) q23 d23_114 rfl n23_113 k23_113_9 m150.1, w_iinc4 (z := (1)) (pc' := 120) q23 d23_117 rfl, w_goto (tg := 66) q23 d23_120 (by decide), gs_off, gs_off0, gs_0off, gs_2, xN_0, xN_2, xN_3, xN_6, xN_7, xN_8, xN_9, xN_10, xN_11, xN_12, xN_13, xN_14, xN_15, xN_16, xN_17, xN_18, xN_19, xN_20, xN_21, xN_22, xN_23, xN_24, xN_25, xN_26, xN_27, xN_28, xN_29, xN_30, xN_31, xN_32, xN_33, xN_34, xN_35, xN_36, xN_37, xN_38, xN_39, xN_40, xN_41, xN_42, xN_43, xN_44, xN_45, xN_46, xN_47, xN_48, xN_49, xN_50, xN_51, xN_52, xN_53, xN_54, xN_55, ti_0, ti_1, ti_2, ti_3, ti_4, ti_5, ti_6, ti_7, ti_8, ti_9, ti_10, ti_16, ti_19, ti_20, ti_29, ti_30, ti_31, ti_32, ti_35, ti_36, ti_38, ti_39, ti_40, ti_41, ti_42, ti_43, ti_44, ti_45, ti_46, ti_47, ti_48, ti_49, ti_50, ti_51, ti_52, ti_53, ti_54, ti_55, ti_56, ti_57, ti_58, ti_59, ti_60, ti_61, ti_62, ti_63, ti_64, ti_65, ti_74, ti_77, ti_126, ti_200, ti_201, ti_202, ti_203, ti_204, ti_205, ti_210, ti_255, ti_256, ti_400, ti_512, ti_600, ti_601, ti_602, ti_1000, ti_1023, ti_1024, ti_2000, ti_10000, ti_12602, ti_999999, ti_m999999, ti_m1, ti_2000000, ti_3000000, xN_1, xN_4, xN_5, xN_60, xN_61, xN_64, xN_200, xN_800, xN_12000, xN_12602, eq_self, and_self, and_true, true_and, if_true, if_false, decide_true, Nat.reduceLeDiff, xc2_int, xc2_ref, xc2_ra, xc2_null, xc2_long, xc2_none, xisaT_ref, xisaT_ra, xisaT_null, xc1T_int, xc1T_ref, xc1T_ra, xc1T_null, xsum_nil, xsum_int, xsum_ref, xsum_ra, xsum_long, xsum_double, xsum_null, xfl_nil, xfl_int, xfl_ref, xfl_ra, xfl_null, xfl_long, xfl_double, List.length_cons, List.length_nil, t200, hn, tx, c0, k0, kS.1, hj', hso, tz, e', hpn, xfk, xfv, xak, xan, xcls, xsv', List.getElem?_cons_zero, List.getElem?_cons_succ, List.getD_cons_zero, List.getD_cons_succ, Option.getD_some, Option.isSome_some, if_true, if_pos, xcont, Option.toList_none, Option.toList_some, List.nil_append, List.cons_append]
    · have e' : 0 ≤ z := by omega
      have hRG : StI G h0 := StI_congr (fun i _ _ => hF _ (by omega)) hR
      have hCG : StC G h0 A := StC_congr (fun i _ _ => hF _ (by omega)) hC
      have hb := hRG.2.2.2.1 z
      have htk : ∀ Q, Cw X (d + 289) 150 [.ref (k + 1), .int (iI x), .ref h0, .int (iI z)] (hp S G) Q = Q (.inl none) (hp S (gT G (k + 1) h0 x z)) := fun Q => c_takeCell (X := X) (d := d + 287) (g := G) kS hO (by omega) hx0 hx2 e' hlt hb.1 hb.2
      have s1 := StI_take (c := x) (s := z) hI hRG
      have s2 := StC_E (srN_step (by unfold srA; dsimp only; rw [ez, if_neg e]) (by unfold srA; dsimp only; rw [ez, if_neg e]) (by unfold srA; dsimp only; rw [ez, if_neg e])) (StC_take (c := x) (s := z) hG hCG hI hRG ⟨hx0, hx2⟩ ⟨e', hlt⟩)
      obtain ⟨G', y5', j1, j2, j3, j4⟩ := ih (x + 1) (gT G (k + 1) h0 x z) (some (.int (iI z))) (by omega) (by omega) (StF_trans hF gT_F) s1 s2
      refine ⟨G', y5', j1, j2, j3, fun Q => ?_⟩
      rw [← j4 Q, w_iload4 (pc' := 68) q23 d23_66 rfl]
      simp (config := { decide := true }) only [w_sipush (z' := (200)) (pc' := 71) q23 d23_68 rfl (by decide), w_icmp_ge (tg := 123) (pc' := 74) q23 d23_71 (by decide) rfl, w_aload_n1 (pc' := 75) q23 d23_74 rfl, w_iload4 (pc' := 77) q23 d23_75 rfl, w_invv1 (ci := 5) (pc' := 80) q23 d23_77 rfl n23_321 k23_321_5 m98.1, w_istore5 (pc' := 82) q23 d23_80 rfl, w_iload5 (pc' := 84) q23 d23_82 rfl, w_if_ge (tg := 102) (pc' := 87) q23 d23_84 (by decide) rfl, w_aload_n0 (pc' := 88) q23 d23_87 rfl, w_getV (pc' := 91) q23 d23_88 rfl f23_19, w_getV (pc' := 94) q23 d23_91 rfl f23_80, w_iload4 (pc' := 96) q23 d23_94 rfl, w_invv1 (ci := 9) (pc' := 99) q23 d23_96 rfl n23_102 k23_102_9 m161.1, w_goto (tg := 117) q23 d23_99 (by decide), w_aload_n0 (pc' := 103) q23 d23_102 rfl, w_getV (pc' := 106) q23 d23_103 rfl f23_19, w_getV (pc' := 109) q23 d23_106 rfl f23_80, w_iload4 (pc' := 111) q23 d23_109 rfl, w_aload_n3 (pc' := 112) q23 d23_111 rfl, w_iload5 (pc' := 114) q23 d23_112 rfl, w_invv3 (ci := 9) (pc' := 117) q23 d23_114 rfl n23_113 k23_113_9 m150.1, w_iinc4 (z := (1)) (pc' := 120) q23 d23_117 rfl, w_goto (tg := 66) q23 d23_120 (by decide), gs_off, gs_off0, gs_0off, gs_2, xN_0, xN_2, xN_3, xN_6, xN_7, xN_8, xN_9, xN_10, xN_11, xN_12, xN_13, xN_14, xN_15, xN_16, xN_17, xN_18, xN_19, xN_20, xN_21, xN_22, xN_23, xN_24, xN_25, xN_26, xN_27, xN_28, xN_29, xN_30, xN_31, xN_32, xN_33, xN_34, xN_35, xN_36, xN_37, xN_38, xN_39, xN_40, xN_41, xN_42, xN_43, xN_44, xN_45, xN_46, xN_47, xN_48, xN_49, xN_50, xN_51, xN_52, xN_53, xN_54, xN_55, ti_0, ti_1, ti_2, ti_3, ti_4, ti_5, ti_6, ti_7, ti_8, ti_9, ti_10, ti_16, ti_19, ti_20, ti_29, ti_30, ti_31, ti_32, ti_35, ti_36, ti_38, ti_39, ti_40, ti_41, ti_42, ti_43, ti_44, ti_45, ti_46, ti_47, ti_48, ti_49, ti_50, ti_51, ti_52, ti_53, ti_54, ti_55, ti_56, ti_57, ti_58, ti_59, ti_60, ti_61, ti_62, ti_63, ti_64, ti_65, ti_74, ti_77, ti_126, ti_200, ti_201, ti_202, ti_203, ti_204, ti_205, ti_210, ti_255, ti_256, ti_400, ti_512, ti_600, ti_601, ti_602, ti_1000, ti_1023, ti_1024, ti_2000, ti_10000, ti_12602, ti_999999, ti_m999999, ti_m1, ti_2000000, ti_3000000, xN_1, xN_4, xN_5, xN_60, xN_61, xN_64, xN_200, xN_800, xN_12000, xN_12602, eq_self, and_self, and_true, true_and, if_true, if_false, decide_true, Nat.reduceLeDiff, xc2_int, xc2_ref, xc2_ra, xc2_null, xc2_long, xc2_none, xisaT_ref, xisaT_ra, xisaT_null, xc1T_int, xc1T_ref, xc1T_ra, xc1T_null, xsum_nil, xsum_int, xsum_ref, xsum_ra, xsum_long, xsum_double, xsum_null, xfl_nil, xfl_int, xfl_ref, xfl_ra, xfl_null, xfl_long, xfl_double, List.length_cons, List.length_nil, t200, hn, tx, c0, k0, kS.1, hj', hso, tz, e', htk, xfk, xfv, xak, xan, xcls, xsv', List.getElem?_cons_zero, List.getElem?_cons_succ, List.getD_cons_zero, List.getD_cons_succ, Option.getD_some, Option.isSome_some, if_true, if_pos, xcont, Option.toList_none, Option.toList_some, List.nil_append, List.cons_append]
theorem lnL_rng (u : Int) : 9 ≤ lnL u ∧ lnL u ≤ 19 := by unfold lnL; split <;> omega
theorem lnH_fi {u ln i : Int} {K K' : Int → Int} (hu : u = 0 ∨ u = 1) (hi : i = 0 ∨ i = 1) (hK : ∀ x, 0 ≤ x → x < 200 → K x = K' x) : sumf (ind (fun c => cb (lnH u ln i c ∧ ¬ K c = 0))) 0 200 = fiN K' u ln (if i = 1 then lnL u else ln) := by
  unfold fiN
  refine sumf_congr 200 0 (fun x x1 x2 => ?_)
  have hr := lnO_rng (b := u) (c := x) x1 (by omega)
  have e : (lnH u ln i x ∧ ¬ K x = 0) = ((ln ≤ lnO u x ∧ lnO u x ≤ (if i = 1 then lnL u else ln)) ∧ ¬ K' x = 0) := by
    apply propext
    rw [hK x x1 (by omega)]
    unfold lnH
    rcases hi with rfl | rfl
    · rw [if_neg (by decide)]
      constructor
      · rintro ⟨h | h, h2⟩
        · omega
        · exact ⟨by omega, h2⟩
      · rintro ⟨h, h2⟩; exact ⟨.inr ⟨rfl, by omega⟩, h2⟩
    · rw [if_pos rfl]
      constructor
      · rintro ⟨h | h, h2⟩
        · exact ⟨by omega, h2⟩
        · omega
      · rintro ⟨h, h2⟩; exact ⟨.inl ⟨rfl, by omega⟩, h2⟩
  unfold ind
  simp only [e]
theorem c_lines {u ln i : Int} (hS : CsS S c p k t o y b m) (hI : CdI g c p k t o y P A sn H) (hj : LcS S j) (hjb : b < j) (hJ : LcI g j u ln i) :
    (i = 1 ∧ ¬ fiN A.1 u (lnL u) (lnL u) = 0 → ∀ Q, Cw X (d + 290) 23 [.ref c, .ref j] (hp S g) Q = Q (.inr 1) (hp (xSx S) g)) ∧
    (¬ (i = 1 ∧ ¬ fiN A.1 u (lnL u) (lnL u) = 0) → ∃ g', (∀ h, y + 25 < h → g' h = g h) ∧ CdI g' c p k t o y P (liS A u ln i) sn (recH A H) ∧ ∀ Q, Cw X (d + 290) 23 [.ref c, .ref j] (hp S g) Q = Q (.inl (some (.int (iI (fiN A.1 u ln (if i = 1 then lnL u else ln)))))) (hp S g')) := by
  have hS' := hS
  obtain ⟨c0, ⟨hp0, hk0, ht0, ho0, hy0⟩, hL⟩ := hS
  obtain ⟨k0, kS, kL⟩ := id hk0
  have b0 := kS.1
  have y0 := hy0.1
  obtain ⟨j0, j1, j2, hu, hi, hl⟩ := id hJ
  obtain ⟨hP, ⟨hC, hM, hA⟩, hT, hSn, hH⟩ := id hI
  have hj' : S.1 j = .inr (5, [none, none, none]) := hj
  have hLr := lnL_rng u
  have tL : ti (lnL u) = lnL u := ti_eq (by omega) (by omega)
  have kl := fun Q => c_lastLine (X := X) (d := d + 289) (g := g) (Q := Q) hj hJ
  obtain ⟨z, hz, kf⟩ := c_filledIn (X := X) (d := d + 288) (g := g) (b := k + 1) (x := lnL u) kS hC.1.1 hj hJ tL
  have hz' : (fiN A.1 u (lnL u) (lnL u) = 0 → z = 0) ∧ (¬ fiN A.1 u (lnL u) (lnL u) = 0 → z = 1) := by
    rcases hz with ⟨ez, hq⟩ | ⟨ez, q, q1, q2, q3, q4⟩
    · refine ⟨fun _ => ez, fun e => absurd (fiN_zero.mpr (fun x x1 x2 l1 l2 => ?_)) e⟩
      have := hq x x1 x2
      rw [(hM.1 x x1 x2).1] at this
      exact Classical.byContradiction fun e' => this ⟨e', by omega⟩
    · refine ⟨fun e => ?_, fun _ => ez⟩
      have := fiN_zero.mp e q q1 q2 (by omega) (by omega)
      rw [(hM.1 q q1 q2).1] at q3
      exact absurd this q3
  have n10 : ¬ (1 : Int) = 0 := by decide
  refine ⟨fun ⟨e1, e2⟩ Q => ?_, fun hne => ?_⟩
  · have ez := hz'.2 e2
    rw [ez] at kf
    rw [e1] at j2
    rw [e23]
    simp (config := { decide := true }) only [w_aload_n1 (pc' := 1) q23 d23_0 rfl, w_getI (pc' := 4) q23 d23_1 rfl f23_306, w_if_eq (tg := 36) (pc' := 7) q23 d23_4 (by decide) rfl, w_aload_n0 (pc' := 8) q23 d23_7 rfl, w_getV (pc' := 11) q23 d23_8 rfl f23_19, w_getV (pc' := 14) q23 d23_11 rfl f23_80, w_aload_n1 (pc' := 15) q23 d23_14 rfl, w_aload_n1 (pc' := 16) q23 d23_15 rfl, w_invv0 (ci := 5) (pc' := 19) q23 d23_16 rfl n23_309 k23_309_5 m94.1, w_invv2 (ci := 9) (pc' := 22) q23 d23_19 rfl n23_312 k23_312_9 m164.1, w_if_eq (tg := 36) (pc' := 25) q23 d23_22 (by decide) rfl, w_throw (ee := 1) q23 d23_25 (by decide +kernel), gs_off, gs_off0, gs_0off, gs_2, xN_0, xN_2, xN_3, xN_6, xN_7, xN_8, xN_9, xN_10, xN_11, xN_12, xN_13, xN_14, xN_15, xN_16, xN_17, xN_18, xN_19, xN_20, xN_21, xN_22, xN_23, xN_24, xN_25, xN_26, xN_27, xN_28, xN_29, xN_30, xN_31, xN_32, xN_33, xN_34, xN_35, xN_36, xN_37, xN_38, xN_39, xN_40, xN_41, xN_42, xN_43, xN_44, xN_45, xN_46, xN_47, xN_48, xN_49, xN_50, xN_51, xN_52, xN_53, xN_54, xN_55, ti_0, ti_1, ti_2, ti_3, ti_4, ti_5, ti_6, ti_7, ti_8, ti_9, ti_10, ti_16, ti_19, ti_20, ti_29, ti_30, ti_31, ti_32, ti_35, ti_36, ti_38, ti_39, ti_40, ti_41, ti_42, ti_43, ti_44, ti_45, ti_46, ti_47, ti_48, ti_49, ti_50, ti_51, ti_52, ti_53, ti_54, ti_55, ti_56, ti_57, ti_58, ti_59, ti_60, ti_61, ti_62, ti_63, ti_64, ti_65, ti_74, ti_77, ti_126, ti_200, ti_201, ti_202, ti_203, ti_204, ti_205, ti_210, ti_255, ti_256, ti_400, ti_512, ti_600, ti_601, ti_602, ti_1000, ti_1023, ti_1024, ti_2000, ti_10000, ti_12602, ti_999999, ti_m999999, ti_m1, ti_2000000, ti_3000000, xN_1, xN_4, xN_5, xN_60, xN_61, xN_64, xN_200, xN_800, xN_12000, xN_12602, eq_self, and_self, and_true, true_and, if_true, if_false, decide_true, Nat.reduceLeDiff, xc2_int, xc2_ref, xc2_ra, xc2_null, xc2_long, xc2_none, xisaT_ref, xisaT_ra, xisaT_null, xc1T_int, xc1T_ref, xc1T_ra, xc1T_null, xsum_nil, xsum_int, xsum_ref, xsum_ra, xsum_long, xsum_double, xsum_null, xfl_nil, xfl_int, xfl_ref, xfl_ra, xfl_null, xfl_long, xfl_double, List.length_cons, List.length_nil, c0, k0, b0, hj', j2, kl, kf, ti_1, n10, xfk, xfv, xak, xan, xcls, xsv', List.getElem?_cons_zero, List.getElem?_cons_succ, List.getD_cons_zero, List.getD_cons_succ, Option.getD_some, Option.isSome_some, if_true, if_pos, xcont, Option.toList_none, Option.toList_some, List.nil_append, List.cons_append]
  · obtain ⟨q, g1, hq, f1, i1, eE, iR, k1⟩ := c_rec (X := X) (d := d + 284) hS' hI
    have kt := fun Q => c_filledTouched (X := X) (d := d + 288) (g := g) (Q := Q) (b := k + 1) kS hC.1.1 hj hJ
    rw [lnH_fi hu hi (fun x x1 x2 => (hM.1 x x1 x2).1)] at kt
    obtain ⟨v, ev⟩ : ∃ v, fiN A.1 u ln (if i = 1 then lnL u else ln) = v := ⟨_, rfl⟩
    rw [ev] at kt ⊢
    have hF1 : g1 j = g j := f1 j (by omega)
    have hJ1 : LcI g1 j u ln i := LcI_congr hF1 hJ
    have hC1 := i1.2.1.1
    have cA := StC_of hC1 i1.2.1.2.1
    have cR : StC g1 (y + 2 + 6 * q) A := StC_rec (StC_of hC hM) eE iR hC.1
    obtain ⟨G, y5, s1, s2, s3, s4⟩ := l_clines (X := X) (d := d) (v := v) hS' hj hjb hu hi hl (by omega) (hy0.2.2 q hq) hJ1 iR cR 200 0 g1 none (by decide) (by decide) StF_refl hC1.1 (StC_E srN_0 cA)
    have hJG : LcI G j u ln i := LcI_congr (s1 j (by omega)) hJ1
    have hR : RwI S G j (lnS u ln i) (lnC u ln i) := .inr (.inr ⟨u, ln, i, hj, hJG, rfl, rfl⟩)
    have hB := srA_ok (s := lnF u ln i) hA (lnF_lt hu hl.1)
    have krw := fun Q => c_rewriteAll (X := X) (d := d + 284) (g := G) (Q := Q) (b := k + 1) kS hR (by omega) (fun x x1 x2 => s2.2.2.2.1 x) (fun x q x1 x2 q1 q2 => StC_okW s3 hB ⟨x1, x2⟩ q1 q2)
    have u1 := StI_gWA hR s2 s3 hB
    have u2 := StC_gWA (f := tkF (lnS u ln i) (lnC u ln i)) s3 s2
    have hok := RwI_ok hR
    have F2 := StF_trans s1 (gWA_F (g := G) (a := k + 1) (n := 200) (f := tkF (lnS u ln i) (lnC u ln i)))
    obtain ⟨g3, f3, i3, k3⟩ := c_chgAllC (X := X) (d := d + 17) hS' i1 (shW_ok hok.1 hok.2 hB) (fun h a1 a2 a3 a4 a5 => F2 h (by omega)) u1 (fun x x1 x2 => (u2 x x1 x2).1) (fun x x1 x2 => (u2 x x1 x2).2) rfl
    refine ⟨g3, fun h hh => (f3 h (by omega)).trans (f1 h (by omega)), i3, fun Q => ?_⟩
    rw [e23]
    rcases hi with e | e
    · rw [e] at j2
      simp (config := { decide := true }) only [w_aload_n1 (pc' := 1) q23 d23_0 rfl, w_getI (pc' := 4) q23 d23_1 rfl f23_306, w_if_eq (tg := 36) (pc' := 7) q23 d23_4 (by decide) rfl, w_aload_n0 (pc' := 8) q23 d23_7 rfl, w_getV (pc' := 11) q23 d23_8 rfl f23_19, w_getV (pc' := 14) q23 d23_11 rfl f23_80, w_aload_n1 (pc' := 15) q23 d23_14 rfl, w_aload_n1 (pc' := 16) q23 d23_15 rfl, w_invv0 (ci := 5) (pc' := 19) q23 d23_16 rfl n23_309 k23_309_5 m94.1, w_invv2 (ci := 9) (pc' := 22) q23 d23_19 rfl n23_312 k23_312_9 m164.1, w_if_eq (tg := 36) (pc' := 25) q23 d23_22 (by decide) rfl, w_throw (ee := 1) q23 d23_25 (by decide +kernel), w_aload_n0 (pc' := 37) q23 d23_36 rfl, w_getV (pc' := 40) q23 d23_37 rfl f23_19, w_getV (pc' := 43) q23 d23_40 rfl f23_80, w_aload_n1 (pc' := 44) q23 d23_43 rfl, w_invv1 (ci := 9) (pc' := 47) q23 d23_44 rfl n23_318 k23_318_9 m165.1, w_istore_n2 (pc' := 48) q23 d23_47 rfl, w_aload_n0 (pc' := 49) q23 d23_48 rfl, w_getV (pc' := 52) q23 d23_49 rfl f23_36, w_aload_n0 (pc' := 53) q23 d23_52 rfl, w_getV (pc' := 56) q23 d23_53 rfl f23_19, w_getV (pc' := 59) q23 d23_56 rfl f23_80, w_invv1 (ci := 4) (pc' := 62) q23 d23_59 rfl n23_83 k23_83_4 m90.1, w_astore_n3 (pc' := 63) q23 d23_62 rfl, w_iconst (pc' := 64) q23 d23_63 rfl, w_istore4 (pc' := 66) q23 d23_64 rfl, gs_off, gs_off0, gs_0off, gs_2, xN_0, xN_2, xN_3, xN_6, xN_7, xN_8, xN_9, xN_10, xN_11, xN_12, xN_13, xN_14, xN_15, xN_16, xN_17, xN_18, xN_19, xN_20, xN_21, xN_22, xN_23, xN_24, xN_25, xN_26, xN_27, xN_28, xN_29, xN_30, xN_31, xN_32, xN_33, xN_34, xN_35, xN_36, xN_37, xN_38, xN_39, xN_40, xN_41, xN_42, xN_43, xN_44, xN_45, xN_46, xN_47, xN_48, xN_49, xN_50, xN_51, xN_52, xN_53, xN_54, xN_55, ti_0, ti_1, ti_2, ti_3, ti_4, ti_5, ti_6, ti_7, ti_8, ti_9, ti_10, ti_16, ti_19, ti_20, ti_29, ti_30, ti_31, ti_32, ti_35, ti_36, ti_38, ti_39, ti_40, ti_41, ti_42, ti_43, ti_44, ti_45, ti_46, ti_47, ti_48, ti_49, ti_50, ti_51, ti_52, ti_53, ti_54, ti_55, ti_56, ti_57, ti_58, ti_59, ti_60, ti_61, ti_62, ti_63, ti_64, ti_65, ti_74, ti_77, ti_126, ti_200, ti_201, ti_202, ti_203, ti_204, ti_205, ti_210, ti_255, ti_256, ti_400, ti_512, ti_600, ti_601, ti_602, ti_1000, ti_1023, ti_1024, ti_2000, ti_10000, ti_12602, ti_999999, ti_m999999, ti_m1, ti_2000000, ti_3000000, xN_1, xN_4, xN_5, xN_60, xN_61, xN_64, xN_200, xN_800, xN_12000, xN_12602, eq_self, and_self, and_true, true_and, if_true, if_false, decide_true, Nat.reduceLeDiff, xc2_int, xc2_ref, xc2_ra, xc2_null, xc2_long, xc2_none, xisaT_ref, xisaT_ra, xisaT_null, xc1T_int, xc1T_ref, xc1T_ra, xc1T_null, xsum_nil, xsum_int, xsum_ref, xsum_ra, xsum_long, xsum_double, xsum_null, xfl_nil, xfl_int, xfl_ref, xfl_ra, xfl_null, xfl_long, xfl_double, List.length_cons, List.length_nil, c0, k0, b0, y0, hj', j2, ti_0, kt, k1, xfk, xfv, xak, xan, xcls, xsv', List.getElem?_cons_zero, List.getElem?_cons_succ, List.getD_cons_zero, List.getD_cons_succ, Option.getD_some, Option.isSome_some, if_true, if_pos, xcont, Option.toList_none, Option.toList_some, List.nil_append, List.cons_append]
      rw [s4 Q]
      simp (config := { decide := true }) only [w_aload_n0 (pc' := 124) q23 d23_123 rfl, w_getV (pc' := 127) q23 d23_124 rfl f23_19, w_getV (pc' := 130) q23 d23_127 rfl f23_80, w_aload_n1 (pc' := 131) q23 d23_130 rfl, w_invv1 (ci := 9) (pc' := 134) q23 d23_131 rfl n23_129 k23_129_9 m163.1, w_pop (pc' := 135) q23 d23_134 rfl, w_aload_n0 (pc' := 136) q23 d23_135 rfl, w_getV (pc' := 139) q23 d23_136 rfl f23_19, w_invv0 (ci := 2) (pc' := 142) q23 d23_139 rfl n23_121 k23_121_2 m83.1, w_pop (pc' := 143) q23 d23_142 rfl, w_iload_n2 (pc' := 144) q23 d23_143 rfl, w_ireturn q23 d23_144 m23.2.1, gs_off, gs_off0, gs_0off, gs_2, xN_0, xN_2, xN_3, xN_6, xN_7, xN_8, xN_9, xN_10, xN_11, xN_12, xN_13, xN_14, xN_15, xN_16, xN_17, xN_18, xN_19, xN_20, xN_21, xN_22, xN_23, xN_24, xN_25, xN_26, xN_27, xN_28, xN_29, xN_30, xN_31, xN_32, xN_33, xN_34, xN_35, xN_36, xN_37, xN_38, xN_39, xN_40, xN_41, xN_42, xN_43, xN_44, xN_45, xN_46, xN_47, xN_48, xN_49, xN_50, xN_51, xN_52, xN_53, xN_54, xN_55, ti_0, ti_1, ti_2, ti_3, ti_4, ti_5, ti_6, ti_7, ti_8, ti_9, ti_10, ti_16, ti_19, ti_20, ti_29, ti_30, ti_31, ti_32, ti_35, ti_36, ti_38, ti_39, ti_40, ti_41, ti_42, ti_43, ti_44, ti_45, ti_46, ti_47, ti_48, ti_49, ti_50, ti_51, ti_52, ti_53, ti_54, ti_55, ti_56, ti_57, ti_58, ti_59, ti_60, ti_61, ti_62, ti_63, ti_64, ti_65, ti_74, ti_77, ti_126, ti_200, ti_201, ti_202, ti_203, ti_204, ti_205, ti_210, ti_255, ti_256, ti_400, ti_512, ti_600, ti_601, ti_602, ti_1000, ti_1023, ti_1024, ti_2000, ti_10000, ti_12602, ti_999999, ti_m999999, ti_m1, ti_2000000, ti_3000000, xN_1, xN_4, xN_5, xN_60, xN_61, xN_64, xN_200, xN_800, xN_12000, xN_12602, eq_self, and_self, and_true, true_and, if_true, if_false, decide_true, Nat.reduceLeDiff, xc2_int, xc2_ref, xc2_ra, xc2_null, xc2_long, xc2_none, xisaT_ref, xisaT_ra, xisaT_null, xc1T_int, xc1T_ref, xc1T_ra, xc1T_null, xsum_nil, xsum_int, xsum_ref, xsum_ra, xsum_long, xsum_double, xsum_null, xfl_nil, xfl_int, xfl_ref, xfl_ra, xfl_null, xfl_long, xfl_double, List.length_cons, List.length_nil, c0, k0, b0, hj', krw, k3, xfk, xfv, xak, xan, xcls, xsv', List.getElem?_cons_zero, List.getElem?_cons_succ, List.getD_cons_zero, List.getD_cons_succ, Option.getD_some, Option.isSome_some, if_true, if_pos, xcont, Option.toList_none, Option.toList_some, List.nil_append, List.cons_append]
    · have ez := hz'.1 (Classical.byContradiction fun e2 => hne ⟨e, e2⟩)
      rw [ez] at kf
      rw [e] at j2
      simp (config := { decide := true }) only [w_aload_n1 (pc' := 1) q23 d23_0 rfl, w_getI (pc' := 4) q23 d23_1 rfl f23_306, w_if_eq (tg := 36) (pc' := 7) q23 d23_4 (by decide) rfl, w_aload_n0 (pc' := 8) q23 d23_7 rfl, w_getV (pc' := 11) q23 d23_8 rfl f23_19, w_getV (pc' := 14) q23 d23_11 rfl f23_80, w_aload_n1 (pc' := 15) q23 d23_14 rfl, w_aload_n1 (pc' := 16) q23 d23_15 rfl, w_invv0 (ci := 5) (pc' := 19) q23 d23_16 rfl n23_309 k23_309_5 m94.1, w_invv2 (ci := 9) (pc' := 22) q23 d23_19 rfl n23_312 k23_312_9 m164.1, w_if_eq (tg := 36) (pc' := 25) q23 d23_22 (by decide) rfl, w_throw (ee := 1) q23 d23_25 (by decide +kernel), w_aload_n0 (pc' := 37) q23 d23_36 rfl, w_getV (pc' := 40) q23 d23_37 rfl f23_19, w_getV (pc' := 43) q23 d23_40 rfl f23_80, w_aload_n1 (pc' := 44) q23 d23_43 rfl, w_invv1 (ci := 9) (pc' := 47) q23 d23_44 rfl n23_318 k23_318_9 m165.1, w_istore_n2 (pc' := 48) q23 d23_47 rfl, w_aload_n0 (pc' := 49) q23 d23_48 rfl, w_getV (pc' := 52) q23 d23_49 rfl f23_36, w_aload_n0 (pc' := 53) q23 d23_52 rfl, w_getV (pc' := 56) q23 d23_53 rfl f23_19, w_getV (pc' := 59) q23 d23_56 rfl f23_80, w_invv1 (ci := 4) (pc' := 62) q23 d23_59 rfl n23_83 k23_83_4 m90.1, w_astore_n3 (pc' := 63) q23 d23_62 rfl, w_iconst (pc' := 64) q23 d23_63 rfl, w_istore4 (pc' := 66) q23 d23_64 rfl, gs_off, gs_off0, gs_0off, gs_2, xN_0, xN_2, xN_3, xN_6, xN_7, xN_8, xN_9, xN_10, xN_11, xN_12, xN_13, xN_14, xN_15, xN_16, xN_17, xN_18, xN_19, xN_20, xN_21, xN_22, xN_23, xN_24, xN_25, xN_26, xN_27, xN_28, xN_29, xN_30, xN_31, xN_32, xN_33, xN_34, xN_35, xN_36, xN_37, xN_38, xN_39, xN_40, xN_41, xN_42, xN_43, xN_44, xN_45, xN_46, xN_47, xN_48, xN_49, xN_50, xN_51, xN_52, xN_53, xN_54, xN_55, ti_0, ti_1, ti_2, ti_3, ti_4, ti_5, ti_6, ti_7, ti_8, ti_9, ti_10, ti_16, ti_19, ti_20, ti_29, ti_30, ti_31, ti_32, ti_35, ti_36, ti_38, ti_39, ti_40, ti_41, ti_42, ti_43, ti_44, ti_45, ti_46, ti_47, ti_48, ti_49, ti_50, ti_51, ti_52, ti_53, ti_54, ti_55, ti_56, ti_57, ti_58, ti_59, ti_60, ti_61, ti_62, ti_63, ti_64, ti_65, ti_74, ti_77, ti_126, ti_200, ti_201, ti_202, ti_203, ti_204, ti_205, ti_210, ti_255, ti_256, ti_400, ti_512, ti_600, ti_601, ti_602, ti_1000, ti_1023, ti_1024, ti_2000, ti_10000, ti_12602, ti_999999, ti_m999999, ti_m1, ti_2000000, ti_3000000, xN_1, xN_4, xN_5, xN_60, xN_61, xN_64, xN_200, xN_800, xN_12000, xN_12602, eq_self, and_self, and_true, true_and, if_true, if_false, decide_true, Nat.reduceLeDiff, xc2_int, xc2_ref, xc2_ra, xc2_null, xc2_long, xc2_none, xisaT_ref, xisaT_ra, xisaT_null, xc1T_int, xc1T_ref, xc1T_ra, xc1T_null, xsum_nil, xsum_int, xsum_ref, xsum_ra, xsum_long, xsum_double, xsum_null, xfl_nil, xfl_int, xfl_ref, xfl_ra, xfl_null, xfl_long, xfl_double, List.length_cons, List.length_nil, c0, k0, b0, y0, hj', j2, kl, kf, ti_0, ti_1, n10, kt, k1, xfk, xfv, xak, xan, xcls, xsv', List.getElem?_cons_zero, List.getElem?_cons_succ, List.getD_cons_zero, List.getD_cons_succ, Option.getD_some, Option.isSome_some, if_true, if_pos, xcont, Option.toList_none, Option.toList_some, List.nil_append, List.cons_append]
      rw [s4 Q]
      simp (config := { decide := true }) only [w_aload_n0 (pc' := 124) q23 d23_123 rfl, w_getV (pc' := 127) q23 d23_124 rfl f23_19, w_getV (pc' := 130) q23 d23_127 rfl f23_80, w_aload_n1 (pc' := 131) q23 d23_130 rfl, w_invv1 (ci := 9) (pc' := 134) q23 d23_131 rfl n23_129 k23_129_9 m163.1, w_pop (pc' := 135) q23 d23_134 rfl, w_aload_n0 (pc' := 136) q23 d23_135 rfl, w_getV (pc' := 139) q23 d23_136 rfl f23_19, w_invv0 (ci := 2) (pc' := 142) q23 d23_139 rfl n23_121 k23_121_2 m83.1, w_pop (pc' := 143) q23 d23_142 rfl, w_iload_n2 (pc' := 144) q23 d23_143 rfl, w_ireturn q23 d23_144 m23.2.1, gs_off, gs_off0, gs_0off, gs_2, xN_0, xN_2, xN_3, xN_6, xN_7, xN_8, xN_9, xN_10, xN_11, xN_12, xN_13, xN_14, xN_15, xN_16, xN_17, xN_18, xN_19, xN_20, xN_21, xN_22, xN_23, xN_24, xN_25, xN_26, xN_27, xN_28, xN_29, xN_30, xN_31, xN_32, xN_33, xN_34, xN_35, xN_36, xN_37, xN_38, xN_39, xN_40, xN_41, xN_42, xN_43, xN_44, xN_45, xN_46, xN_47, xN_48, xN_49, xN_50, xN_51, xN_52, xN_53, xN_54, xN_55, ti_0, ti_1, ti_2, ti_3, ti_4, ti_5, ti_6, ti_7, ti_8, ti_9, ti_10, ti_16, ti_19, ti_20, ti_29, ti_30, ti_31, ti_32, ti_35, ti_36, ti_38, ti_39, ti_40, ti_41, ti_42, ti_43, ti_44, ti_45, ti_46, ti_47, ti_48, ti_49, ti_50, ti_51, ti_52, ti_53, ti_54, ti_55, ti_56, ti_57, ti_58, ti_59, ti_60, ti_61, ti_62, ti_63, ti_64, ti_65, ti_74, ti_77, ti_126, ti_200, ti_201, ti_202, ti_203, ti_204, ti_205, ti_210, ti_255, ti_256, ti_400, ti_512, ti_600, ti_601, ti_602, ti_1000, ti_1023, ti_1024, ti_2000, ti_10000, ti_12602, ti_999999, ti_m999999, ti_m1, ti_2000000, ti_3000000, xN_1, xN_4, xN_5, xN_60, xN_61, xN_64, xN_200, xN_800, xN_12000, xN_12602, eq_self, and_self, and_true, true_and, if_true, if_false, decide_true, Nat.reduceLeDiff, xc2_int, xc2_ref, xc2_ra, xc2_null, xc2_long, xc2_none, xisaT_ref, xisaT_ra, xisaT_null, xc1T_int, xc1T_ref, xc1T_ra, xc1T_null, xsum_nil, xsum_int, xsum_ref, xsum_ra, xsum_long, xsum_double, xsum_null, xfl_nil, xfl_int, xfl_ref, xfl_ra, xfl_null, xfl_long, xfl_double, List.length_cons, List.length_nil, c0, k0, b0, hj', krw, k3, xfk, xfv, xak, xan, xcls, xsv', List.getElem?_cons_zero, List.getElem?_cons_succ, List.getD_cons_zero, List.getD_cons_succ, Option.getD_some, Option.isSome_some, if_true, if_pos, xcont, Option.toList_none, Option.toList_some, List.nil_append, List.cons_append]
end
