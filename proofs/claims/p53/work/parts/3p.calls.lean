/-! Calculation: its calls -/
section
variable {X : xX} {S : xLm} {g : xGm}
def SolC (g : xGm) (k : Nat) : Prop := Sol (g (k + 1 + 1)) (tkl g (k + 1)) (g (k + 1 + 3)) (g (k + 1 + 2)) (g (k + 7 + 3)) (g (k + 7) 4)
/-- a Calculation that is right -/
def ClI (g : xGm) (k : Nat) : Prop := StI g (k + 1) ∧ VfA (g (k + 1 + 1)) (tkl g (k + 1)) ∧ LkI (FmA (g (k + 1 + 1))) (RfA (g (k + 1 + 1)) (tkl g (k + 1))) g (k + 7) ∧ LkR g (k + 7) ∧ SolC g k
theorem LkI_congr {F : Int → Bool} {R : Int → Int → Prop} {g g' : xGm} {l : Nat} (h : ∀ h, l ≤ h → h ≤ l + 5 → g' h = g h) (hL : LkI F R g l) : LkI F R g' l := by
  unfold LkI OrI rg at hL ⊢
  rw [h l (by omega) (by omega), h (l + 1) (by omega) (by omega), h (l + 2) (by omega) (by omega), h (l + 3) (by omega) (by omega), h (l + 4) (by omega) (by omega), h (l + 5) (by omega) (by omega)]
  exact hL
theorem LkI_sol {F : Int → Bool} {R : Int → Int → Prop} {g : xGm} {l : Nat} (hL : LkI F R g l) : OdF F R (g (l + 3)) (g l 4) ∧ 0 ≤ g l 4 ∧ onx F R (g (l + 3)) (g l 4) < 0 := ⟨hL.2.2.2.2.1.2.1, hL.2.2.2.1.1, hL.2.2.2.2.2.2⟩
theorem LkR_of {F : Int → Bool} {R : Int → Int → Prop} {g : xGm} {l : Nat} (hL : LkI F R g l) (h6 : rg g (l + 6) 0 1) (h7 : rg g (l + 7) 0 199) : LkR g l := ⟨hL.2.2.1, hL.2.2.2.2.1.2.2.2.2.1, hL.2.2.2.2.1.2.2.2.2.2, hL.2.2.2.2.2.1, h6, h7⟩
theorem StI_congr {g g' : xGm} {b : Nat} (h : ∀ j, 1 ≤ j → j ≤ 5 → g' (b + j) = g (b + j)) (hI : StI g b) : StI g' b := by
  unfold StI rg at hI ⊢
  rw [h 1 (by omega) (by omega), h 2 (by omega) (by omega), h 3 (by omega) (by omega), h 4 (by omega) (by omega), h 5 (by omega) (by omega)]
  exact hI
theorem tkl_congr {g g' : xGm} {b b' : Nat} (h4 : g' (b' + 4) = g (b + 4)) (h5 : g' (b' + 5) = g (b + 5)) : tkl g' b' = tkl g b := by
  funext c
  unfold tkl
  rw [h4, h5]
/-- how many are computed from d on -/
noncomputable def cnF (K : Int → Int) (T : Int → List Int) (d : Int) : Int := sumf (ind (fun x => cb (K x = 2 ∧ (Rc (UsE (FmA K) (RfA K T)) d x ∨ x = d)))) 0 200
theorem CmP_A {g g' : xGm} {k : Nat} {M : Int → Prop} (h : CmP g g' k) (hM : ∀ c, 0 ≤ c → c < 200 → (g (k + 7 + 6) c = 1 ↔ M c)) : CmA (g (k + 1 + 1)) (tkl g (k + 1)) M (g (k + 1 + 3)) (g (k + 1 + 2)) (g' (k + 1 + 3)) (g' (k + 1 + 2)) (g (k + 7 + 3)) (g (k + 7) 4) := fun c c1 c2 => by
  obtain ⟨a1, a2, a3⟩ := h c c1 c2
  rw [hM c c1 c2] at a1 a2 a3
  exact ⟨a1, a2, a3⟩
theorem c_computeFrom {k D : Nat} {c : Int} {K0 Er0 R0 r0 : Int → Int} {T0 : Int → List Int} {n0 : Int} (hS : ClS S k) (hI : StI g (k + 1)) (hV : VfA (g (k + 1 + 1)) (tkl g (k + 1))) (hR : LkR g (k + 7)) (hc : 0 ≤ c) (hc2 : c < 200) (h0 : Sol K0 T0 Er0 R0 r0 n0)
    (hoff : ∀ x, 0 ≤ x → x < 200 → ¬ x = c → g (k + 1 + 1) x = K0 x ∧ tkl g (k + 1) x = T0 x ∧ g (k + 1 + 3) x = Er0 x ∧ g (k + 1 + 2) x = R0 x) (hd : ¬ g (k + 1 + 1) c = 2 → g (k + 1 + 3) c = 0 ∧ (g (k + 1 + 1) c = 0 → g (k + 1 + 2) c = 0)) (hD : 272 ≤ D) :
    ∃ g', (∀ h, ¬ h = k → ¬ h = k + 1 → ¬ h = k + 1 + 2 → ¬ h = k + 1 + 3 → (h < k + 7 ∨ k + 7 + 7 < h) → g' h = g h) ∧ (g' (k + 1) 5 = cnF (g (k + 1 + 1)) (tkl g (k + 1)) c ∧ g' (k + 1) 6 = g (k + 1) 6 + cnF (g (k + 1 + 1)) (tkl g (k + 1)) c) ∧ (∀ x, 0 ≤ x → x < 200 → ¬ g (k + 1 + 1) x = 2 → g' (k + 1 + 2) x = g (k + 1 + 2) x) ∧ ClI g' k ∧
      (∀ x, 0 ≤ x → x < 200 → g (k + 1 + 1) x = 2 → (g' (k + 7 + 6) x = 1 ↔ (Rc (UsE (FmA (g (k + 1 + 1))) (RfA (g (k + 1 + 1)) (tkl g (k + 1)))) c x ∨ x = c))) ∧
      ∀ Q, Cw X D 63 [.ref k, .int (iI c)] (hp S g) Q = Q (.inl (some (.int (iI (cnF (g (k + 1 + 1)) (tkl g (k + 1)) c))))) (hp S g') := by
  obtain ⟨k0, hB, hK⟩ := id hS
  obtain ⟨b0, b1, b2, b3, b4, b5⟩ := id hB
  obtain ⟨l0, l1, l2, l3, l4, l5, l6, l7, l8⟩ := id hK
  obtain ⟨D, rfl⟩ : ∃ D', D = D' + 4 := ⟨D - 4, by omega⟩
  have tc : ti c = c := ti_eq (by omega) (by omega)
  obtain ⟨g1, f1, f2, f3⟩ := c_build (X := X) (d := D) hK hB (by omega) hI hR
  rw [fmC_eq, rfC_eq] at f2
  have hnr := ind_rng (FmA (g (k + 1 + 1))) 200 0
  have hn1 := f2.2.1.1
  obtain ⟨g2, e1, e2, e3, e4, e5⟩ := c_usersOf (X := X) (d := D + 1) (g := g1) hK hc hc2 rfl (by omega) (by omega) f2.2.2.1 (by unfold rg; rw [f1 _ (by omega)]; exact hR.2.2.2.2.1) (by unfold rg; rw [f1 _ (by omega)]; exact hR.2.2.2.2.2)
  have hk2 : g2 (k + 1 + 1) = g (k + 1 + 1) := by rw [e1 _ (by omega) (by omega), f1 _ (by omega)]
  have hkc := hI.1 c
  have tk : ti (g (k + 1 + 1) c) = g (k + 1 + 1) c := ti_eq (by omega) (by omega)
  have hMc := e2 c
  obtain ⟨g3, eg3⟩ : ∃ g3, g3 = if g (k + 1 + 1) c = 2 then gs g2 (k + 7 + 6) c 1 else g2 := ⟨_, rfl⟩
  have r3 : ∀ h, ¬ h = k + 7 + 6 → g3 h = g2 h := fun h hh => by
    rw [eg3]; split
    · exact gs_row _ _ _ hh
    · rfl
  have r36 : ∀ x, 0 ≤ x → x < 200 → (g3 (k + 7 + 6) x = 1 ↔ (Rc (UsE (FmA (g (k + 1 + 1))) (RfA (g (k + 1 + 1)) (tkl g (k + 1)))) c x ∨ (x = c ∧ g (k + 1 + 1) c = 2))) := fun x x1 x2 => by
    have := e4 x x1 x2
    rw [UsE_Rc f2 hc hc2] at this
    rw [eg3]; split
    · next hk =>
      rw [gs_at]
      by_cases e : x = c
      · rw [if_pos e]; exact ⟨fun _ => .inr ⟨e, hk⟩, fun _ => rfl⟩
      · rw [if_neg e, this]
        exact ⟨.inl, fun h => h.elim id (fun h => absurd h.1 e)⟩
    · next hk =>
      rw [this]
      exact ⟨.inl, fun h => h.elim id (fun h => absurd h.2 hk)⟩
  have r36r : rg g3 (k + 7 + 6) 0 1 := fun j => by
    rw [eg3]; split
    · rw [gs_at]; split
      · omega
      · exact e2 j
    · exact e2 j
  have s3 : ∀ h, (h < k + 7 ∨ k + 7 + 7 < h) → g3 h = g h := fun h hh => by rw [r3 h (by omega), e1 h (by omega) (by omega), f1 h (by omega)]
  have t3 : ∀ h, k + 7 ≤ h → h ≤ k + 7 + 5 → g3 h = g1 h := fun h h1 h2 => by rw [r3 h (by omega), e1 h (by omega) (by omega)]
  have hL3 : LkI (FmA (g (k + 1 + 1))) (RfA (g (k + 1 + 1)) (tkl g (k + 1))) g3 (k + 7) := LkI_congr t3 f2
  have hI3 : StI g3 (k + 1) := StI_congr (fun j _ _ => s3 _ (by omega)) hI
  have ek3 : g3 (k + 1 + 1) = g (k + 1 + 1) := s3 _ (by omega)
  have et3 : tkl g3 (k + 1) = tkl g (k + 1) := tkl_congr (s3 _ (by omega)) (s3 _ (by omega))
  obtain ⟨g4, p1, p2, p3, p4⟩ := c_computeMarked (X := X) (g := g3) (D := D + 3) hS hI3 (by rw [fmC_eq, rfC_eq, ek3, et3]; exact hL3) (by unfold VF; rw [ek3, et3]; exact hV) r36r (by omega)
  have hcnt : sumf (fun x => if fmC g3 (k + 1) x = true then g3 (k + 7 + 6) x else 0) 0 200 = cnF (g (k + 1 + 1)) (tkl g (k + 1)) c := by
    unfold cnF
    refine sumf_congr 200 0 (fun x x1 x2 => ?_)
    unfold ind
    rw [fmC_eq, ek3]
    have hm := r36 x x1 (by omega)
    have hmr := r36r x
    by_cases hk : g (k + 1 + 1) x = 2
    · rw [if_pos (show FmA (g (k + 1 + 1)) x = true from decide_eq_true hk)]
      by_cases hm1 : g3 (k + 7 + 6) x = 1
      · rw [hm1, if_pos]
        rw [cb_iff]
        refine ⟨hk, (hm.mp hm1).elim .inl (fun h => .inr h.1)⟩
      · rw [if_neg]
        · omega
        · rw [cb_iff]
          exact fun h => hm1 (hm.mpr (h.2.elim .inl (fun e => .inr ⟨e, by rw [← e]; exact hk⟩)))
    · rw [if_neg (show ¬ FmA (g (k + 1 + 1)) x = true from fun h => hk (of_decide_eq_true h)), if_neg]
      rw [cb_iff]
      exact fun h => hk h.1
  rw [hcnt] at p4
  obtain ⟨cnt, ecnt⟩ : ∃ cnt, cnF (g (k + 1 + 1)) (tkl g (k + 1)) c = cnt := ⟨_, rfl⟩
  rw [ecnt] at p4 ⊢
  have s4 : ∀ h, ¬ h = k → ¬ h = k + 1 + 2 → ¬ h = k + 1 + 3 → (h < k + 7 ∨ k + 7 + 7 < h) → g4 h = g h := fun h a1 a2 a3 a4 => by rw [p1 h a1 a2 a3, s3 h a4]
  obtain ⟨g5, eg5⟩ : ∃ g5, g5 = gs (gs g4 (k + 1) 5 cnt) (k + 1) 6 (g4 (k + 1) 6 + cnt) := ⟨_, rfl⟩
  have r5 : ∀ h, ¬ h = k + 1 → g5 h = g4 h := fun h hh => by rw [eg5, gs_row _ _ _ hh, gs_row _ _ _ hh]
  have hA := CmP_A p3 (M := fun x => Rc (UsE (FmA (g (k + 1 + 1))) (RfA (g (k + 1 + 1)) (tkl g (k + 1)))) c x ∨ (x = c ∧ g (k + 1 + 1) c = 2)) r36
  rw [ek3, et3, s3 (k + 1 + 3) (by omega), s3 (k + 1 + 2) (by omega)] at hA
  obtain ⟨o1, o2, o3⟩ := LkI_sol hL3
  have hSol := Sol_from h0 o1 o2 o3 hV hoff hd (fun x x1 x2 hx hh => by
    rcases hh with e | ⟨b, y1, y2, y3, y4⟩
    · exact .inr ⟨e, by rw [← e]; exact hx⟩
    · left
      rcases y4 with e | ⟨y5, y6⟩
      · subst e; exact Rc_one ⟨y1, y2, x1, x2, decide_eq_true hx, y3⟩
      · rcases y6 with y6 | ⟨e, _⟩
        · exact Rc_step y6 ⟨y1, y2, x1, x2, decide_eq_true hx, y3⟩
        · subst e; exact Rc_one ⟨y1, y2, x1, x2, decide_eq_true hx, y3⟩) hA
  have q4 : ∀ h, k + 7 ≤ h → g5 h = g3 h := fun h hh => by rw [r5 h (by omega), p1 h (by omega) (by omega) (by omega)]
  have q5 : ∀ j, 1 ≤ j → j ≤ 5 → ¬ j = 2 → ¬ j = 3 → g5 (k + 1 + j) = g (k + 1 + j) := fun j j1 j2 j3 j4 => by rw [r5 _ (by omega), s4 _ (by omega) (by omega) (by omega) (by omega)]
  have ek5 : g5 (k + 1 + 1) = g (k + 1 + 1) := q5 1 (by omega) (by omega) (by omega) (by omega)
  have et5 : tkl g5 (k + 1) = tkl g (k + 1) := tkl_congr (q5 4 (by omega) (by omega) (by omega) (by omega)) (q5 5 (by omega) (by omega) (by omega) (by omega))
  refine ⟨g5, fun h a1 a2 a3 a4 a5 => by rw [r5 h a2, s4 h a1 a3 a4 a5], ⟨?_, ?_⟩, fun x x1 x2 hx => ?_, ⟨?_, ?_, ?_, ?_, ?_⟩, fun x x1 x2 hx => ?_, fun Q => ?_⟩
  · rw [eg5, gs_at, if_neg (by decide), gs_at, if_pos rfl]
  · rw [eg5, gs_at, if_pos rfl, s4 _ (by omega) (by omega) (by omega) (by omega)]
  · rw [r5 _ (by omega), ((hA x x1 x2).1 (fun h => hx h.1)).2]
  · exact StI_congr (fun j j1 j2 => r5 _ (by omega)) p2
  · rw [ek5, et5]; exact hV
  · rw [ek5, et5]
    exact LkI_congr (fun h h1 h2 => q4 h h1) hL3
  · refine LkR_of (LkI_congr (fun h h1 h2 => q4 h h1) hL3) ?_ ?_
    · unfold rg; rw [q4 _ (by omega)]; exact r36r
    · unfold rg; rw [q4 _ (by omega), r3 _ (by omega)]; exact e3
  · unfold SolC
    rw [ek5, et5, q4 (k + 7 + 3) (by omega), q4 (k + 7) (by omega), r5 (k + 1 + 3) (by omega), r5 (k + 1 + 2) (by omega)]
    exact hSol
  · rw [q4 _ (by omega), r36 x x1 x2]
    exact ⟨fun h => h.elim .inl (fun h => .inr h.1), fun h => h.elim .inl (fun e => .inr ⟨e, by rw [← e]; exact hx⟩)⟩
  · have z1 : xnz 1 = 1 := by decide
    rw [e63]
    by_cases hk : g (k + 1 + 1) c = 2
    · rw [if_pos hk] at eg3
      have hk2' : g2 (k + 1 + 1) c = 2 := by rw [hk2]; exact hk
      simp (config := { decide := true }) only [w_aload_n0 (pc' := 1) q63 d63_0 rfl, w_getV (pc' := 4) q63 d63_1 rfl f63_21, w_aload_n0 (pc' := 5) q63 d63_4 rfl, w_getV (pc' := 8) q63 d63_5 rfl f63_14, w_invv1 (ci := 6) (pc' := 11) q63 d63_8 rfl n63_29 k63_29_6 m100.1, w_aload_n0 (pc' := 12) q63 d63_11 rfl, w_getV (pc' := 15) q63 d63_12 rfl f63_21, w_iload_n1 (pc' := 16) q63 d63_15 rfl, w_invv1 (ci := 6) (pc' := 19) q63 d63_16 rfl n63_43 k63_43_6 m108.1, w_aload_n0 (pc' := 20) q63 d63_19 rfl, w_getV (pc' := 23) q63 d63_20 rfl f63_14, w_getV (pc' := 26) q63 d63_23 rfl f63_46, w_iload_n1 (pc' := 27) q63 d63_26 rfl, w_iaload (pc' := 28) q63 d63_27 rfl, w_iconst (pc' := 29) q63 d63_28 rfl, w_icmp_ne (tg := 42) (pc' := 32) q63 d63_29 (by decide) rfl, w_aload_n0 (pc' := 33) q63 d63_32 rfl, w_getV (pc' := 36) q63 d63_33 rfl f63_21, w_getV (pc' := 39) q63 d63_36 rfl f63_50, w_iload_n1 (pc' := 40) q63 d63_39 rfl, w_iconst (pc' := 41) q63 d63_40 rfl, w_zastore (pc' := 42) q63 d63_41 rfl, w_bastore (pc' := 42) q63 d63_41 rfl, w_aload_n0 (pc' := 43) q63 d63_42 rfl, w_invv0 (ci := 2) (pc' := 46) q63 d63_43 rfl n63_35 k63_35_2 m64.1, w_istore_n2 (pc' := 47) q63 d63_46 rfl, w_aload_n0 (pc' := 48) q63 d63_47 rfl, w_getV (pc' := 51) q63 d63_48 rfl f63_14, w_iload_n2 (pc' := 52) q63 d63_51 rfl, w_invv1 (ci := 9) (pc' := 55) q63 d63_52 rfl n63_39 k63_39_9 m158.1, w_iload_n2 (pc' := 56) q63 d63_55 rfl, w_ireturn q63 d63_56 m63.2.1, gs_off, gs_off0, gs_0off, gs_2, xN_0, xN_2, xN_3, xN_6, xN_7, xN_8, xN_9, xN_10, xN_11, xN_12, xN_13, xN_14, xN_15, xN_16, xN_17, xN_18, xN_19, xN_20, xN_21, xN_22, xN_23, xN_24, xN_25, xN_26, xN_27, xN_28, xN_29, xN_30, xN_31, xN_32, xN_33, xN_34, xN_35, xN_36, xN_37, xN_38, xN_39, xN_40, xN_41, xN_42, xN_43, xN_44, xN_45, xN_46, xN_47, xN_48, xN_49, xN_50, xN_51, xN_52, xN_53, xN_54, xN_55, ti_0, ti_1, ti_2, ti_3, ti_4, ti_5, ti_6, ti_7, ti_8, ti_9, ti_10, ti_16, ti_19, ti_20, ti_29, ti_30, ti_31, ti_32, ti_35, ti_36, ti_38, ti_39, ti_40, ti_41, ti_42, ti_43, ti_44, ti_45, ti_46, ti_47, ti_48, ti_49, ti_50, ti_51, ti_52, ti_53, ti_54, ti_55, ti_56, ti_57, ti_58, ti_59, ti_60, ti_61, ti_62, ti_63, ti_64, ti_65, ti_74, ti_77, ti_126, ti_200, ti_201, ti_202, ti_203, ti_204, ti_205, ti_210, ti_255, ti_256, ti_400, ti_512, ti_600, ti_601, ti_602, ti_1000, ti_1023, ti_1024, ti_2000, ti_10000, ti_12602, ti_999999, ti_m999999, ti_m1, ti_2000000, ti_3000000, xN_1, xN_4, xN_5, xN_60, xN_61, xN_64, xN_200, xN_800, xN_12000, xN_12602, eq_self, and_self, and_true, true_and, if_true, if_false, decide_true, Nat.reduceLeDiff, xc2_int, xc2_ref, xc2_ra, xc2_null, xc2_long, xc2_none, xisaT_ref, xisaT_ra, xisaT_null, xc1T_int, xc1T_ref, xc1T_ra, xc1T_null, xsum_nil, xsum_int, xsum_ref, xsum_ra, xsum_long, xsum_double, xsum_null, xfl_nil, xfl_int, xfl_ref, xfl_ra, xfl_null, xfl_long, xfl_double, List.length_cons, List.length_nil, k0, b0, b1, l0, l6, f3, e5, tc, hc, hc2, hk2', z1, not_true_eq_false, ← eg3, p4, c_noteComputed hB, ← eg5, xfk, xfv, xak, xan, xcls, xsv', List.getElem?_cons_zero, List.getElem?_cons_succ, List.getD_cons_zero, List.getD_cons_succ, Option.getD_some, Option.isSome_some, if_true, if_pos, xcont, Option.toList_none, Option.toList_some, List.nil_append, List.cons_append]
    · rw [if_neg hk] at eg3
      subst eg3
      simp (config := { decide := true }) only [w_aload_n0 (pc' := 1) q63 d63_0 rfl, w_getV (pc' := 4) q63 d63_1 rfl f63_21, w_aload_n0 (pc' := 5) q63 d63_4 rfl, w_getV (pc' := 8) q63 d63_5 rfl f63_14, w_invv1 (ci := 6) (pc' := 11) q63 d63_8 rfl n63_29 k63_29_6 m100.1, w_aload_n0 (pc' := 12) q63 d63_11 rfl, w_getV (pc' := 15) q63 d63_12 rfl f63_21, w_iload_n1 (pc' := 16) q63 d63_15 rfl, w_invv1 (ci := 6) (pc' := 19) q63 d63_16 rfl n63_43 k63_43_6 m108.1, w_aload_n0 (pc' := 20) q63 d63_19 rfl, w_getV (pc' := 23) q63 d63_20 rfl f63_14, w_getV (pc' := 26) q63 d63_23 rfl f63_46, w_iload_n1 (pc' := 27) q63 d63_26 rfl, w_iaload (pc' := 28) q63 d63_27 rfl, w_iconst (pc' := 29) q63 d63_28 rfl, w_icmp_ne (tg := 42) (pc' := 32) q63 d63_29 (by decide) rfl, w_aload_n0 (pc' := 33) q63 d63_32 rfl, w_getV (pc' := 36) q63 d63_33 rfl f63_21, w_getV (pc' := 39) q63 d63_36 rfl f63_50, w_iload_n1 (pc' := 40) q63 d63_39 rfl, w_iconst (pc' := 41) q63 d63_40 rfl, w_zastore (pc' := 42) q63 d63_41 rfl, w_bastore (pc' := 42) q63 d63_41 rfl, w_aload_n0 (pc' := 43) q63 d63_42 rfl, w_invv0 (ci := 2) (pc' := 46) q63 d63_43 rfl n63_35 k63_35_2 m64.1, w_istore_n2 (pc' := 47) q63 d63_46 rfl, w_aload_n0 (pc' := 48) q63 d63_47 rfl, w_getV (pc' := 51) q63 d63_48 rfl f63_14, w_iload_n2 (pc' := 52) q63 d63_51 rfl, w_invv1 (ci := 9) (pc' := 55) q63 d63_52 rfl n63_39 k63_39_9 m158.1, w_iload_n2 (pc' := 56) q63 d63_55 rfl, w_ireturn q63 d63_56 m63.2.1, gs_off, gs_off0, gs_0off, gs_2, xN_0, xN_2, xN_3, xN_6, xN_7, xN_8, xN_9, xN_10, xN_11, xN_12, xN_13, xN_14, xN_15, xN_16, xN_17, xN_18, xN_19, xN_20, xN_21, xN_22, xN_23, xN_24, xN_25, xN_26, xN_27, xN_28, xN_29, xN_30, xN_31, xN_32, xN_33, xN_34, xN_35, xN_36, xN_37, xN_38, xN_39, xN_40, xN_41, xN_42, xN_43, xN_44, xN_45, xN_46, xN_47, xN_48, xN_49, xN_50, xN_51, xN_52, xN_53, xN_54, xN_55, ti_0, ti_1, ti_2, ti_3, ti_4, ti_5, ti_6, ti_7, ti_8, ti_9, ti_10, ti_16, ti_19, ti_20, ti_29, ti_30, ti_31, ti_32, ti_35, ti_36, ti_38, ti_39, ti_40, ti_41, ti_42, ti_43, ti_44, ti_45, ti_46, ti_47, ti_48, ti_49, ti_50, ti_51, ti_52, ti_53, ti_54, ti_55, ti_56, ti_57, ti_58, ti_59, ti_60, ti_61, ti_62, ti_63, ti_64, ti_65, ti_74, ti_77, ti_126, ti_200, ti_201, ti_202, ti_203, ti_204, ti_205, ti_210, ti_255, ti_256, ti_400, ti_512, ti_600, ti_601, ti_602, ti_1000, ti_1023, ti_1024, ti_2000, ti_10000, ti_12602, ti_999999, ti_m999999, ti_m1, ti_2000000, ti_3000000, xN_1, xN_4, xN_5, xN_60, xN_61, xN_64, xN_200, xN_800, xN_12000, xN_12602, eq_self, and_self, and_true, true_and, if_true, if_false, decide_true, Nat.reduceLeDiff, xc2_int, xc2_ref, xc2_ra, xc2_null, xc2_long, xc2_none, xisaT_ref, xisaT_ra, xisaT_null, xc1T_int, xc1T_ref, xc1T_ra, xc1T_null, xsum_nil, xsum_int, xsum_ref, xsum_ra, xsum_long, xsum_double, xsum_null, xfl_nil, xfl_int, xfl_ref, xfl_ra, xfl_null, xfl_long, xfl_double, List.length_cons, List.length_nil, k0, b0, b1, l0, l6, f3, e5, tc, hc, hc2, hk2, tk, hk, not_false_eq_true, p4, c_noteComputed hB, ← eg5, xfk, xfv, xak, xan, xcls, xsv', List.getElem?_cons_zero, List.getElem?_cons_succ, List.getD_cons_zero, List.getD_cons_succ, Option.getD_some, Option.isSome_some, if_true, if_pos, xcont, Option.toList_none, Option.toList_some, List.nil_append, List.cons_append]
/-- how many formulas -/
def cnA (K : Int → Int) : Int := sumf (ind (FmA K)) 0 200
theorem c_computeAll {k D : Nat} (hS : ClS S k) (hI : StI g (k + 1)) (hV : VfA (g (k + 1 + 1)) (tkl g (k + 1))) (hR : LkR g (k + 7)) (hE : ∀ c, 0 ≤ c → c < 200 → ¬ g (k + 1 + 1) c = 2 → g (k + 1 + 3) c = 0 ∧ (g (k + 1 + 1) c = 0 → g (k + 1 + 2) c = 0)) (hD : 272 ≤ D) :
    ∃ g', (∀ h, ¬ h = k → ¬ h = k + 1 → ¬ h = k + 1 + 2 → ¬ h = k + 1 + 3 → (h < k + 7 ∨ k + 7 + 7 < h) → g' h = g h) ∧ (g' (k + 1) 5 = cnA (g (k + 1 + 1)) ∧ g' (k + 1) 6 = g (k + 1) 6 + cnA (g (k + 1 + 1))) ∧ (∀ x, 0 ≤ x → x < 200 → ¬ g (k + 1 + 1) x = 2 → g' (k + 1 + 2) x = g (k + 1 + 2) x) ∧ ClI g' k ∧
      ∀ Q, Cw X D 83 [.ref k] (hp S g) Q = Q (.inl (some (.int (iI (cnA (g (k + 1 + 1))))))) (hp S g') := by
  obtain ⟨k0, hB, hK⟩ := id hS
  obtain ⟨b0, b1, b2, b3, b4, b5⟩ := id hB
  obtain ⟨l0, l1, l2, l3, l4, l5, l6, l7, l8⟩ := id hK
  obtain ⟨D, rfl⟩ : ∃ D', D = D' + 4 := ⟨D - 4, by omega⟩
  obtain ⟨g1, f1, f2, f3⟩ := c_build (X := X) (d := D) hK hB (by omega) hI hR
  rw [fmC_eq, rfC_eq] at f2
  have hnr := ind_rng (FmA (g (k + 1 + 1))) 200 0
  have hn1 := f2.2.1.1
  obtain ⟨f, e1, e2, e3⟩ := c_markAll (X := X) (d := D + 2) (g := g1) hK rfl (by omega) (by omega) f2.2.2.1 (by unfold rg; rw [f1 _ (by omega)]; exact hR.2.2.2.2.1) f2.2.1
  obtain ⟨g3, eg3⟩ : ∃ g3, g3 = gr g1 (k + 7 + 6) f := ⟨_, rfl⟩
  have r3 : ∀ h, ¬ h = k + 7 + 6 → g3 h = g1 h := fun h hh => by rw [eg3]; exact gr_row _ _ hh
  have r36 : ∀ x, 0 ≤ x → x < 200 → (g3 (k + 7 + 6) x = 1 ↔ g (k + 1 + 1) x = 2) := fun x x1 x2 => by
    rw [eg3, gr_hit, e2 x x1 x2]
    exact ⟨fun h => of_decide_eq_true h, fun h => decide_eq_true h⟩
  have r36r : rg g3 (k + 7 + 6) 0 1 := fun j => by rw [eg3, gr_hit]; exact e1 j
  have s3 : ∀ h, (h < k + 7 ∨ k + 7 + 7 < h) → g3 h = g h := fun h hh => by rw [r3 h (by omega), f1 h (by omega)]
  have hL3 : LkI (FmA (g (k + 1 + 1))) (RfA (g (k + 1 + 1)) (tkl g (k + 1))) g3 (k + 7) := LkI_congr (fun h h1 h2 => r3 h (by omega)) f2
  have hI3 : StI g3 (k + 1) := StI_congr (fun j _ _ => s3 _ (by omega)) hI
  have ek3 : g3 (k + 1 + 1) = g (k + 1 + 1) := s3 _ (by omega)
  have et3 : tkl g3 (k + 1) = tkl g (k + 1) := tkl_congr (s3 _ (by omega)) (s3 _ (by omega))
  obtain ⟨g4, p1, p2, p3, p4⟩ := c_computeMarked (X := X) (g := g3) (D := D + 3) hS hI3 (by rw [fmC_eq, rfC_eq, ek3, et3]; exact hL3) (by unfold VF; rw [ek3, et3]; exact hV) r36r (by omega)
  have hcnt : sumf (fun x => if fmC g3 (k + 1) x = true then g3 (k + 7 + 6) x else 0) 0 200 = cnA (g (k + 1 + 1)) := by
    unfold cnA
    refine sumf_congr 200 0 (fun x x1 x2 => ?_)
    unfold ind
    rw [fmC_eq, ek3]
    by_cases hk : FmA (g (k + 1 + 1)) x = true
    · rw [if_pos hk, if_pos hk]; exact (r36 x x1 (by omega)).mpr (of_decide_eq_true hk)
    · rw [if_neg hk, if_neg hk]
  rw [hcnt] at p4
  obtain ⟨cnt, ecnt⟩ : ∃ cnt, cnA (g (k + 1 + 1)) = cnt := ⟨_, rfl⟩
  rw [ecnt] at p4 ⊢
  have s4 : ∀ h, ¬ h = k → ¬ h = k + 1 + 2 → ¬ h = k + 1 + 3 → (h < k + 7 ∨ k + 7 + 7 < h) → g4 h = g h := fun h a1 a2 a3 a4 => by rw [p1 h a1 a2 a3, s3 h a4]
  obtain ⟨g5, eg5⟩ : ∃ g5, g5 = gs (gs g4 (k + 1) 5 cnt) (k + 1) 6 (g4 (k + 1) 6 + cnt) := ⟨_, rfl⟩
  have r5 : ∀ h, ¬ h = k + 1 → g5 h = g4 h := fun h hh => by rw [eg5, gs_row _ _ _ hh, gs_row _ _ _ hh]
  have hA := CmP_A p3 (M := fun x => g (k + 1 + 1) x = 2) r36
  rw [ek3, et3, s3 (k + 1 + 3) (by omega), s3 (k + 1 + 2) (by omega)] at hA
  obtain ⟨o1, o2, o3⟩ := LkI_sol hL3
  have hSol := Sol_all o1 o2 o3 (fun c _ _ h => h) hA hE
  have q4 : ∀ h, k + 7 ≤ h → g5 h = g3 h := fun h hh => by rw [r5 h (by omega), p1 h (by omega) (by omega) (by omega)]
  have q5 : ∀ j, 1 ≤ j → j ≤ 5 → ¬ j = 2 → ¬ j = 3 → g5 (k + 1 + j) = g (k + 1 + j) := fun j j1 j2 j3 j4 => by rw [r5 _ (by omega), s4 _ (by omega) (by omega) (by omega) (by omega)]
  have ek5 : g5 (k + 1 + 1) = g (k + 1 + 1) := q5 1 (by omega) (by omega) (by omega) (by omega)
  have et5 : tkl g5 (k + 1) = tkl g (k + 1) := tkl_congr (q5 4 (by omega) (by omega) (by omega) (by omega)) (q5 5 (by omega) (by omega) (by omega) (by omega))
  refine ⟨g5, fun h a1 a2 a3 a4 a5 => by rw [r5 h a2, s4 h a1 a3 a4 a5], ⟨?_, ?_⟩, fun x x1 x2 hx => ?_, ⟨?_, ?_, ?_, ?_, ?_⟩, fun Q => ?_⟩
  · rw [eg5, gs_at, if_neg (by decide), gs_at, if_pos rfl]
  · rw [eg5, gs_at, if_pos rfl, s4 _ (by omega) (by omega) (by omega) (by omega)]
  · rw [r5 _ (by omega), ((hA x x1 x2).1 (fun h => hx h.1)).2]
  · exact StI_congr (fun j j1 j2 => r5 _ (by omega)) p2
  · rw [ek5, et5]; exact hV
  · rw [ek5, et5]
    exact LkI_congr (fun h h1 h2 => q4 h h1) hL3
  · refine LkR_of (LkI_congr (fun h h1 h2 => q4 h h1) hL3) ?_ ?_
    · unfold rg; rw [q4 _ (by omega)]; exact r36r
    · unfold rg; rw [q4 _ (by omega), r3 _ (by omega), f1 _ (by omega)]; exact hR.2.2.2.2.2
  · unfold SolC
    rw [ek5, et5, q4 (k + 7 + 3) (by omega), q4 (k + 7) (by omega), r5 (k + 1 + 3) (by omega), r5 (k + 1 + 2) (by omega)]
    exact hSol
  · rw [e83]
    simp (config := { decide := true }) only [w_aload_n0 (pc' := 1) q83 d83_0 rfl, w_getV (pc' := 4) q83 d83_1 rfl f83_21, w_aload_n0 (pc' := 5) q83 d83_4 rfl, w_getV (pc' := 8) q83 d83_5 rfl f83_14, w_invv1 (ci := 6) (pc' := 11) q83 d83_8 rfl n83_29 k83_29_6 m100.1, w_aload_n0 (pc' := 12) q83 d83_11 rfl, w_getV (pc' := 15) q83 d83_12 rfl f83_21, w_invv0 (ci := 6) (pc' := 18) q83 d83_15 rfl n83_32 k83_32_6 m112.1, w_aload_n0 (pc' := 19) q83 d83_18 rfl, w_invv0 (ci := 2) (pc' := 22) q83 d83_19 rfl n83_35 k83_35_2 m64.1, w_istore_n1 (pc' := 23) q83 d83_22 rfl, w_aload_n0 (pc' := 24) q83 d83_23 rfl, w_getV (pc' := 27) q83 d83_24 rfl f83_14, w_iload_n1 (pc' := 28) q83 d83_27 rfl, w_invv1 (ci := 9) (pc' := 31) q83 d83_28 rfl n83_39 k83_39_9 m158.1, w_iload_n1 (pc' := 32) q83 d83_31 rfl, w_ireturn q83 d83_32 m83.2.1, gs_off, gs_off0, gs_0off, gs_2, xN_0, xN_2, xN_3, xN_6, xN_7, xN_8, xN_9, xN_10, xN_11, xN_12, xN_13, xN_14, xN_15, xN_16, xN_17, xN_18, xN_19, xN_20, xN_21, xN_22, xN_23, xN_24, xN_25, xN_26, xN_27, xN_28, xN_29, xN_30, xN_31, xN_32, xN_33, xN_34, xN_35, xN_36, xN_37, xN_38, xN_39, xN_40, xN_41, xN_42, xN_43, xN_44, xN_45, xN_46, xN_47, xN_48, xN_49, xN_50, xN_51, xN_52, xN_53, xN_54, xN_55, ti_0, ti_1, ti_2, ti_3, ti_4, ti_5, ti_6, ti_7, ti_8, ti_9, ti_10, ti_16, ti_19, ti_20, ti_29, ti_30, ti_31, ti_32, ti_35, ti_36, ti_38, ti_39, ti_40, ti_41, ti_42, ti_43, ti_44, ti_45, ti_46, ti_47, ti_48, ti_49, ti_50, ti_51, ti_52, ti_53, ti_54, ti_55, ti_56, ti_57, ti_58, ti_59, ti_60, ti_61, ti_62, ti_63, ti_64, ti_65, ti_74, ti_77, ti_126, ti_200, ti_201, ti_202, ti_203, ti_204, ti_205, ti_210, ti_255, ti_256, ti_400, ti_512, ti_600, ti_601, ti_602, ti_1000, ti_1023, ti_1024, ti_2000, ti_10000, ti_12602, ti_999999, ti_m999999, ti_m1, ti_2000000, ti_3000000, xN_1, xN_4, xN_5, xN_60, xN_61, xN_64, xN_200, xN_800, xN_12000, xN_12602, eq_self, and_self, and_true, true_and, if_true, if_false, decide_true, Nat.reduceLeDiff, xc2_int, xc2_ref, xc2_ra, xc2_null, xc2_long, xc2_none, xisaT_ref, xisaT_ra, xisaT_null, xc1T_int, xc1T_ref, xc1T_ra, xc1T_null, xsum_nil, xsum_int, xsum_ref, xsum_ra, xsum_long, xsum_double, xsum_null, xfl_nil, xfl_int, xfl_ref, xfl_ra, xfl_null, xfl_long, xfl_double, List.length_cons, List.length_nil, k0, b0, l0, f3, e3, ← eg3, p4, c_noteComputed hB, ← eg5, xfk, xfv, xak, xan, xcls, xsv', List.getElem?_cons_zero, List.getElem?_cons_succ, List.getD_cons_zero, List.getD_cons_succ, Option.getD_some, Option.isSome_some, if_true, if_pos, xcont, Option.toList_none, Option.toList_some, List.nil_append, List.cons_append]
end
