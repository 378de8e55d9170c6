/-! The class: the number for a value -/
section
variable {X : xX} {S S' : xLm} {g g' G : xGm} {d c p k t o y b m j : Nat} {w : xH} {Q : xO → xH → Prop} {P P' : Pd} {A A' B : Sh} {sn : Option Sh} {H : List Sh}
/-- the trial while numbers are tried -/
def NfI (g : xGm) (t : Nat) (A : Sh) (z v : Int) : Prop := ClI g t ∧ StK g (t + 1) (tmpA A z 1 v) ∧ g (t + 1 + 4) z = 0 ∧ ∀ x, 0 ≤ x → x < 200 → g (t + 1 + 1) x = 2 → (g (t + 7 + 6) x = 1 ↔ (Rc (UsE (FmA (g (t + 1 + 1))) (RfA (g (t + 1 + 1)) (tkl g (t + 1)))) z x ∨ x = z))
theorem c_again {z v v' : Int} {D : Nat} (hS : ClS S t) (hz : 0 ≤ z ∧ z < 200) (hv : -999999 ≤ v ∧ v ≤ 999999) (hN : NfI g t A z v') (hD : 270 ≤ D) :
    ∃ g' n, (∀ h, h < t ∨ t + 15 < h → g' h = g h) ∧ NfI g' t A z v ∧ ∀ Q, Cw X D 64 [.ref t] (hp S (gPut g (t + 1) z 1 v)) Q = Q (.inl (some (.int (iI n)))) (hp S g') := by
  obtain ⟨hC, hK, h4, hMk⟩ := hN
  obtain ⟨t0, tS, tL⟩ := id hS
  obtain ⟨i1, i2, i3, i4, i5⟩ := id hC
  obtain ⟨-, -, -, hR⟩ := id i5
  have kz : g (t + 1 + 1) z = 1 := by
    rw [(hK z hz.1 hz.2).1]
    unfold tmpA
    exact if_pos rfl
  have ez : g (t + 1 + 3) z = 0 := (hR z hz.1 hz.2).2.2.1 (by omega)
  have s1 := StI_gPut (z := z) (kd := 1) (v := v) i1 (by decide) (by omega)
  have F := gPut_F (g := g) (a := t + 1) (z := z) (kd := 1) (v := v)
  have q1 := gPut_1 (g := g) (a := t + 1) (z := z) (kd := 1) (v := v)
  have q2 := gPut_2 (g := g) (a := t + 1) (z := z) (kd := 1) (v := v)
  have q3 := gPut_3 (g := g) (a := t + 1) (z := z) (kd := 1) (v := v)
  have q4 := gPut_4 (g := g) (a := t + 1) (z := z) (kd := 1) (v := v)
  have q5 := gPut_5 (g := g) (a := t + 1) (z := z) (kd := 1) (v := v)
  obtain ⟨G, eG⟩ : ∃ G, G = gPut g (t + 1) z 1 v := ⟨_, rfl⟩
  rw [← eG] at s1 F q1 q2 q3 q4 q5
  have r1 : G (t + 1 + 1) = g (t + 1 + 1) := by
    rw [q1]; funext x
    by_cases e : x = z
    · rw [if_pos e, e, kz]
    · rw [if_neg e]
  have r3 : G (t + 1 + 3) = g (t + 1 + 3) := by
    rw [q3]; funext x
    by_cases e : x = z
    · rw [if_pos e, e, ez]
    · rw [if_neg e]
  have r4 : G (t + 1 + 4) = g (t + 1 + 4) := by
    rw [q4]; funext x
    by_cases e : x = z
    · rw [if_pos e, e, h4]
    · rw [if_neg e]
  have rt : tkl G (t + 1) = tkl g (t + 1) := tkl_congr r4 q5
  have hLk : LkI (FmA (g (t + 1 + 1))) (RfA (g (t + 1 + 1)) (tkl g (t + 1))) G (t + 7) := LkI_congr (fun h h1 h2 => F h (by omega)) i3
  obtain ⟨g', p1, p2, p3, p4⟩ := c_computeMarked (X := X) (g := G) (D := D) hS s1 (by rw [fmC_eq, rfC_eq, r1, rt]; exact hLk) (by unfold VF; rw [r1, rt]; exact i2) (by unfold rg; rw [F _ (by omega)]; exact i4.2.2.2.2.1) hD
  have hA := CmP_A p3 (M := fun x => G (t + 7 + 6) x = 1) (fun _ _ _ => Iff.rfl)
  rw [r1, rt, r3, F (t + 7 + 6) (by omega), F (t + 7 + 3) (by omega), F (t + 7) (by omega)] at hA
  obtain ⟨o1, o2, o3⟩ := LkI_sol i3
  have hSol := Sol_from i5 o1 o2 o3 i2 (fun x x1 x2 e => ⟨rfl, rfl, rfl, by rw [q2]; exact if_neg e⟩) (fun e => ⟨ez, fun e2 => by omega⟩) (fun x x1 x2 hx hh => by
    refine (hMk x x1 x2 hx).mpr ?_
    rcases hh with e | ⟨b, y1, y2, y3, y4⟩
    · exact .inr e
    · left
      rcases y4 with e | ⟨y5, y6⟩
      · subst e; exact Rc_one ⟨y1, y2, x1, x2, decide_eq_true hx, y3⟩
      · rcases (hMk b y1 y2 y5).mp y6 with y6 | e
        · exact Rc_step y6 ⟨y1, y2, x1, x2, decide_eq_true hx, y3⟩
        · subst e; exact Rc_one ⟨y1, y2, x1, x2, decide_eq_true hx, y3⟩) hA
  have w1 : g' (t + 1 + 1) = g (t + 1 + 1) := (p1 _ (by omega) (by omega) (by omega)).trans r1
  have w4 : g' (t + 1 + 4) = g (t + 1 + 4) := (p1 _ (by omega) (by omega) (by omega)).trans r4
  have wt : tkl g' (t + 1) = tkl g (t + 1) := tkl_congr w4 ((p1 _ (by omega) (by omega) (by omega)).trans q5)
  have w7 : ∀ h, t + 7 ≤ h → g' h = g h := fun h hh => (p1 h (by omega) (by omega) (by omega)).trans (F h (by omega))
  refine ⟨g', _, fun h hh => (p1 h (by omega) (by omega) (by omega)).trans (F h (by omega)), ⟨⟨p2, by rw [w1, wt]; exact i2, ?_, ?_, ?_⟩, fun x x1 x2 => ?_, by rw [w4]; exact h4, fun x x1 x2 hx => ?_⟩, by rw [← eG]; exact p4⟩
  · rw [w1, wt]
    exact LkI_congr (fun h h1 h2 => w7 h h1) i3
  · refine LkR_of (LkI_congr (fun h h1 h2 => w7 h h1) i3) ?_ ?_
    · unfold rg; rw [w7 _ (by omega)]; exact i4.2.2.2.2.1
    · unfold rg; rw [w7 _ (by omega)]; exact i4.2.2.2.2.2
  · unfold SolC
    rw [w1, wt, w7 (t + 7 + 3) (by omega), w7 (t + 7) (by omega)]
    exact hSol
  · obtain ⟨b1, b2, b3⟩ := hK x x1 x2
    rw [w1, wt]
    refine ⟨b1, fun e => ?_, b3⟩
    have hx := (hA x x1 x2).1 (fun h => by
      have h2 := h.1
      rw [b1] at h2
      have e' : (tmpA A z 1 v').1 x = 1 := e
      omega)
    rw [hx.2, q2]
    unfold tmpA at b2 e ⊢
    dsimp only at b2 e ⊢
    by_cases ex : x = z
    · rw [if_pos ex, if_pos ex]
    · rw [if_neg ex, if_neg ex]
      have := b2 e
      rw [if_neg ex] at this
      exact this
  · rw [w7 _ (by omega), w1, wt]
    rw [w1] at hx
    exact hMk x x1 x2 hx
theorem l_cnum {z a v : Int} (hS : CsS S c p k t o y b m) (hs : ∀ v, -999999 ≤ v ∧ v ≤ 999999 → SlR (tmpA A z 1 v) (flA (tmpA A z 1 v)) (vlA (tmpA A z 1 v)) (odA (tmpA A z 1 v)) (onA (tmpA A z 1 v)) (lnA (tmpA A z 1 v)) (plA (tmpA A z 1 v))) (hA : ShOK A) (hz : 0 ≤ z ∧ z < 200) (ha : 0 ≤ a ∧ a < 200) (tv : ti v = v) : ∀ (n : Nat) (f : Int) (G : xGm) (v' : Int), f + n = 51 → 0 ≤ f → NfI G t A z v' →
    ∃ G' v'', (∀ h, h < t ∨ t + 15 < h → G' h = G h) ∧ NfI G' t A z v'' ∧ ∀ Q, Wx X (d + 300) 60 17 [some (.ref c), some (.int (iI z)), some (.int (iI a)), some (.int (iI v)), some (.int (iI f))] [] (hp S G) Q = Q (.inl (some (.int (iI (low (nfP A z a v) f n))))) (hp S G') := by
  obtain ⟨c0, ⟨hp0, hk0, ht0, ho0, hy0⟩, hL⟩ := hS
  obtain ⟨t0, tS, tL⟩ := id ht0
  obtain ⟨s0, s1, s2, s3, s4, s5⟩ := id tS
  have t50 : ti 50 = 50 := by decide
  obtain ⟨a1, a2⟩ := ha
  have ta : ti a = a := ti_eq (by omega) (by omega)
  intro n
  induction n with
  | zero =>
    intro f G v' hf hf0 hN
    have ef : f = 51 := by omega
    subst ef
    have t51 : ti 51 = 51 := by decide
    have n1 : (50 : Int) < 51 := by decide
    refine ⟨G, v', fun _ _ => rfl, hN, fun Q => ?_⟩
    show _ = Q (.inl (some (.int (iI (-1))))) (hp S G)
    simp (config := { decide := true }) only [w_iload_n1 (pc' := 1) q60 d60_0 rfl, w_invs1 (pc' := 4) q60 d60_1 rfl (by decide +kernel) k60_74_99 m15.1, w_iload_n2 (pc' := 5) q60 d60_4 rfl, w_invs1 (pc' := 8) q60 d60_5 rfl (by decide +kernel) k60_74_99 m15.1, w_aload_n0 (pc' := 9) q60 d60_8 rfl, w_iload_n1 (pc' := 10) q60 d60_9 rfl, w_iconst (pc' := 11) q60 d60_10 rfl, w_invv2 (ci := 10) (pc' := 14) q60 d60_11 rfl n60_272 k60_272_10 m59.1, w_iconst (pc' := 15) q60 d60_14 rfl, w_istore4 (pc' := 17) q60 d60_15 rfl, w_iload4 (pc' := 19) q60 d60_17 rfl, w_bipush (z' := (50)) (pc' := 21) q60 d60_19 rfl (by decide), w_icmp_gt (tg := 85) (pc' := 24) q60 d60_21 (by decide) rfl, w_aload_n0 (pc' := 25) q60 d60_24 rfl, w_getV (pc' := 28) q60 d60_25 rfl f60_23, w_getV (pc' := 31) q60 d60_28 rfl f60_80, w_iload_n1 (pc' := 32) q60 d60_31 rfl, w_iload4 (pc' := 34) q60 d60_32 rfl, w_invv2 (ci := 9) (pc' := 37) q60 d60_34 rfl n60_98 k60_98_9 m159.1, w_aload_n0 (pc' := 38) q60 d60_37 rfl, w_getV (pc' := 41) q60 d60_38 rfl f60_23, w_invv0 (ci := 2) (pc' := 44) q60 d60_41 rfl n60_275 k60_275_2 m64.1, w_pop (pc' := 45) q60 d60_44 rfl, w_aload_n0 (pc' := 46) q60 d60_45 rfl, w_getV (pc' := 49) q60 d60_46 rfl f60_23, w_getV (pc' := 52) q60 d60_49 rfl f60_80, w_getV (pc' := 55) q60 d60_52 rfl f60_245, w_iload_n2 (pc' := 56) q60 d60_55 rfl, w_iaload (pc' := 57) q60 d60_56 rfl, w_if_ne (tg := 79) (pc' := 60) q60 d60_57 (by decide) rfl, w_aload_n0 (pc' := 61) q60 d60_60 rfl, w_getV (pc' := 64) q60 d60_61 rfl f60_23, w_getV (pc' := 67) q60 d60_64 rfl f60_80, w_getV (pc' := 70) q60 d60_67 rfl f60_278, w_iload_n2 (pc' := 71) q60 d60_70 rfl, w_iaload (pc' := 72) q60 d60_71 rfl, w_iload_n3 (pc' := 73) q60 d60_72 rfl, w_icmp_ne (tg := 79) (pc' := 76) q60 d60_73 (by decide) rfl, w_iload4 (pc' := 78) q60 d60_76 rfl, w_ireturn q60 d60_78 m60.2.1, w_iinc4 (z := (1)) (pc' := 82) q60 d60_79 rfl, w_goto (tg := 17) q60 d60_82 (by decide), w_iconst (pc' := 86) q60 d60_85 rfl, w_ireturn q60 d60_86 m60.2.1, gs_off, gs_off0, gs_0off, gs_2, xN_0, xN_2, xN_3, xN_6, xN_7, xN_8, xN_9, xN_10, xN_11, xN_12, xN_13, xN_14, xN_15, xN_16, xN_17, xN_18, xN_19, xN_20, xN_21, xN_22, xN_23, xN_24, xN_25, xN_26, xN_27, xN_28, xN_29, xN_30, xN_31, xN_32, xN_33, xN_34, xN_35, xN_36, xN_37, xN_38, xN_39, xN_40, xN_41, xN_42, xN_43, xN_44, xN_45, xN_46, xN_47, xN_48, xN_49, xN_50, xN_51, xN_52, xN_53, xN_54, xN_55, ti_0, ti_1, ti_2, ti_3, ti_4, ti_5, ti_6, ti_7, ti_8, ti_9, ti_10, ti_16, ti_19, ti_20, ti_29, ti_30, ti_31, ti_32, ti_35, ti_36, ti_38, ti_39, ti_40, ti_41, ti_42, ti_43, ti_44, ti_45, ti_46, ti_47, ti_48, ti_49, ti_50, ti_51, ti_52, ti_53, ti_54, ti_55, ti_56, ti_57, ti_58, ti_59, ti_60, ti_61, ti_62, ti_63, ti_64, ti_65, ti_74, ti_77, ti_126, ti_200, ti_201, ti_202, ti_203, ti_204, ti_205, ti_210, ti_255, ti_256, ti_400, ti_512, ti_600, ti_601, ti_602, ti_1000, ti_1023, ti_1024, ti_2000, ti_10000, ti_12602, ti_999999, ti_m999999, ti_m1, ti_2000000, ti_3000000, xN_1, xN_4, xN_5, xN_60, xN_61, xN_64, xN_200, xN_800, xN_12000, xN_12602, eq_self, and_self, and_true, true_and, if_true, if_false, decide_true, Nat.reduceLeDiff, xc2_int, xc2_ref, xc2_ra, xc2_null, xc2_long, xc2_none, xisaT_ref, xisaT_ra, xisaT_null, xc1T_int, xc1T_ref, xc1T_ra, xc1T_null, xsum_nil, xsum_int, xsum_ref, xsum_ra, xsum_long, xsum_double, xsum_null, xfl_nil, xfl_int, xfl_ref, xfl_ra, xfl_null, xfl_long, xfl_double, List.length_cons, List.length_nil, t50, t51, n1, xfk, xfv, xak, xan, xcls, xsv', List.getElem?_cons_zero, List.getElem?_cons_succ, List.getD_cons_zero, List.getD_cons_succ, Option.getD_some, Option.isSome_some, if_true, if_pos, xcont, Option.toList_none, Option.toList_some, List.nil_append, List.cons_append]
  | succ n ih =>
    intro f G v' hf hf0 hN
    have tf : ti f = f := ti_eq (by omega) (by omega)
    have n1 : ¬ 50 < f := by omega
    have kpn : ∀ Q, Cw X (d + 299) 159 [.ref (t + 1), .int (iI z), .int (iI f)] (hp S G) Q = Q (.inl none) (hp S (gPut G (t + 1) z 1 f)) := fun Q => c_putNumber (X := X) (d := d + 297) (g := G) tS hz.1 hz.2
    obtain ⟨g1, nn, f1, hN1, k1⟩ := c_again (X := X) (v := f) (D := d + 299) ht0 hz (by omega) hN (by omega)
    obtain ⟨u1, u2⟩ := ClI_ansK (tmp_ok hA (.inr rfl) (by omega)) (hs f (by omega)) hN1.1 hN1.2.1 a a1 a2
    have re := hN1.1.1.2.2.1 a
    have rv := hN1.1.1.2.1 a
    rw [u1] at re
    rw [u2] at rv
    have te : ti (flA (tmpA A z 1 f) a) = flA (tmpA A z 1 f) a := ti_eq (by omega) (by omega)
    have tw : ti (vlA (tmpA A z 1 f) a) = vlA (tmpA A z 1 f) a := ti_eq (by omega) (by omega)
    rw [low]
    by_cases e1 : flA (tmpA A z 1 f) a = 0
    · by_cases e2 : vlA (tmpA A z 1 f) a = v
      · have hP : nfP A z a v f = true := by unfold nfP; rw [decide_eq_true e1, decide_eq_true e2]; rfl
        rw [if_pos hP]
        refine ⟨g1, f, f1, hN1, fun Q => ?_⟩
        simp (config := { decide := true }) only [w_iload_n1 (pc' := 1) q60 d60_0 rfl, w_invs1 (pc' := 4) q60 d60_1 rfl (by decide +kernel) k60_74_99 m15.1, w_iload_n2 (pc' := 5) q60 d60_4 rfl, w_invs1 (pc' := 8) q60 d60_5 rfl (by decide +kernel) k60_74_99 m15.1, w_aload_n0 (pc' := 9) q60 d60_8 rfl, w_iload_n1 (pc' := 10) q60 d60_9 rfl, w_iconst (pc' := 11) q60 d60_10 rfl, w_invv2 (ci := 10) (pc' := 14) q60 d60_11 rfl n60_272 k60_272_10 m59.1, w_iconst (pc' := 15) q60 d60_14 rfl, w_istore4 (pc' := 17) q60 d60_15 rfl, w_iload4 (pc' := 19) q60 d60_17 rfl, w_bipush (z' := (50)) (pc' := 21) q60 d60_19 rfl (by decide), w_icmp_gt (tg := 85) (pc' := 24) q60 d60_21 (by decide) rfl, w_aload_n0 (pc' := 25) q60 d60_24 rfl, w_getV (pc' := 28) q60 d60_25 rfl f60_23, w_getV (pc' := 31) q60 d60_28 rfl f60_80, w_iload_n1 (pc' := 32) q60 d60_31 rfl, w_iload4 (pc' := 34) q60 d60_32 rfl, w_invv2 (ci := 9) (pc' := 37) q60 d60_34 rfl n60_98 k60_98_9 m159.1, w_aload_n0 (pc' := 38) q60 d60_37 rfl, w_getV (pc' := 41) q60 d60_38 rfl f60_23, w_invv0 (ci := 2) (pc' := 44) q60 d60_41 rfl n60_275 k60_275_2 m64.1, w_pop (pc' := 45) q60 d60_44 rfl, w_aload_n0 (pc' := 46) q60 d60_45 rfl, w_getV (pc' := 49) q60 d60_46 rfl f60_23, w_getV (pc' := 52) q60 d60_49 rfl f60_80, w_getV (pc' := 55) q60 d60_52 rfl f60_245, w_iload_n2 (pc' := 56) q60 d60_55 rfl, w_iaload (pc' := 57) q60 d60_56 rfl, w_if_ne (tg := 79) (pc' := 60) q60 d60_57 (by decide) rfl, w_aload_n0 (pc' := 61) q60 d60_60 rfl, w_getV (pc' := 64) q60 d60_61 rfl f60_23, w_getV (pc' := 67) q60 d60_64 rfl f60_80, w_getV (pc' := 70) q60 d60_67 rfl f60_278, w_iload_n2 (pc' := 71) q60 d60_70 rfl, w_iaload (pc' := 72) q60 d60_71 rfl, w_iload_n3 (pc' := 73) q60 d60_72 rfl, w_icmp_ne (tg := 79) (pc' := 76) q60 d60_73 (by decide) rfl, w_iload4 (pc' := 78) q60 d60_76 rfl, w_ireturn q60 d60_78 m60.2.1, w_iinc4 (z := (1)) (pc' := 82) q60 d60_79 rfl, w_goto (tg := 17) q60 d60_82 (by decide), w_iconst (pc' := 86) q60 d60_85 rfl, w_ireturn q60 d60_86 m60.2.1, gs_off, gs_off0, gs_0off, gs_2, xN_0, xN_2, xN_3, xN_6, xN_7, xN_8, xN_9, xN_10, xN_11, xN_12, xN_13, xN_14, xN_15, xN_16, xN_17, xN_18, xN_19, xN_20, xN_21, xN_22, xN_23, xN_24, xN_25, xN_26, xN_27, xN_28, xN_29, xN_30, xN_31, xN_32, xN_33, xN_34, xN_35, xN_36, xN_37, xN_38, xN_39, xN_40, xN_41, xN_42, xN_43, xN_44, xN_45, xN_46, xN_47, xN_48, xN_49, xN_50, xN_51, xN_52, xN_53, xN_54, xN_55, ti_0, ti_1, ti_2, ti_3, ti_4, ti_5, ti_6, ti_7, ti_8, ti_9, ti_10, ti_16, ti_19, ti_20, ti_29, ti_30, ti_31, ti_32, ti_35, ti_36, ti_38, ti_39, ti_40, ti_41, ti_42, ti_43, ti_44, ti_45, ti_46, ti_47, ti_48, ti_49, ti_50, ti_51, ti_52, ti_53, ti_54, ti_55, ti_56, ti_57, ti_58, ti_59, ti_60, ti_61, ti_62, ti_63, ti_64, ti_65, ti_74, ti_77, ti_126, ti_200, ti_201, ti_202, ti_203, ti_204, ti_205, ti_210, ti_255, ti_256, ti_400, ti_512, ti_600, ti_601, ti_602, ti_1000, ti_1023, ti_1024, ti_2000, ti_10000, ti_12602, ti_999999, ti_m999999, ti_m1, ti_2000000, ti_3000000, xN_1, xN_4, xN_5, xN_60, xN_61, xN_64, xN_200, xN_800, xN_12000, xN_12602, eq_self, and_self, and_true, true_and, if_true, if_false, decide_true, Nat.reduceLeDiff, xc2_int, xc2_ref, xc2_ra, xc2_null, xc2_long, xc2_none, xisaT_ref, xisaT_ra, xisaT_null, xc1T_int, xc1T_ref, xc1T_ra, xc1T_null, xsum_nil, xsum_int, xsum_ref, xsum_ra, xsum_long, xsum_double, xsum_null, xfl_nil, xfl_int, xfl_ref, xfl_ra, xfl_null, xfl_long, xfl_double, List.length_cons, List.length_nil, t50, tf, n1, c0, t0, s0, s2, s3, kpn, k1, ta, a1, a2, u1, u2, e1, e2, tv, xfk, xfv, xak, xan, xcls, xsv', List.getElem?_cons_zero, List.getElem?_cons_succ, List.getD_cons_zero, List.getD_cons_succ, Option.getD_some, Option.isSome_some, if_true, if_pos, xcont, Option.toList_none, Option.toList_some, List.nil_append, List.cons_append]
      · have hP : ¬ nfP A z a v f = true := by unfold nfP; rw [decide_eq_false e2, Bool.and_false]; decide
        rw [if_neg hP]
        obtain ⟨G', v'', j1, j2, j3⟩ := ih (f + 1) g1 f (by omega) (by omega) hN1
        refine ⟨G', v'', fun h hh => (j1 h hh).trans (f1 h hh), j2, fun Q => ?_⟩
        rw [← j3 Q, w_iload4 (pc' := 19) q60 d60_17 rfl]
        simp (config := { decide := true }) only [w_bipush (z' := (50)) (pc' := 21) q60 d60_19 rfl (by decide), w_icmp_gt (tg := 85) (pc' := 24) q60 d60_21 (by decide) rfl, w_aload_n0 (pc' := 25) q60 d60_24 rfl, w_getV (pc' := 28) q60 d60_25 rfl f60_23, w_getV (pc' := 31) q60 d60_28 rfl f60_80, w_iload_n1 (pc' := 32) q60 d60_31 rfl, w_iload4 (pc' := 34) q60 d60_32 rfl, w_invv2 (ci := 9) (pc' := 37) q60 d60_34 rfl n60_98 k60_98_9 m159.1, w_aload_n0 (pc' := 38) q60 d60_37 rfl, w_getV (pc' := 41) q60 d60_38 rfl f60_23, w_invv0 (ci := 2) (pc' := 44) q60 d60_41 rfl n60_275 k60_275_2 m64.1, w_pop (pc' := 45) q60 d60_44 rfl, w_aload_n0 (pc' := 46) q60 d60_45 rfl, w_getV (pc' := 49) q60 d60_46 rfl f60_23, w_getV (pc' := 52) q60 d60_49 rfl f60_80, w_getV (pc' := 55) q60 d60_52 rfl f60_245, w_iload_n2 (pc' := 56) q60 d60_55 rfl, w_iaload (pc' := 57) q60 d60_56 rfl, w_if_ne (tg := 79) (pc' := 60) q60 d60_57 (by decide) rfl, w_aload_n0 (pc' := 61) q60 d60_60 rfl, w_getV (pc' := 64) q60 d60_61 rfl f60_23, w_getV (pc' := 67) q60 d60_64 rfl f60_80, w_getV (pc' := 70) q60 d60_67 rfl f60_278, w_iload_n2 (pc' := 71) q60 d60_70 rfl, w_iaload (pc' := 72) q60 d60_71 rfl, w_iload_n3 (pc' := 73) q60 d60_72 rfl, w_icmp_ne (tg := 79) (pc' := 76) q60 d60_73 (by decide) rfl, w_iload4 (pc' := 78) q60 d60_76 rfl, w_ireturn q60 d60_78 m60.2.1, w_iinc4 (z := (1)) (pc' := 82) q60 d60_79 rfl, w_goto (tg := 17) q60 d60_82 (by decide), gs_off, gs_off0, gs_0off, gs_2, xN_0, xN_2, xN_3, xN_6, xN_7, xN_8, xN_9, xN_10, xN_11, xN_12, xN_13, xN_14, xN_15, xN_16, xN_17, xN_18, xN_19, xN_20, xN_21, xN_22, xN_23, xN_24, xN_25, xN_26, xN_27, xN_28, xN_29, xN_30, xN_31, xN_32, xN_33, xN_34, xN_35, xN_36, xN_37, xN_38, xN_39, xN_40, xN_41, xN_42, xN_43, xN_44, xN_45, xN_46, xN_47, xN_48, xN_49, xN_50, xN_51, xN_52, xN_53, xN_54, xN_55, ti_0, ti_1, ti_2, ti_3, ti_4, ti_5, ti_6, ti_7, ti_8, ti_9, ti_10, ti_16, ti_19, ti_20, ti_29, ti_30, ti_31, ti_32, ti_35, ti_36, ti_38, ti_39, ti_40, ti_41, ti_42, ti_43, ti_44, ti_45, ti_46, ti_47, ti_48, ti_49, ti_50, ti_51, ti_52, ti_53, ti_54, ti_55, ti_56, ti_57, ti_58, ti_59, ti_60, ti_61, ti_62, ti_63, ti_64, ti_65, ti_74, ti_77, ti_126, ti_200, ti_201, ti_202, ti_203, ti_204, ti_205, ti_210, ti_255, ti_256, ti_400, ti_512, ti_600, ti_601, ti_602, ti_1000, ti_1023, ti_1024, ti_2000, ti_10000, ti_12602, ti_999999, ti_m999999, ti_m1, ti_2000000, ti_3000000, xN_1, xN_4, xN_5, xN_60, xN_61, xN_64, xN_200, xN_800, xN_12000, xN_12602, eq_self, and_self, and_true, true_and, if_true, if_false, decide_true, Nat.reduceLeDiff, xc2_int, xc2_ref, xc2_ra, xc2_null, xc2_long, xc2_none, xisaT_ref, xisaT_ra, xisaT_null, xc1T_int, xc1T_ref, xc1T_ra, xc1T_null, xsum_nil, xsum_int, xsum_ref, xsum_ra, xsum_long, xsum_double, xsum_null, xfl_nil, xfl_int, xfl_ref, xfl_ra, xfl_null, xfl_long, xfl_double, List.length_cons, List.length_nil, t50, tf, n1, c0, t0, s0, s2, s3, kpn, k1, ta, a1, a2, u1, u2, e1, tw, e2, tv, xfk, xfv, xak, xan, xcls, xsv', List.getElem?_cons_zero, List.getElem?_cons_succ, List.getD_cons_zero, List.getD_cons_succ, Option.getD_some, Option.isSome_some, if_true, if_pos, xcont, Option.toList_none, Option.toList_some, List.nil_append, List.cons_append]
    · have hP : ¬ nfP A z a v f = true := by unfold nfP; rw [decide_eq_false e1, Bool.false_and]; decide
      rw [if_neg hP]
      obtain ⟨G', v'', j1, j2, j3⟩ := ih (f + 1) g1 f (by omega) (by omega) hN1
      refine ⟨G', v'', fun h hh => (j1 h hh).trans (f1 h hh), j2, fun Q => ?_⟩
      rw [← j3 Q, w_iload4 (pc' := 19) q60 d60_17 rfl]
      simp (config := { decide := true }) only [w_bipush (z' := (50)) (pc' := 21) q60 d60_19 rfl (by decide), w_icmp_gt (tg := 85) (pc' := 24) q60 d60_21 (by decide) rfl, w_aload_n0 (pc' := 25) q60 d60_24 rfl, w_getV (pc' := 28) q60 d60_25 rfl f60_23, w_getV (pc' := 31) q60 d60_28 rfl f60_80, w_iload_n1 (pc' := 32) q60 d60_31 rfl, w_iload4 (pc' := 34) q60 d60_32 rfl, w_invv2 (ci := 9) (pc' := 37) q60 d60_34 rfl n60_98 k60_98_9 m159.1, w_aload_n0 (pc' := 38) q60 d60_37 rfl, w_getV (pc' := 41) q60 d60_38 rfl f60_23, w_invv0 (ci := 2) (pc' := 44) q60 d60_41 rfl n60_275 k60_275_2 m64.1, w_pop (pc' := 45) q60 d60_44 rfl, w_aload_n0 (pc' := 46) q60 d60_45 rfl, w_getV (pc' := 49) q60 d60_46 rfl f60_23, w_getV (pc' := 52) q60 d60_49 rfl f60_80, w_getV (pc' := 55) q60 d60_52 rfl f60_245, w_iload_n2 (pc' := 56) q60 d60_55 rfl, w_iaload (pc' := 57) q60 d60_56 rfl, w_if_ne (tg := 79) (pc' := 60) q60 d60_57 (by decide) rfl, w_aload_n0 (pc' := 61) q60 d60_60 rfl, w_getV (pc' := 64) q60 d60_61 rfl f60_23, w_getV (pc' := 67) q60 d60_64 rfl f60_80, w_getV (pc' := 70) q60 d60_67 rfl f60_278, w_iload_n2 (pc' := 71) q60 d60_70 rfl, w_iaload (pc' := 72) q60 d60_71 rfl, w_iload_n3 (pc' := 73) q60 d60_72 rfl, w_icmp_ne (tg := 79) (pc' := 76) q60 d60_73 (by decide) rfl, w_iload4 (pc' := 78) q60 d60_76 rfl, w_ireturn q60 d60_78 m60.2.1, w_iinc4 (z := (1)) (pc' := 82) q60 d60_79 rfl, w_goto (tg := 17) q60 d60_82 (by decide), gs_off, gs_off0, gs_0off, gs_2, xN_0, xN_2, xN_3, xN_6, xN_7, xN_8, xN_9, xN_10, xN_11, xN_12, xN_13, xN_14, xN_15, xN_16, xN_17, xN_18, xN_19, xN_20, xN_21, xN_22, xN_23, xN_24, xN_25, xN_26, xN_27, xN_28, xN_29, xN_30, xN_31, xN_32, xN_33, xN_34, xN_35, xN_36, xN_37, xN_38, xN_39, xN_40, xN_41, xN_42, xN_43, xN_44, xN_45, xN_46, xN_47, xN_48, xN_49, xN_50, xN_51, xN_52, xN_53, xN_54, xN_55, ti_0, ti_1, ti_2, ti_3, ti_4, ti_5, ti_6, ti_7, ti_8, ti_9, ti_10, ti_16, ti_19, ti_20, ti_29, ti_30, ti_31, ti_32, ti_35, ti_36, ti_38, ti_39, ti_40, ti_41, ti_42, ti_43, ti_44, ti_45, ti_46, ti_47, ti_48, ti_49, ti_50, ti_51, ti_52, ti_53, ti_54, ti_55, ti_56, ti_57, ti_58, ti_59, ti_60, ti_61, ti_62, ti_63, ti_64, ti_65, ti_74, ti_77, ti_126, ti_200, ti_201, ti_202, ti_203, ti_204, ti_205, ti_210, ti_255, ti_256, ti_400, ti_512, ti_600, ti_601, ti_602, ti_1000, ti_1023, ti_1024, ti_2000, ti_10000, ti_12602, ti_999999, ti_m999999, ti_m1, ti_2000000, ti_3000000, xN_1, xN_4, xN_5, xN_60, xN_61, xN_64, xN_200, xN_800, xN_12000, xN_12602, eq_self, and_self, and_true, true_and, if_true, if_false, decide_true, Nat.reduceLeDiff, xc2_int, xc2_ref, xc2_ra, xc2_null, xc2_long, xc2_none, xisaT_ref, xisaT_ra, xisaT_null, xc1T_int, xc1T_ref, xc1T_ra, xc1T_null, xsum_nil, xsum_int, xsum_ref, xsum_ra, xsum_long, xsum_double, xsum_null, xfl_nil, xfl_int, xfl_ref, xfl_ra, xfl_null, xfl_long, xfl_double, List.length_cons, List.length_nil, t50, tf, n1, c0, t0, s0, s2, s3, kpn, k1, ta, a1, a2, u1, te, e1, xfk, xfv, xak, xan, xcls, xsv', List.getElem?_cons_zero, List.getElem?_cons_succ, List.getD_cons_zero, List.getD_cons_succ, Option.getD_some, Option.isSome_some, if_true, if_pos, xcont, Option.toList_none, Option.toList_some, List.nil_append, List.cons_append]
theorem q_numberFor {z a v : Int} (hS : CsS S c p k t o y b m) (hI : CdI g c p k t o y P A sn H) (tz : ti z = z) (ta : ti a = a) (tv : ti v = v) (hs : isB z → ∀ v, -999999 ≤ v ∧ v ≤ 999999 → SlR (tmpA A z 1 v) (flA (tmpA A z 1 v)) (vlA (tmpA A z 1 v)) (odA (tmpA A z 1 v)) (onA (tmpA A z 1 v)) (lnA (tmpA A z 1 v)) (plA (tmpA A z 1 v))) :
    (¬ (isB z ∧ isB a) → CRs X S g c p k t o y b m 60 (d + 300) [.ref c, .int (iI z), .int (iI a), .int (iI v)] (.inr 0) P A sn H) ∧
    (isB z ∧ isB a → CRs X S g c p k t o y b m 60 (d + 300) [.ref c, .int (iI z), .int (iI a), .int (iI v)] (.inl (some (.int (iI (low (nfP A z a v) 0 51))))) P A sn H) := by
  have hS' := hS
  obtain ⟨c0, ⟨hp0, hk0, ht0, ho0, hy0⟩, hL⟩ := hS
  obtain ⟨k0, kS, kL⟩ := id hk0
  obtain ⟨t0, tS, tL⟩ := id ht0
  have hrz := c_requireCell (X := X) (S := S) (g := g) (d := d + 298) tz
  have hra := c_requireCell (X := X) (S := S) (g := g) (d := d + 298) ta
  have h60 : xMh 60 = [] := by decide +kernel
  refine ⟨fun h => CR_x hI fun Q => ?_, fun ⟨h1, h2⟩ => ?_⟩
  · rw [e60]
    by_cases h1 : isB z
    · have r1 := hrz.1 h1
      have r2 := hra.2 (fun e => h ⟨h1, e⟩)
      simp (config := { decide := true }) only [w_iload_n1 (pc' := 1) q60 d60_0 rfl, w_invs1 (pc' := 4) q60 d60_1 rfl (by decide +kernel) k60_74_99 m15.1, w_iload_n2 (pc' := 5) q60 d60_4 rfl, w_invs1 (pc' := 8) q60 d60_5 rfl (by decide +kernel) k60_74_99 m15.1, gs_off, gs_off0, gs_0off, gs_2, xN_0, xN_2, xN_3, xN_6, xN_7, xN_8, xN_9, xN_10, xN_11, xN_12, xN_13, xN_14, xN_15, xN_16, xN_17, xN_18, xN_19, xN_20, xN_21, xN_22, xN_23, xN_24, xN_25, xN_26, xN_27, xN_28, xN_29, xN_30, xN_31, xN_32, xN_33, xN_34, xN_35, xN_36, xN_37, xN_38, xN_39, xN_40, xN_41, xN_42, xN_43, xN_44, xN_45, xN_46, xN_47, xN_48, xN_49, xN_50, xN_51, xN_52, xN_53, xN_54, xN_55, ti_0, ti_1, ti_2, ti_3, ti_4, ti_5, ti_6, ti_7, ti_8, ti_9, ti_10, ti_16, ti_19, ti_20, ti_29, ti_30, ti_31, ti_32, ti_35, ti_36, ti_38, ti_39, ti_40, ti_41, ti_42, ti_43, ti_44, ti_45, ti_46, ti_47, ti_48, ti_49, ti_50, ti_51, ti_52, ti_53, ti_54, ti_55, ti_56, ti_57, ti_58, ti_59, ti_60, ti_61, ti_62, ti_63, ti_64, ti_65, ti_74, ti_77, ti_126, ti_200, ti_201, ti_202, ti_203, ti_204, ti_205, ti_210, ti_255, ti_256, ti_400, ti_512, ti_600, ti_601, ti_602, ti_1000, ti_1023, ti_1024, ti_2000, ti_10000, ti_12602, ti_999999, ti_m999999, ti_m1, ti_2000000, ti_3000000, xN_1, xN_4, xN_5, xN_60, xN_61, xN_64, xN_200, xN_800, xN_12000, xN_12602, eq_self, and_self, and_true, true_and, if_true, if_false, decide_true, Nat.reduceLeDiff, xc2_int, xc2_ref, xc2_ra, xc2_null, xc2_long, xc2_none, xisaT_ref, xisaT_ra, xisaT_null, xc1T_int, xc1T_ref, xc1T_ra, xc1T_null, xsum_nil, xsum_int, xsum_ref, xsum_ra, xsum_long, xsum_double, xsum_null, xfl_nil, xfl_int, xfl_ref, xfl_ra, xfl_null, xfl_long, xfl_double, List.length_cons, List.length_nil, r1, r2, xth_n h60, xfk, xfv, xak, xan, xcls, xsv', List.getElem?_cons_zero, List.getElem?_cons_succ, List.getD_cons_zero, List.getD_cons_succ, Option.getD_some, Option.isSome_some, if_true, if_pos, xcont, Option.toList_none, Option.toList_some, List.nil_append, List.cons_append]
    · have r1 := hrz.2 h1
      simp (config := { decide := true }) only [w_iload_n1 (pc' := 1) q60 d60_0 rfl, w_invs1 (pc' := 4) q60 d60_1 rfl (by decide +kernel) k60_74_99 m15.1, gs_off, gs_off0, gs_0off, gs_2, xN_0, xN_2, xN_3, xN_6, xN_7, xN_8, xN_9, xN_10, xN_11, xN_12, xN_13, xN_14, xN_15, xN_16, xN_17, xN_18, xN_19, xN_20, xN_21, xN_22, xN_23, xN_24, xN_25, xN_26, xN_27, xN_28, xN_29, xN_30, xN_31, xN_32, xN_33, xN_34, xN_35, xN_36, xN_37, xN_38, xN_39, xN_40, xN_41, xN_42, xN_43, xN_44, xN_45, xN_46, xN_47, xN_48, xN_49, xN_50, xN_51, xN_52, xN_53, xN_54, xN_55, ti_0, ti_1, ti_2, ti_3, ti_4, ti_5, ti_6, ti_7, ti_8, ti_9, ti_10, ti_16, ti_19, ti_20, ti_29, ti_30, ti_31, ti_32, ti_35, ti_36, ti_38, ti_39, ti_40, ti_41, ti_42, ti_43, ti_44, ti_45, ti_46, ti_47, ti_48, ti_49, ti_50, ti_51, ti_52, ti_53, ti_54, ti_55, ti_56, ti_57, ti_58, ti_59, ti_60, ti_61, ti_62, ti_63, ti_64, ti_65, ti_74, ti_77, ti_126, ti_200, ti_201, ti_202, ti_203, ti_204, ti_205, ti_210, ti_255, ti_256, ti_400, ti_512, ti_600, ti_601, ti_602, ti_1000, ti_1023, ti_1024, ti_2000, ti_10000, ti_12602, ti_999999, ti_m999999, ti_m1, ti_2000000, ti_3000000, xN_1, xN_4, xN_5, xN_60, xN_61, xN_64, xN_200, xN_800, xN_12000, xN_12602, eq_self, and_self, and_true, true_and, if_true, if_false, decide_true, Nat.reduceLeDiff, xc2_int, xc2_ref, xc2_ra, xc2_null, xc2_long, xc2_none, xisaT_ref, xisaT_ra, xisaT_null, xc1T_int, xc1T_ref, xc1T_ra, xc1T_null, xsum_nil, xsum_int, xsum_ref, xsum_ra, xsum_long, xsum_double, xsum_null, xfl_nil, xfl_int, xfl_ref, xfl_ra, xfl_null, xfl_long, xfl_double, List.length_cons, List.length_nil, r1, xth_n h60, xfk, xfv, xak, xan, xcls, xsv', List.getElem?_cons_zero, List.getElem?_cons_succ, List.getD_cons_zero, List.getD_cons_succ, Option.getD_some, Option.isSome_some, if_true, if_pos, xcont, Option.toList_none, Option.toList_some, List.nil_append, List.cons_append]
  · have r1 := hrz.1 h1
    have r2 := hra.1 h2
    obtain ⟨g1, g2, n, f1, f2, f3, f4, f5, f6, k1, k2⟩ := c_tryPut (X := X) (D1 := d + 295) (D2 := d + 298) hS' hI (hs h1 0 (by decide)) h1 (.inr rfl) (by decide) (fun e => absurd e (by decide)) (by omega)
    have kpn : ∀ Q, Cw X (d + 298) 159 [.ref (t + 1), .int (iI z), .int (iI 0)] (hp S g1) Q = Q (.inl none) (hp S (gPut g1 (t + 1) z 1 0)) := fun Q => c_putNumber (X := X) (d := d + 296) (g := g1) tS h1.1 h1.2
    have k59 : ∀ Q, Cw X (d + 299) 59 [.ref c, .int (iI z), .int (iI 0)] (hp S g) Q = Q (.inl none) (hp S g2) := fun Q => by
      rw [e59]
      simp (config := { decide := true }) only [w_aload_n0 (pc' := 1) q59 d59_0 rfl, w_getV (pc' := 4) q59 d59_1 rfl f59_23, w_getV (pc' := 7) q59 d59_4 rfl f59_80, w_aload_n0 (pc' := 8) q59 d59_7 rfl, w_getV (pc' := 11) q59 d59_8 rfl f59_19, w_getV (pc' := 14) q59 d59_11 rfl f59_80, w_invv1 (ci := 9) (pc' := 17) q59 d59_14 rfl n59_171 k59_171_9 m149.1, w_aload_n0 (pc' := 18) q59 d59_17 rfl, w_getV (pc' := 21) q59 d59_18 rfl f59_23, w_getV (pc' := 24) q59 d59_21 rfl f59_80, w_iload_n1 (pc' := 25) q59 d59_24 rfl, w_iload_n2 (pc' := 26) q59 d59_25 rfl, w_invv2 (ci := 9) (pc' := 29) q59 d59_26 rfl n59_98 k59_98_9 m159.1, w_aload_n0 (pc' := 30) q59 d59_29 rfl, w_getV (pc' := 33) q59 d59_30 rfl f59_23, w_iload_n1 (pc' := 34) q59 d59_33 rfl, w_invv1 (ci := 2) (pc' := 37) q59 d59_34 rfl n59_91 k59_91_2 m63.1, w_pop (pc' := 38) q59 d59_37 rfl, w_return q59 d59_38 m59.2.1, gs_off, gs_off0, gs_0off, gs_2, xN_0, xN_2, xN_3, xN_6, xN_7, xN_8, xN_9, xN_10, xN_11, xN_12, xN_13, xN_14, xN_15, xN_16, xN_17, xN_18, xN_19, xN_20, xN_21, xN_22, xN_23, xN_24, xN_25, xN_26, xN_27, xN_28, xN_29, xN_30, xN_31, xN_32, xN_33, xN_34, xN_35, xN_36, xN_37, xN_38, xN_39, xN_40, xN_41, xN_42, xN_43, xN_44, xN_45, xN_46, xN_47, xN_48, xN_49, xN_50, xN_51, xN_52, xN_53, xN_54, xN_55, ti_0, ti_1, ti_2, ti_3, ti_4, ti_5, ti_6, ti_7, ti_8, ti_9, ti_10, ti_16, ti_19, ti_20, ti_29, ti_30, ti_31, ti_32, ti_35, ti_36, ti_38, ti_39, ti_40, ti_41, ti_42, ti_43, ti_44, ti_45, ti_46, ti_47, ti_48, ti_49, ti_50, ti_51, ti_52, ti_53, ti_54, ti_55, ti_56, ti_57, ti_58, ti_59, ti_60, ti_61, ti_62, ti_63, ti_64, ti_65, ti_74, ti_77, ti_126, ti_200, ti_201, ti_202, ti_203, ti_204, ti_205, ti_210, ti_255, ti_256, ti_400, ti_512, ti_600, ti_601, ti_602, ti_1000, ti_1023, ti_1024, ti_2000, ti_10000, ti_12602, ti_999999, ti_m999999, ti_m1, ti_2000000, ti_3000000, xN_1, xN_4, xN_5, xN_60, xN_61, xN_64, xN_200, xN_800, xN_12000, xN_12602, eq_self, and_self, and_true, true_and, if_true, if_false, decide_true, Nat.reduceLeDiff, xc2_int, xc2_ref, xc2_ra, xc2_null, xc2_long, xc2_none, xisaT_ref, xisaT_ra, xisaT_null, xc1T_int, xc1T_ref, xc1T_ra, xc1T_null, xsum_nil, xsum_int, xsum_ref, xsum_ra, xsum_long, xsum_double, xsum_null, xfl_nil, xfl_int, xfl_ref, xfl_ra, xfl_null, xfl_long, xfl_double, List.length_cons, List.length_nil, c0, k0, kS.1, t0, tS.1, k1, kpn, k2, xfk, xfv, xak, xan, xcls, xsv', List.getElem?_cons_zero, List.getElem?_cons_succ, List.getD_cons_zero, List.getD_cons_succ, Option.getD_some, Option.isSome_some, if_true, if_pos, xcont, Option.toList_none, Option.toList_some, List.nil_append, List.cons_append]
    obtain ⟨g3, v3, f7, hN, k3⟩ := l_cnum (X := X) (d := d) (a := a) (v := v) hS' (hs h1) hI.2.1.2.2 h1 h2 tv 51 0 g2 0 (by decide) (by decide) ⟨f2, f3, f4, f5⟩
    refine CR_g hS' (fun j jj => (f7 j (by omega)).trans (f1 j (by omega))) (CdI_tri (by omega) (fun h hh => (f7 h hh).trans (f1 h hh)) (TrI_of hN.1) hI) fun Q => ?_
    rw [e60]
    simp (config := { decide := true }) only [w_iload_n1 (pc' := 1) q60 d60_0 rfl, w_invs1 (pc' := 4) q60 d60_1 rfl (by decide +kernel) k60_74_99 m15.1, w_iload_n2 (pc' := 5) q60 d60_4 rfl, w_invs1 (pc' := 8) q60 d60_5 rfl (by decide +kernel) k60_74_99 m15.1, w_aload_n0 (pc' := 9) q60 d60_8 rfl, w_iload_n1 (pc' := 10) q60 d60_9 rfl, w_iconst (pc' := 11) q60 d60_10 rfl, w_invv2 (ci := 10) (pc' := 14) q60 d60_11 rfl n60_272 k60_272_10 m59.1, w_iconst (pc' := 15) q60 d60_14 rfl, w_istore4 (pc' := 17) q60 d60_15 rfl, gs_off, gs_off0, gs_0off, gs_2, xN_0, xN_2, xN_3, xN_6, xN_7, xN_8, xN_9, xN_10, xN_11, xN_12, xN_13, xN_14, xN_15, xN_16, xN_17, xN_18, xN_19, xN_20, xN_21, xN_22, xN_23, xN_24, xN_25, xN_26, xN_27, xN_28, xN_29, xN_30, xN_31, xN_32, xN_33, xN_34, xN_35, xN_36, xN_37, xN_38, xN_39, xN_40, xN_41, xN_42, xN_43, xN_44, xN_45, xN_46, xN_47, xN_48, xN_49, xN_50, xN_51, xN_52, xN_53, xN_54, xN_55, ti_0, ti_1, ti_2, ti_3, ti_4, ti_5, ti_6, ti_7, ti_8, ti_9, ti_10, ti_16, ti_19, ti_20, ti_29, ti_30, ti_31, ti_32, ti_35, ti_36, ti_38, ti_39, ti_40, ti_41, ti_42, ti_43, ti_44, ti_45, ti_46, ti_47, ti_48, ti_49, ti_50, ti_51, ti_52, ti_53, ti_54, ti_55, ti_56, ti_57, ti_58, ti_59, ti_60, ti_61, ti_62, ti_63, ti_64, ti_65, ti_74, ti_77, ti_126, ti_200, ti_201, ti_202, ti_203, ti_204, ti_205, ti_210, ti_255, ti_256, ti_400, ti_512, ti_600, ti_601, ti_602, ti_1000, ti_1023, ti_1024, ti_2000, ti_10000, ti_12602, ti_999999, ti_m999999, ti_m1, ti_2000000, ti_3000000, xN_1, xN_4, xN_5, xN_60, xN_61, xN_64, xN_200, xN_800, xN_12000, xN_12602, eq_self, and_self, and_true, true_and, if_true, if_false, decide_true, Nat.reduceLeDiff, xc2_int, xc2_ref, xc2_ra, xc2_null, xc2_long, xc2_none, xisaT_ref, xisaT_ra, xisaT_null, xc1T_int, xc1T_ref, xc1T_ra, xc1T_null, xsum_nil, xsum_int, xsum_ref, xsum_ra, xsum_long, xsum_double, xsum_null, xfl_nil, xfl_int, xfl_ref, xfl_ra, xfl_null, xfl_long, xfl_double, List.length_cons, List.length_nil, r1, r2, c0, k59, xfk, xfv, xak, xan, xcls, xsv', List.getElem?_cons_zero, List.getElem?_cons_succ, List.getD_cons_zero, List.getD_cons_succ, Option.getD_some, Option.isSome_some, if_true, if_pos, xcont, Option.toList_none, Option.toList_some, List.nil_append, List.cons_append]
    rw [k3 Q]
end
