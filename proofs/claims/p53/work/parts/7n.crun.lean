/-! The class: orders are run -/
section
variable {X : xX} {S : xLm} {g g' : xGm} {d c p k t o y b m : Nat} {w : xH} {Q : xO → xH → Prop} {P P' : Pd} {A A' B : Sh} {sn : Option Sh} {H : List Sh}
theorem orF_B2 {ch : Int → Int} {a a' : Int} (h : orF ch a = .inl a') : a' ≤ a + 510 := by
  have hs := spF_rng (ch := ch) (fx := false) (a := a)
  unfold orF at h
  split at h
  · injection h with h; omega
  split at h
  · injection h with h; omega
  · generalize e : ctF ch 59 ((spF ch false a).2 + 1) = r at h
    cases r with
    | inl x =>
      have := ctF_B e
      injection h with h; omega
    | inr x => cases h
theorem osF_rng {ch : Int → Int} {n : Int} (hn : n ≤ 60) : ∀ (f : Nat) (a : Int), 0 ≤ a → osF ch n f a = -1 ∨ (0 ≤ osF ch n f a ∧ osF ch n f a ≤ 600)
  | 0, _, _ => .inl rfl
  | f + 1, a, ha => by
    rw [osF]
    split
    · exact .inl rfl
    · generalize er : orF ch a = r
      cases r with
      | inl a' =>
        have h1 := orF_B er
        have h2 := orF_B2 er
        right
        dsimp only
        omega
      | inr x =>
        obtain ⟨a', tg, kd, nu, tk⟩ := x
        have := orF_gt er
        exact osF_rng hn f a' (by omega)
theorem orF_out {a : Int} (ha : P.1 ≤ a) : ∃ a', orF (pdc P) a = .inl a' := by
  have h0 : pdc P (a + 0) = 0 := by unfold pdc; exact if_neg (by omega)
  have hs : (spF (pdc P) false a).1 = -1 := by
    unfold spF
    simp only [Bool.false_eq_true, false_and, if_false, h0]
    rw [if_pos (by decide)]
  unfold orF
  rw [hs, if_pos (by decide)]
  exact ⟨_, rfl⟩
theorem CR_gx {M D ee : Nat} {As : List Value} (hS : CsS S c p k t o y b m) (hf : ∀ h, b ≤ h → g' h = g h) (hI : CdI g' c p k t o y P A sn H) (h : ∀ Q, Cw X D M As (hp S g) Q = Q (.inr ee) (hp (xSx S) g')) : CRs X S g c p k t o y b m M D As (.inr ee) P A sn H :=
  ⟨xSx S, g', SEx_x (by decide) (by decide), fun j j1 _ => hf j (by have := hS.2.2; omega), TxE_keep (S := S) (S' := xSx S) (g := g) (m := m) (b := b) (fun _ _ => rfl) (Nat.le_refl _) (by have := hS.2.2; omega) (by have := hS.2.2; omega) (fun h hb _ => hf h hb) (by rw [xcst_x]; show S.2.2.1 + 1 ≤ _; omega) (by rw [xcst_x]; show S.2.2.2 + 6 ≤ _; omega), hI, h⟩
theorem l_crun (hS : CsS S c p k t o y b m) (hlen : ∀ a a' tg kd nu tk, 0 ≤ a → a ≤ P.1 → orF (pdc P) a = .inr (a', tg, kd, nu, tk) → (mks tk).length ≤ 60 ∧ tk.length ≤ 60) : ∀ (f : Nat) (a n : Int) (G : xGm) (B : Sh), n + f = 60 → 0 ≤ n → PdC G p P → G p 7 = a → StI G (k + 1) → StC G (k + 1) B → ShOK B → 0 ≤ a → a ≤ P.1 → osF (pdc P) P.1 f a = -1 →
    ∃ G', (∀ h, (h < p ∨ p + 5 < h) → (h < k + 2 ∨ k + 6 < h) → G' h = G h) ∧ PdC G' p P ∧ StI G' (k + 1) ∧ StC G' (k + 1) (orA (pdc P) P.1 f a B).1 ∧ ShOK (orA (pdc P) P.1 f a B).1 ∧ ∀ Q, Wx X (d + 300) 28 44 [some (.ref c), some (.int (iI n))] [] (hp S G) Q = Wx X (d + 300) 28 87 [some (.ref c), some (.int (iI (n + (orA (pdc P) P.1 f a B).2)))] [] (hp S G') Q := by
  obtain ⟨c0, ⟨hp0, hk0, ht0, ho0, hy0⟩, hL⟩ := hS
  obtain ⟨k0, kS, kL⟩ := id hk0
  have p0 := hp0.1
  have t60 : ti 60 = 60 := by decide
  intro f
  induction f with
  | zero =>
    intro a n G B hn hn0 hP h7 hI hC hB ha ha2 ho
    have en : n = 60 := by omega
    have hge : (60 : Int) ≤ 60 := Int.le_refl _
    refine ⟨G, fun _ _ _ => rfl, hP, hI, hC, hB, fun Q => ?_⟩
    rw [show (orA (pdc P) P.1 0 a B).2 = 0 from rfl, Int.add_zero, en, w_iload_n1 (pc' := 45) q28 d28_44 rfl]
    simp (config := { decide := true }) only [w_bipush (z' := (60)) (pc' := 47) q28 d28_45 rfl (by decide), w_icmp_ge (tg := 87) (pc' := 50) q28 d28_47 (by decide) rfl, gs_off, gs_off0, gs_0off, gs_2, xN_0, xN_2, xN_3, xN_6, xN_7, xN_8, xN_9, xN_10, xN_11, xN_12, xN_13, xN_14, xN_15, xN_16, xN_17, xN_18, xN_19, xN_20, xN_21, xN_22, xN_23, xN_24, xN_25, xN_26, xN_27, xN_28, xN_29, xN_30, xN_31, xN_32, xN_33, xN_34, xN_35, xN_36, xN_37, xN_38, xN_39, xN_40, xN_41, xN_42, xN_43, xN_44, xN_45, xN_46, xN_47, xN_48, xN_49, xN_50, xN_51, xN_52, xN_53, xN_54, xN_55, ti_0, ti_1, ti_2, ti_3, ti_4, ti_5, ti_6, ti_7, ti_8, ti_9, ti_10, ti_16, ti_19, ti_20, ti_29, ti_30, ti_31, ti_32, ti_35, ti_36, ti_38, ti_39, ti_40, ti_41, ti_42, ti_43, ti_44, ti_45, ti_46, ti_47, ti_48, ti_49, ti_50, ti_51, ti_52, ti_53, ti_54, ti_55, ti_56, ti_57, ti_58, ti_59, ti_60, ti_61, ti_62, ti_63, ti_64, ti_65, ti_74, ti_77, ti_126, ti_200, ti_201, ti_202, ti_203, ti_204, ti_205, ti_210, ti_255, ti_256, ti_400, ti_512, ti_600, ti_601, ti_602, ti_1000, ti_1023, ti_1024, ti_2000, ti_10000, ti_12602, ti_999999, ti_m999999, ti_m1, ti_2000000, ti_3000000, xN_1, xN_4, xN_5, xN_60, xN_61, xN_64, xN_200, xN_800, xN_12000, xN_12602, eq_self, and_self, and_true, true_and, if_true, if_false, decide_true, Nat.reduceLeDiff, xc2_int, xc2_ref, xc2_ra, xc2_null, xc2_long, xc2_none, xisaT_ref, xisaT_ra, xisaT_null, xc1T_int, xc1T_ref, xc1T_ra, xc1T_null, xsum_nil, xsum_int, xsum_ref, xsum_ra, xsum_long, xsum_double, xsum_null, xfl_nil, xfl_int, xfl_ref, xfl_ra, xfl_null, xfl_long, xfl_double, List.length_cons, List.length_nil, t60, hge, xfk, xfv, xak, xan, xcls, xsv', List.getElem?_cons_zero, List.getElem?_cons_succ, List.getD_cons_zero, List.getD_cons_succ, Option.getD_some, Option.isSome_some, if_true, if_pos, xcont, Option.toList_none, Option.toList_some, List.nil_append, List.cons_append]
  | succ f ih =>
    intro a n G B hn hn0 hP h7 hI hC hB ha ha2 ho
    have hl := hP.1.2.1
    rw [hP.2.1] at hl
    have hn2 : ¬ 60 ≤ n := by omega
    have tn : ti n = n := ti_eq (by omega) (by omega)
    have hro := c_readOrder (X := X) (d := d + 290) (g := G) (p := p) (a := a) hp0 hP.1 ha (by omega)
    rw [PdC_ch hP, gAt_self h7] at hro
    by_cases hge : P.1 ≤ a
    · obtain ⟨a', ea⟩ := orF_out hge
      rw [ea] at hro
      obtain ⟨g', f1, k1⟩ := hro
      have f2 : FrO G (gAt g' p a') p := FrO_trans f1 (FrO_Q FrQ_at)
      rw [orA_end hge, Int.add_zero]
      refine ⟨gAt g' p a', fun h h1 _ => f2.1 h (by omega) (by omega) (by omega) (by omega) (by omega), PdC_FrO f2 hP, StI_congr (fun j _ _ => f2.1 _ (by omega) (by omega) (by omega) (by omega) (by omega)) hI, StC_congr (fun j _ _ => f2.1 _ (by omega) (by omega) (by omega) (by omega) (by omega)) hC, hB, fun Q => ?_⟩
      dsimp only at k1
      rw [w_iload_n1 (pc' := 45) q28 d28_44 rfl]
      simp (config := { decide := true }) only [w_bipush (z' := (60)) (pc' := 47) q28 d28_45 rfl (by decide), w_icmp_ge (tg := 87) (pc' := 50) q28 d28_47 (by decide) rfl, w_aload_n0 (pc' := 51) q28 d28_50 rfl, w_getV (pc' := 54) q28 d28_51 rfl f28_12, w_invv0 (ci := 8) (pc' := 57) q28 d28_54 rfl n28_151 k28_151_8 m144.1, w_if_eq (tg := 87) (pc' := 60) q28 d28_57 (by decide) rfl, gs_off, gs_off0, gs_0off, gs_2, xN_0, xN_2, xN_3, xN_6, xN_7, xN_8, xN_9, xN_10, xN_11, xN_12, xN_13, xN_14, xN_15, xN_16, xN_17, xN_18, xN_19, xN_20, xN_21, xN_22, xN_23, xN_24, xN_25, xN_26, xN_27, xN_28, xN_29, xN_30, xN_31, xN_32, xN_33, xN_34, xN_35, xN_36, xN_37, xN_38, xN_39, xN_40, xN_41, xN_42, xN_43, xN_44, xN_45, xN_46, xN_47, xN_48, xN_49, xN_50, xN_51, xN_52, xN_53, xN_54, xN_55, ti_0, ti_1, ti_2, ti_3, ti_4, ti_5, ti_6, ti_7, ti_8, ti_9, ti_10, ti_16, ti_19, ti_20, ti_29, ti_30, ti_31, ti_32, ti_35, ti_36, ti_38, ti_39, ti_40, ti_41, ti_42, ti_43, ti_44, ti_45, ti_46, ti_47, ti_48, ti_49, ti_50, ti_51, ti_52, ti_53, ti_54, ti_55, ti_56, ti_57, ti_58, ti_59, ti_60, ti_61, ti_62, ti_63, ti_64, ti_65, ti_74, ti_77, ti_126, ti_200, ti_201, ti_202, ti_203, ti_204, ti_205, ti_210, ti_255, ti_256, ti_400, ti_512, ti_600, ti_601, ti_602, ti_1000, ti_1023, ti_1024, ti_2000, ti_10000, ti_12602, ti_999999, ti_m999999, ti_m1, ti_2000000, ti_3000000, xN_1, xN_4, xN_5, xN_60, xN_61, xN_64, xN_200, xN_800, xN_12000, xN_12602, eq_self, and_self, and_true, true_and, if_true, if_false, decide_true, Nat.reduceLeDiff, xc2_int, xc2_ref, xc2_ra, xc2_null, xc2_long, xc2_none, xisaT_ref, xisaT_ra, xisaT_null, xc1T_int, xc1T_ref, xc1T_ra, xc1T_null, xsum_nil, xsum_int, xsum_ref, xsum_ra, xsum_long, xsum_double, xsum_null, xfl_nil, xfl_int, xfl_ref, xfl_ra, xfl_null, xfl_long, xfl_double, List.length_cons, List.length_nil, t60, tn, hn2, c0, p0, k1, xfk, xfv, xak, xan, xcls, xsv', List.getElem?_cons_zero, List.getElem?_cons_succ, List.getD_cons_zero, List.getD_cons_succ, Option.getD_some, Option.isSome_some, if_true, if_pos, xcont, Option.toList_none, Option.toList_some, List.nil_append, List.cons_append]
    · rw [osF, if_neg hge] at ho
      rw [orA, if_neg hge]
      generalize er : orF (pdc P) a = r at hro ho ⊢
      cases r with
      | inl a' =>
        have := orF_B er
        dsimp only at ho
        omega
      | inr x =>
        obtain ⟨a', tg, kd, nu, tk⟩ := x
        obtain ⟨g', f1, h2', hrd, k1⟩ := hro
        dsimp only at k1 ho ⊢
        have f2 : FrO G (gAt g' p a') p := FrO_trans f1 (FrO_Q FrQ_at)
        have hend := orF_end (g := G) (p := p) hP.1 ha (by rw [PdC_ch hP]; exact er)
        rw [hP.2.1] at hend
        have hgt := orF_gt er
        have htr := orF_tree er
        obtain ⟨hl1, hl2⟩ := hlen a a' tg kd nu tk ha ha2 er
        have rd := RdI_at (a := a') hrd
        obtain ⟨G1, eG1⟩ : ∃ G1, G1 = gAt g' p a' := ⟨_, rfl⟩
        have e2 : G1 p 2 = tg := by rw [eG1, gAt_o (by decide)]; exact h2'
        have e7 : G1 p 7 = a' := by rw [eG1]; exact gAt_a _ _ _
        rw [← eG1] at k1 f2 rd
        obtain ⟨d3, d4, d5, d6, d7⟩ := rd
        have hk : kd = 0 ∨ kd = 1 ∨ kd = 2 := by omega
        have hok : ∀ x ∈ tk, okG x := by
          rcases htr.1 with ⟨-, v', rr, n', hT⟩ | ⟨-, e, -⟩
          · exact Tr_okG _ _ _ _ _ hT
          · rw [e]; intro x hx; cases hx
        have p2 : kd = 2 → (∃ v : Ev, ∃ r n, Tr 0 r n tk v) ∧ (mks tk).length ≤ 60 := fun e => by
          rcases htr.1 with ⟨-, hh⟩ | ⟨hh, -⟩
          · exact ⟨hh, hl1⟩
          · omega
        have hpr : ∀ Q, Cw X (d + 299) 156 [.ref (k + 1), .int (iI tg), .ref p] (hp S G1) Q = Q (.inl none) (hp S (gRd G1 (k + 1) tg kd (G1 p 4) tk.length (G1 (p + 2)))) := fun Q => c_putRead (X := X) (d := d + 297) (g := G1) kS hp0 (by omega) hend.2.1 hend.2.2 d3 rfl d6 (by omega) (by omega)
        have r1 : StI G1 (k + 1) := StI_congr (fun j _ _ => f2.1 _ (by omega) (by omega) (by omega) (by omega) (by omega)) hI
        have r2 : StC G1 (k + 1) B := StC_congr (fun j _ _ => f2.1 _ (by omega) (by omega) (by omega) (by omega) (by omega)) hC
        have F := gRd_F (g := G1) (a := k + 1) (z := tg) (kd := kd) (v := G1 p 4) (n := tk.length) (r := G1 (p + 2))
        have s1 := StI_gRd (z := tg) (kd := kd) r1 (by omega) d5 hl2 d7 hok
        have s2 : StC (gRd G1 (k + 1) tg kd (G1 p 4) tk.length (G1 (p + 2))) (k + 1) (shP B tg kd nu tk) := StC_gRd r2 r1 hend.2 d7 hl2 (fun e => d4 (by omega)) (fun e => by
          rw [d4 (by omega)]
          rcases htr.1 with ⟨e2, -⟩ | ⟨-, -, -, -, e2⟩
          · omega
          · exact e2 e) (fun e => by
          rcases htr.1 with ⟨e2, -⟩ | ⟨-, e2, -⟩
          · exact absurd e2 e
          · exact e2)
        obtain ⟨G2, eG2⟩ : ∃ G2, G2 = gRd G1 (k + 1) tg kd (G1 p 4) tk.length (G1 (p + 2)) := ⟨_, rfl⟩
        rw [← eG2] at F s1 s2 hpr
        obtain ⟨G', i1, i2, i3, i4, i5, i6⟩ := ih a' (n + 1) G2 (shP B tg kd nu tk) (by omega) (by omega) (PdC_congr (by rw [F p (by omega)]) (F (p + 1) (by omega)) (PdC_FrO f2 hP)) (by rw [F p (by omega)]; exact e7) s1 s2 (ShOK_put hB hk p2 (fun _ => htr.2)) (by omega) hend.1 ho
        refine ⟨G', fun h h1 h2 => (i1 h h1 h2).trans ((F h (by omega)).trans (f2.1 h (by omega) (by omega) (by omega) (by omega) (by omega))), i2, i3, i4, i5, fun Q => ?_⟩
        rw [show n + ((orA (pdc P) P.1 f a' (shP B tg kd nu tk)).2 + 1) = n + 1 + (orA (pdc P) P.1 f a' (shP B tg kd nu tk)).2 by omega, ← i6 Q, w_iload_n1 (pc' := 45) q28 d28_44 rfl]
        simp (config := { decide := true }) only [w_bipush (z' := (60)) (pc' := 47) q28 d28_45 rfl (by decide), w_icmp_ge (tg := 87) (pc' := 50) q28 d28_47 (by decide) rfl, w_aload_n0 (pc' := 51) q28 d28_50 rfl, w_getV (pc' := 54) q28 d28_51 rfl f28_12, w_invv0 (ci := 8) (pc' := 57) q28 d28_54 rfl n28_151 k28_151_8 m144.1, w_if_eq (tg := 87) (pc' := 60) q28 d28_57 (by decide) rfl, w_aload_n0 (pc' := 61) q28 d28_60 rfl, w_getV (pc' := 64) q28 d28_61 rfl f28_19, w_getV (pc' := 67) q28 d28_64 rfl f28_80, w_aload_n0 (pc' := 68) q28 d28_67 rfl, w_getV (pc' := 71) q28 d28_68 rfl f28_12, w_getI (pc' := 74) q28 d28_71 rfl f28_155, w_aload_n0 (pc' := 75) q28 d28_74 rfl, w_getV (pc' := 78) q28 d28_75 rfl f28_12, w_invv2 (ci := 9) (pc' := 81) q28 d28_78 rfl n28_87 k28_87_9 m156.1, w_iinc1 (z := (1)) (pc' := 84) q28 d28_81 rfl, w_goto (tg := 44) q28 d28_84 (by decide), gs_off, gs_off0, gs_0off, gs_2, xN_0, xN_2, xN_3, xN_6, xN_7, xN_8, xN_9, xN_10, xN_11, xN_12, xN_13, xN_14, xN_15, xN_16, xN_17, xN_18, xN_19, xN_20, xN_21, xN_22, xN_23, xN_24, xN_25, xN_26, xN_27, xN_28, xN_29, xN_30, xN_31, xN_32, xN_33, xN_34, xN_35, xN_36, xN_37, xN_38, xN_39, xN_40, xN_41, xN_42, xN_43, xN_44, xN_45, xN_46, xN_47, xN_48, xN_49, xN_50, xN_51, xN_52, xN_53, xN_54, xN_55, ti_0, ti_1, ti_2, ti_3, ti_4, ti_5, ti_6, ti_7, ti_8, ti_9, ti_10, ti_16, ti_19, ti_20, ti_29, ti_30, ti_31, ti_32, ti_35, ti_36, ti_38, ti_39, ti_40, ti_41, ti_42, ti_43, ti_44, ti_45, ti_46, ti_47, ti_48, ti_49, ti_50, ti_51, ti_52, ti_53, ti_54, ti_55, ti_56, ti_57, ti_58, ti_59, ti_60, ti_61, ti_62, ti_63, ti_64, ti_65, ti_74, ti_77, ti_126, ti_200, ti_201, ti_202, ti_203, ti_204, ti_205, ti_210, ti_255, ti_256, ti_400, ti_512, ti_600, ti_601, ti_602, ti_1000, ti_1023, ti_1024, ti_2000, ti_10000, ti_12602, ti_999999, ti_m999999, ti_m1, ti_2000000, ti_3000000, xN_1, xN_4, xN_5, xN_60, xN_61, xN_64, xN_200, xN_800, xN_12000, xN_12602, eq_self, and_self, and_true, true_and, if_true, if_false, decide_true, Nat.reduceLeDiff, xc2_int, xc2_ref, xc2_ra, xc2_null, xc2_long, xc2_none, xisaT_ref, xisaT_ra, xisaT_null, xc1T_int, xc1T_ref, xc1T_ra, xc1T_null, xsum_nil, xsum_int, xsum_ref, xsum_ra, xsum_long, xsum_double, xsum_null, xfl_nil, xfl_int, xfl_ref, xfl_ra, xfl_null, xfl_long, xfl_double, List.length_cons, List.length_nil, t60, tn, hn2, c0, p0, k0, kS.1, k1, e2, hpr, xfk, xfv, xak, xan, xcls, xsv', List.getElem?_cons_zero, List.getElem?_cons_succ, List.getD_cons_zero, List.getD_cons_succ, Option.getD_some, Option.isSome_some, if_true, if_pos, xcont, Option.toList_none, Option.toList_some, List.nil_append, List.cons_append]
theorem q_runOrders (hS : CsS S c p k t o y b m) (hI : CdI g c p k t o y P A sn H) (hlen : ∀ a a' tg kd nu tk, 0 ≤ a → a ≤ P.1 → orF (pdc P) a = .inr (a', tg, kd, nu, tk) → (mks tk).length ≤ 60 ∧ tk.length ≤ 60) :
    (¬ osF (pdc P) P.1 60 0 = -1 → CRs X S g c p k t o y b m 28 (d + 300) [.ref c] (.inr 1) P A sn H) ∧
    (osF (pdc P) P.1 60 0 = -1 → CRs X S g c p k t o y b m 28 (d + 300) [.ref c] (.inl (some (.int (iI (orA (pdc P) P.1 60 0 A).2)))) P (ruS P A) sn (recH A H)) := by
  have hS' := hS
  obtain ⟨c0, ⟨hp0, hk0, ht0, ho0, hy0⟩, hL⟩ := hS
  obtain ⟨k0, kS, kL⟩ := id hk0
  have b0 := kS.1
  have y0 := hy0.1
  have p0 := hp0.1
  have hl := hI.1.1.2.1
  rw [hI.1.2.1] at hl
  have hl0 := hI.1.1.1
  rw [hI.1.2.1] at hl0
  obtain ⟨g1, f1, k1⟩ := c_faultAsOrders (X := X) (d := d + 289) (g := g) hp0 hI.1.1
  rw [PdC_ch hI.1, hI.1.2.1] at k1
  have i1 : CdI g1 c p k t o y P A sn H := CdI_pad (by omega) (fun j j1 => f1.1 j (by omega) (by omega) (by omega) (by omega) (by omega)) (PdC_FrO f1 hI.1) hI
  have hor := osF_rng (ch := pdc P) (n := P.1) hl 60 0 (Int.le_refl _)
  refine ⟨fun h => ?_, fun h => ?_⟩
  · obtain ⟨z, ez⟩ : ∃ z, osF (pdc P) P.1 60 0 = z := ⟨_, rfl⟩
    rw [ez] at hor h k1
    have tz : ti z = z := ti_eq (by omega) (by omega)
    have n1 : ¬ z < 0 := by omega
    refine CR_gx (g' := g1) hS' (fun j j1 => f1.1 j (by omega) (by omega) (by omega) (by omega) (by omega)) i1 fun Q => ?_
    rw [e28]
    simp (config := { decide := true }) only [w_aload_n0 (pc' := 1) q28 d28_0 rfl, w_getV (pc' := 4) q28 d28_1 rfl f28_12, w_invv0 (ci := 8) (pc' := 7) q28 d28_4 rfl n28_71 k28_71_8 m143.1, w_if_lt (tg := 20) (pc' := 10) q28 d28_7 (by decide) rfl, w_throw (ee := 1) q28 d28_10 (by decide +kernel), gs_off, gs_off0, gs_0off, gs_2, xN_0, xN_2, xN_3, xN_6, xN_7, xN_8, xN_9, xN_10, xN_11, xN_12, xN_13, xN_14, xN_15, xN_16, xN_17, xN_18, xN_19, xN_20, xN_21, xN_22, xN_23, xN_24, xN_25, xN_26, xN_27, xN_28, xN_29, xN_30, xN_31, xN_32, xN_33, xN_34, xN_35, xN_36, xN_37, xN_38, xN_39, xN_40, xN_41, xN_42, xN_43, xN_44, xN_45, xN_46, xN_47, xN_48, xN_49, xN_50, xN_51, xN_52, xN_53, xN_54, xN_55, ti_0, ti_1, ti_2, ti_3, ti_4, ti_5, ti_6, ti_7, ti_8, ti_9, ti_10, ti_16, ti_19, ti_20, ti_29, ti_30, ti_31, ti_32, ti_35, ti_36, ti_38, ti_39, ti_40, ti_41, ti_42, ti_43, ti_44, ti_45, ti_46, ti_47, ti_48, ti_49, ti_50, ti_51, ti_52, ti_53, ti_54, ti_55, ti_56, ti_57, ti_58, ti_59, ti_60, ti_61, ti_62, ti_63, ti_64, ti_65, ti_74, ti_77, ti_126, ti_200, ti_201, ti_202, ti_203, ti_204, ti_205, ti_210, ti_255, ti_256, ti_400, ti_512, ti_600, ti_601, ti_602, ti_1000, ti_1023, ti_1024, ti_2000, ti_10000, ti_12602, ti_999999, ti_m999999, ti_m1, ti_2000000, ti_3000000, xN_1, xN_4, xN_5, xN_60, xN_61, xN_64, xN_200, xN_800, xN_12000, xN_12602, eq_self, and_self, and_true, true_and, if_true, if_false, decide_true, Nat.reduceLeDiff, xc2_int, xc2_ref, xc2_ra, xc2_null, xc2_long, xc2_none, xisaT_ref, xisaT_ra, xisaT_null, xc1T_int, xc1T_ref, xc1T_ra, xc1T_null, xsum_nil, xsum_int, xsum_ref, xsum_ra, xsum_long, xsum_double, xsum_null, xfl_nil, xfl_int, xfl_ref, xfl_ra, xfl_null, xfl_long, xfl_double, List.length_cons, List.length_nil, c0, p0, k1, tz, n1, xfk, xfv, xak, xan, xcls, xsv', List.getElem?_cons_zero, List.getElem?_cons_succ, List.getD_cons_zero, List.getD_cons_succ, Option.getD_some, Option.isSome_some, if_true, if_pos, xcont, Option.toList_none, Option.toList_some, List.nil_append, List.cons_append]
  · rw [h] at k1
    have tm1 : ti (-1) = -1 := by decide
    have n1 : (-1 : Int) < 0 := by decide
    obtain ⟨q, g2, hq, f2, i2, -, -, k2⟩ := c_rec (X := X) (d := d + 294) hS' i1
    have k3 : ∀ Q, Cw X (d + 299) 123 [.ref p] (hp S g2) Q = Q (.inl none) (hp S (gs g2 p 7 0)) := fun Q => by
      rw [e123]
      simp (config := { decide := true }) only [w_aload_n0 (pc' := 1) q123 d123_0 rfl, w_iconst (pc' := 2) q123 d123_1 rfl, w_putI (pc' := 5) q123 d123_2 rfl f123_33 rfl (by decide +kernel), w_return q123 d123_5 m123.2.1, gs_off, gs_off0, gs_0off, gs_2, xN_0, xN_2, xN_3, xN_6, xN_7, xN_8, xN_9, xN_10, xN_11, xN_12, xN_13, xN_14, xN_15, xN_16, xN_17, xN_18, xN_19, xN_20, xN_21, xN_22, xN_23, xN_24, xN_25, xN_26, xN_27, xN_28, xN_29, xN_30, xN_31, xN_32, xN_33, xN_34, xN_35, xN_36, xN_37, xN_38, xN_39, xN_40, xN_41, xN_42, xN_43, xN_44, xN_45, xN_46, xN_47, xN_48, xN_49, xN_50, xN_51, xN_52, xN_53, xN_54, xN_55, ti_0, ti_1, ti_2, ti_3, ti_4, ti_5, ti_6, ti_7, ti_8, ti_9, ti_10, ti_16, ti_19, ti_20, ti_29, ti_30, ti_31, ti_32, ti_35, ti_36, ti_38, ti_39, ti_40, ti_41, ti_42, ti_43, ti_44, ti_45, ti_46, ti_47, ti_48, ti_49, ti_50, ti_51, ti_52, ti_53, ti_54, ti_55, ti_56, ti_57, ti_58, ti_59, ti_60, ti_61, ti_62, ti_63, ti_64, ti_65, ti_74, ti_77, ti_126, ti_200, ti_201, ti_202, ti_203, ti_204, ti_205, ti_210, ti_255, ti_256, ti_400, ti_512, ti_600, ti_601, ti_602, ti_1000, ti_1023, ti_1024, ti_2000, ti_10000, ti_12602, ti_999999, ti_m999999, ti_m1, ti_2000000, ti_3000000, xN_1, xN_4, xN_5, xN_60, xN_61, xN_64, xN_200, xN_800, xN_12000, xN_12602, eq_self, and_self, and_true, true_and, if_true, if_false, decide_true, Nat.reduceLeDiff, xc2_int, xc2_ref, xc2_ra, xc2_null, xc2_long, xc2_none, xisaT_ref, xisaT_ra, xisaT_null, xc1T_int, xc1T_ref, xc1T_ra, xc1T_null, xsum_nil, xsum_int, xsum_ref, xsum_ra, xsum_long, xsum_double, xsum_null, xfl_nil, xfl_int, xfl_ref, xfl_ra, xfl_null, xfl_long, xfl_double, List.length_cons, List.length_nil, p0, xfk, xfv, xak, xan, xcls, xsv', List.getElem?_cons_zero, List.getElem?_cons_succ, List.getD_cons_zero, List.getD_cons_succ, Option.getD_some, Option.isSome_some, if_true, if_pos, xcont, Option.toList_none, Option.toList_some, List.nil_append, List.cons_append]
    have r7 : ∀ h, ¬ h = p → gs g2 p 7 0 h = g2 h := fun h hh => gs_row _ _ _ hh
    have hC2 := i2.2.1.1
    have cC := StC_of hC2 i2.2.1.2.1
    obtain ⟨G3, j1, j2, j3, j4, j5, j6⟩ := l_crun (X := X) (d := d) hS' hlen 60 0 0 (gs g2 p 7 0) A (by decide) (by decide) (PdC_congr (by rw [gs_at, if_neg (by decide)]) (r7 _ (by omega)) i2.1) (by rw [gs_at, if_pos rfl]) (StI_congr (fun j _ _ => r7 _ (by omega)) hC2.1) (StC_congr (fun j _ _ => r7 _ (by omega)) cC) i2.2.1.2.2 (Int.le_refl _) hl0 h
    obtain ⟨gb, egb⟩ : ∃ gb : xGm, gb = fun h => if k + 2 ≤ h ∧ h ≤ k + 6 then g2 h else G3 h := ⟨_, rfl⟩
    have hb1 : ∀ h, (h < k + 2 ∨ k + 6 < h) → gb h = G3 h := fun h hh => by rw [egb]; exact if_neg (by omega)
    have hb2 : ∀ h, (h < p ∨ p + 5 < h) → gb h = g2 h := fun h hh => by
      rw [egb]
      dsimp only
      split
      · rfl
      · rw [j1 h hh (by omega)]; exact r7 h (by omega)
    have ib : CdI gb c p k t o y P A sn (recH A H) := CdI_pad (by omega) hb2 (PdC_congr (by rw [hb1 p (by omega)]) (hb1 _ (by omega)) j2) i2
    obtain ⟨g4, f4, i4, k4⟩ := c_chgAllC (X := X) (d := d + 27) (G := G3) hS' ib j5 (fun h a1 a2 a3 a4 a5 => (hb1 h (by omega)).symm) j3 (fun x x1 x2 => (j4 x x1 x2).1) (fun x x1 x2 => (j4 x x1 x2).2) (by rw [orA_all])
    refine CR_g hS' (fun j jj => (f4 j (by omega)).trans ((hb2 j (by omega)).trans ((f2 j (by omega)).trans (f1.1 j (by omega) (by omega) (by omega) (by omega) (by omega))))) i4 fun Q => ?_
    rw [Int.zero_add] at j6
    rw [e28]
    simp (config := { decide := true }) only [w_aload_n0 (pc' := 1) q28 d28_0 rfl, w_getV (pc' := 4) q28 d28_1 rfl f28_12, w_invv0 (ci := 8) (pc' := 7) q28 d28_4 rfl n28_71 k28_71_8 m143.1, w_if_lt (tg := 20) (pc' := 10) q28 d28_7 (by decide) rfl, w_throw (ee := 1) q28 d28_10 (by decide +kernel), w_aload_n0 (pc' := 21) q28 d28_20 rfl, w_getV (pc' := 24) q28 d28_21 rfl f28_36, w_aload_n0 (pc' := 25) q28 d28_24 rfl, w_getV (pc' := 28) q28 d28_25 rfl f28_19, w_getV (pc' := 31) q28 d28_28 rfl f28_80, w_invv1 (ci := 4) (pc' := 34) q28 d28_31 rfl n28_83 k28_83_4 m90.1, w_pop (pc' := 35) q28 d28_34 rfl, w_iconst (pc' := 36) q28 d28_35 rfl, w_istore_n1 (pc' := 37) q28 d28_36 rfl, w_aload_n0 (pc' := 38) q28 d28_37 rfl, w_getV (pc' := 41) q28 d28_38 rfl f28_12, w_invv0 (ci := 8) (pc' := 44) q28 d28_41 rfl n28_148 k28_148_8 m123.1, gs_off, gs_off0, gs_0off, gs_2, xN_0, xN_2, xN_3, xN_6, xN_7, xN_8, xN_9, xN_10, xN_11, xN_12, xN_13, xN_14, xN_15, xN_16, xN_17, xN_18, xN_19, xN_20, xN_21, xN_22, xN_23, xN_24, xN_25, xN_26, xN_27, xN_28, xN_29, xN_30, xN_31, xN_32, xN_33, xN_34, xN_35, xN_36, xN_37, xN_38, xN_39, xN_40, xN_41, xN_42, xN_43, xN_44, xN_45, xN_46, xN_47, xN_48, xN_49, xN_50, xN_51, xN_52, xN_53, xN_54, xN_55, ti_0, ti_1, ti_2, ti_3, ti_4, ti_5, ti_6, ti_7, ti_8, ti_9, ti_10, ti_16, ti_19, ti_20, ti_29, ti_30, ti_31, ti_32, ti_35, ti_36, ti_38, ti_39, ti_40, ti_41, ti_42, ti_43, ti_44, ti_45, ti_46, ti_47, ti_48, ti_49, ti_50, ti_51, ti_52, ti_53, ti_54, ti_55, ti_56, ti_57, ti_58, ti_59, ti_60, ti_61, ti_62, ti_63, ti_64, ti_65, ti_74, ti_77, ti_126, ti_200, ti_201, ti_202, ti_203, ti_204, ti_205, ti_210, ti_255, ti_256, ti_400, ti_512, ti_600, ti_601, ti_602, ti_1000, ti_1023, ti_1024, ti_2000, ti_10000, ti_12602, ti_999999, ti_m999999, ti_m1, ti_2000000, ti_3000000, xN_1, xN_4, xN_5, xN_60, xN_61, xN_64, xN_200, xN_800, xN_12000, xN_12602, eq_self, and_self, and_true, true_and, if_true, if_false, decide_true, Nat.reduceLeDiff, xc2_int, xc2_ref, xc2_ra, xc2_null, xc2_long, xc2_none, xisaT_ref, xisaT_ra, xisaT_null, xc1T_int, xc1T_ref, xc1T_ra, xc1T_null, xsum_nil, xsum_int, xsum_ref, xsum_ra, xsum_long, xsum_double, xsum_null, xfl_nil, xfl_int, xfl_ref, xfl_ra, xfl_null, xfl_long, xfl_double, List.length_cons, List.length_nil, c0, k0, b0, p0, y0, k1, tm1, n1, k2, k3, xfk, xfv, xak, xan, xcls, xsv', List.getElem?_cons_zero, List.getElem?_cons_succ, List.getD_cons_zero, List.getD_cons_succ, Option.getD_some, Option.isSome_some, if_true, if_pos, xcont, Option.toList_none, Option.toList_some, List.nil_append, List.cons_append]
    rw [j6 Q]
    simp (config := { decide := true }) only [w_aload_n0 (pc' := 88) q28 d28_87 rfl, w_getV (pc' := 91) q28 d28_88 rfl f28_19, w_invv0 (ci := 2) (pc' := 94) q28 d28_91 rfl n28_121 k28_121_2 m83.1, w_pop (pc' := 95) q28 d28_94 rfl, w_iload_n1 (pc' := 96) q28 d28_95 rfl, w_ireturn q28 d28_96 m28.2.1, gs_off, gs_off0, gs_0off, gs_2, xN_0, xN_2, xN_3, xN_6, xN_7, xN_8, xN_9, xN_10, xN_11, xN_12, xN_13, xN_14, xN_15, xN_16, xN_17, xN_18, xN_19, xN_20, xN_21, xN_22, xN_23, xN_24, xN_25, xN_26, xN_27, xN_28, xN_29, xN_30, xN_31, xN_32, xN_33, xN_34, xN_35, xN_36, xN_37, xN_38, xN_39, xN_40, xN_41, xN_42, xN_43, xN_44, xN_45, xN_46, xN_47, xN_48, xN_49, xN_50, xN_51, xN_52, xN_53, xN_54, xN_55, ti_0, ti_1, ti_2, ti_3, ti_4, ti_5, ti_6, ti_7, ti_8, ti_9, ti_10, ti_16, ti_19, ti_20, ti_29, ti_30, ti_31, ti_32, ti_35, ti_36, ti_38, ti_39, ti_40, ti_41, ti_42, ti_43, ti_44, ti_45, ti_46, ti_47, ti_48, ti_49, ti_50, ti_51, ti_52, ti_53, ti_54, ti_55, ti_56, ti_57, ti_58, ti_59, ti_60, ti_61, ti_62, ti_63, ti_64, ti_65, ti_74, ti_77, ti_126, ti_200, ti_201, ti_202, ti_203, ti_204, ti_205, ti_210, ti_255, ti_256, ti_400, ti_512, ti_600, ti_601, ti_602, ti_1000, ti_1023, ti_1024, ti_2000, ti_10000, ti_12602, ti_999999, ti_m999999, ti_m1, ti_2000000, ti_3000000, xN_1, xN_4, xN_5, xN_60, xN_61, xN_64, xN_200, xN_800, xN_12000, xN_12602, eq_self, and_self, and_true, true_and, if_true, if_false, decide_true, Nat.reduceLeDiff, xc2_int, xc2_ref, xc2_ra, xc2_null, xc2_long, xc2_none, xisaT_ref, xisaT_ra, xisaT_null, xc1T_int, xc1T_ref, xc1T_ra, xc1T_null, xsum_nil, xsum_int, xsum_ref, xsum_ra, xsum_long, xsum_double, xsum_null, xfl_nil, xfl_int, xfl_ref, xfl_ra, xfl_null, xfl_long, xfl_double, List.length_cons, List.length_nil, c0, k0, k4, xfk, xfv, xak, xan, xcls, xsv', List.getElem?_cons_zero, List.getElem?_cons_succ, List.getD_cons_zero, List.getD_cons_succ, Option.getD_some, Option.isSome_some, if_true, if_pos, xcont, Option.toList_none, Option.toList_some, List.nil_append, List.cons_append]
end
