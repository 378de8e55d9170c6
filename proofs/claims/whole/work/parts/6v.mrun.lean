/-! The model: orders are run -/
section
variable {X : xX} {S : xLm} {g : xGm} {d m : Nat} {w : xH} {Q : xO → xH → Prop} {P : Pd} {A : Sh} {sn : Option Sh} {H : List Sh}
/-- the sheet after the orders from a, and how many they are -/
def orA (ch : Int → Int) (n : Int) : Nat → Int → Sh → Sh × Int
  | 0, _, B => (B, 0)
  | f + 1, a, B => if n ≤ a then (B, 0) else match orF ch a with
    | .inl _ => (B, 0)
    | .inr (a', tg, kd, nu, tk) => ((orA ch n f a' (shP B tg kd nu tk)).1, (orA ch n f a' (shP B tg kd nu tk)).2 + 1)
theorem orA_end {ch : Int → Int} {n a : Int} {f : Nat} {B : Sh} (h : n ≤ a) : orA ch n f a B = (B, 0) := by
  cases f with
  | zero => rfl
  | succ f => rw [orA, if_pos h]
theorem orF_tree {ch : Int → Int} {a a' tg kd nu : Int} {tk : List Int} (h : orF ch a = .inr (a', tg, kd, nu, tk)) : ((kd = 2 ∧ ∃ v : Ev, ∃ r n, Tr 0 r n tk v) ∨ ((kd = 0 ∨ kd = 1) ∧ tk = [] ∧ -999999 ≤ nu ∧ nu ≤ 999999 ∧ (kd = 0 → nu = 0))) ∧ -999999 ≤ nu ∧ nu ≤ 999999 := by
  unfold orF at h
  split at h
  · cases h
  split at h
  · cases h
  · generalize e : ctF ch 59 ((spF ch false a).2 + 1) = r at h
    cases r with
    | inl x => cases h
    | inr x =>
      obtain ⟨b, kd', nu', tk1⟩ := x
      injection h with h; injection h with h1 h2; injection h2 with h2 h3; injection h3 with h3 h4; injection h4 with h4 h5
      subst h3; subst h4; subst h5
      exact ⟨ctF_tree e, ctF_nu e⟩
theorem MdP_W {g' : xGm} (hf : FrW g g' m) (h : MdP g m P sn H) : MdP g' m P sn H :=
  MdP_fr (fun j hj => hf.1 _ (by omega) (by omega) (by omega) (by omega) (by omega)) ⟨hf.2 _ (by omega) (by omega), hf.2 _ (by omega) (by omega), hf.2 _ (by omega) (by omega), hf.2 _ (by omega) (by omega)⟩ (MoR_fr (fun j hj => hf.1 _ (by omega) (by omega) (by omega) (by omega) (by omega)) h.2.1) h
theorem MdP_gM {a f : Int} (h : MdP g m P sn H) : MdP (gM g m a f) m P sn H := MdP_slot (by decide) (MdP_slot (by decide) h)
theorem l_mrun (hS : MdS S m) : ∀ (f : Nat) (a n : Int) (g : xGm) (B : Sh), MdP g m P sn H → rgR (g (m + 1)) → ShM (g (m + 1)) B → ShOK B → 0 ≤ a → a ≤ P.1 → P.1 - a ≤ f → osF (pdc P) P.1 f a = -1 →
    ∃ g', Fm g g' m ∧ MdP g' m P sn H ∧ rgR (g' (m + 1)) ∧ ShM (g' (m + 1)) (orA (pdc P) P.1 f a B).1 ∧ ShOK (orA (pdc P) P.1 f a B).1 ∧ g' m 11 = g m 11 ∧
    ∀ Q, Wx X (d + 12) 302 24 [some (.ref m), some (.int (iI n))] [] (hp S (gM g m a 1)) Q = Wx X (d + 12) 302 53 [some (.ref m), some (.int (iI (n + (orA (pdc P) P.1 f a B).2)))] [] (hp S g') Q := by
  have s0 := hS.1
  have fin : ∀ (a n : Int) (g : xGm), MdP g m P sn H → 0 ≤ a → a ≤ P.1 → P.1 ≤ a → ∀ Q, Wx X (d + 12) 302 24 [some (.ref m), some (.int (iI n))] [] (hp S (gM g m a 1)) Q = Wx X (d + 12) 302 53 [some (.ref m), some (.int (iI (n + 0)))] [] (hp S (gM g m a 1)) Q := by
    intro a n g hP ha ha2 hge Q
    have hl := hP.1.1.2.1
    have e10 := hP.1.2.1
    rw [e10] at hl
    have ta : ti a = a := ti_eq (by omega) (by omega)
    have tn : ti P.1 = P.1 := ti_eq (by omega) (by omega)
    have e10' : gM g m a 1 m 10 = P.1 := (gM_o (by decide) (by decide) g m a 1).trans e10
    rw [Int.add_zero, w_aload_n0 (pc' := 25) q302 d302_24 rfl]
    · simp (config := { decide := true }) only [w_getI (pc' := 28) q302 d302_25 rfl f302_276, w_aload_n0 (pc' := 29) q302 d302_28 rfl, w_getI (pc' := 32) q302 d302_29 rfl f302_279, w_icmp_ge (tg := 53) (pc' := 35) q302 d302_32 (by decide) rfl, gs_off, gs_off0, gs_0off, gs_2, xN_0, xN_2, xN_3, xN_6, xN_7, xN_8, xN_9, xN_10, xN_11, xN_12, xN_13, xN_14, xN_15, xN_16, xN_17, xN_18, xN_19, xN_20, xN_21, xN_22, xN_23, xN_24, xN_25, xN_26, xN_27, xN_28, xN_29, xN_30, xN_31, xN_32, xN_33, xN_34, xN_35, xN_36, xN_37, xN_38, xN_39, xN_40, xN_41, xN_42, xN_43, xN_44, xN_45, xN_46, xN_47, xN_48, xN_49, xN_50, xN_51, xN_52, xN_53, xN_54, xN_55, ti_0, ti_1, ti_2, ti_3, ti_4, ti_5, ti_6, ti_7, ti_8, ti_9, ti_10, ti_16, ti_19, ti_20, ti_29, ti_30, ti_31, ti_32, ti_35, ti_36, ti_38, ti_39, ti_40, ti_41, ti_42, ti_43, ti_44, ti_45, ti_46, ti_47, ti_48, ti_49, ti_50, ti_51, ti_52, ti_53, ti_54, ti_55, ti_56, ti_57, ti_58, ti_59, ti_60, ti_61, ti_62, ti_63, ti_64, ti_65, ti_74, ti_77, ti_126, ti_200, ti_201, ti_202, ti_203, ti_204, ti_205, ti_210, ti_255, ti_256, ti_400, ti_512, ti_600, ti_601, ti_602, ti_1000, ti_1023, ti_1024, ti_2000, ti_10000, ti_12602, ti_999999, ti_m999999, ti_m1, ti_2000000, ti_3000000, xN_1, xN_4, xN_5, xN_60, xN_61, xN_64, xN_200, xN_800, xN_12000, xN_12602, eq_self, and_self, and_true, true_and, if_true, if_false, decide_true, Nat.reduceLeDiff, xc2_int, xc2_ref, xc2_ra, xc2_null, xc2_long, xc2_none, xisaT_ref, xisaT_ra, xisaT_null, xc1T_int, xc1T_ref, xc1T_ra, xc1T_null, xsum_nil, xsum_int, xsum_ref, xsum_ra, xsum_long, xsum_double, xsum_null, xfl_nil, xfl_int, xfl_ref, xfl_ra, xfl_null, xfl_long, xfl_double, List.length_cons, List.length_nil, s0, gM_a, e10', ta, tn, hge, xfk, xfv, xak, xan, xcls, xsv', List.getElem?_cons_zero, List.getElem?_cons_succ, List.getD_cons_zero, List.getD_cons_succ, Option.getD_some, Option.isSome_some, if_true, if_pos, xcont, Option.toList_none, Option.toList_some, List.nil_append, List.cons_append]
    · rfl
  intro f
  induction f with
  | zero =>
    intro a n g B hP hG hM hO ha ha2 hf ho
    refine ⟨gM g m a 1, Fm_gM, MdP_gM hP, by rw [gM_row]; exact hG, by rw [gM_row]; exact hM, hO, gM_o (by decide) (by decide) g m a 1, fin a n g hP ha ha2 (by omega)⟩
  | succ f ih =>
    intro a n g B hP hG hM hO ha ha2 hf ho
    have e10 := hP.1.2.1
    have hl := hP.1.1.2.1
    rw [e10] at hl
    by_cases hge : P.1 ≤ a
    · rw [orA_end hge]
      exact ⟨gM g m a 1, Fm_gM, MdP_gM hP, by rw [gM_row]; exact hG, by rw [gM_row]; exact hM, hO, gM_o (by decide) (by decide) g m a 1, fin a n g hP ha ha2 hge⟩
    · have hor := m_order (X := X) (d := d + 2) hS hP.1.1 ha (by rw [e10]; exact ha2)
      have ta : ti a = a := ti_eq (by omega) (by omega)
      have tn : ti P.1 = P.1 := ti_eq (by omega) (by omega)
      have e10' : gM g m a 1 m 10 = P.1 := (gM_o (by decide) (by decide) g m a 1).trans e10
      rw [osF, if_neg hge] at ho
      rw [orA, if_neg hge]
      rw [PdM_ch hP.1] at hor
      generalize er : orF (pdc P) a = r at hor ho ⊢
      cases r with
      | inl a' =>
        have := orF_B er
        dsimp only at ho
        omega
      | inr x =>
        obtain ⟨a', tg, kd, nu, tk⟩ := x
        obtain ⟨g1, f1, hrd, h45, k1⟩ := hor
        dsimp only at k1 ho ⊢
        have hend := morF_end (g := g) (m := m) hP.1.1 ha (by rw [PdM_ch hP.1]; exact er)
        have hgt := orF_gt er
        have htr := orF_tree er
        obtain ⟨G1, eG1⟩ : ∃ G1, G1 = gM g1 m a' 1 := ⟨_, rfl⟩
        have rd := RdN_gM (a := a') (f := 1) hrd
        rw [← eG1] at rd
        have h45' : G1 m 45 = tg := by rw [eG1, gM_o (by decide) (by decide), h45]
        have hP1 : MdP G1 m P sn H := by rw [eG1]; exact MdP_gM (MdP_W f1 hP)
        have er1 : G1 (m + 1) = g (m + 1) := by rw [eG1, gM_row, f1.1 _ (by omega) (by omega) (by omega) (by omega) (by omega)]
        have hk : kd = 0 ∨ kd = 1 ∨ kd = 2 := by omega
        have p2 : kd = 2 → (∃ v : Ev, ∃ r n, Tr 0 r n tk v) ∧ (mks tk).length ≤ 60 := fun e => by
          rcases htr.1 with ⟨-, hh⟩ | ⟨hh, -⟩
          · exact ⟨hh, by have := rd.2.2.2.2; omega⟩
          · omega
        have p3 : kd = 1 → -999999 ≤ nu ∧ nu ≤ 999999 := fun _ => htr.2
        obtain ⟨r', c1, c2, c3, k3⟩ := m_lands (X := X) (d := d + 9) (g := G1) (c := tg) (kd := kd) (nu := nu) (ms := mks tk) hS hend.2 rd.1 rd.2.1 (by omega) (by omega) (fun e => ⟨rd.2.2.1, by have := rd.2.2.2.2; omega, rd.2.2.2.1, mks_big tk (by obtain ⟨v, rr, n, hT⟩ := (p2 e).1; exact Tr_okG _ _ _ _ _ hT)⟩) (by rw [er1]; exact hG)
        have c2' : ∀ i, ¬ celI tg i → r' i = g (m + 1) i := fun i hi => by rw [← er1]; exact c2 i hi
        obtain ⟨G2, eG2⟩ : ∃ G2, G2 = gr G1 (m + 1) r' := ⟨_, rfl⟩
        have eself : gM G2 m a' 1 = G2 := gM_self (by rw [eG2, gr_row _ _ (by omega), eG1, gM_a]) (by rw [eG2, gr_row _ _ (by omega), eG1, gM_f])
        have eh : G2 (m + 1) = r' := by rw [eG2, gr_hit]
        obtain ⟨g', f2, j1, j2, j3, j4, j5, j6⟩ := ih a' (n + 1) G2 (shP B tg kd nu tk) (by rw [eG2]; exact MdP_row1 hP1) (by rw [eh]; exact c3) (by rw [eh]; exact ShM_put hM hend.2.1 hend.2.2 c1 c2') (ShOK_put hO hk p2 p3) (by omega) (by rw [← e10]; exact hend.1) (by omega) ho
        refine ⟨g', Fm_trans (Fm_W f1) (Fm_trans (show Fm g1 G1 m by rw [eG1]; exact Fm_gM) (Fm_trans (show Fm G1 G2 m by rw [eG2]; exact Fm_row (by decide)) f2)), j1, j2, j3, j4, ?_, fun Q => ?_⟩
        · rw [j5, eG2, gr_row _ _ (by omega), eG1, gM_o (by decide) (by decide), FrW_11 f1]
        · rw [show n + ((orA (pdc P) P.1 f a' (shP B tg kd nu tk)).2 + 1) = n + 1 + (orA (pdc P) P.1 f a' (shP B tg kd nu tk)).2 by omega, ← j6 Q, eself, eG2]
          rw [eG1] at k3 h45' ⊢
          rw [w_aload_n0 (pc' := 25) q302 d302_24 rfl]
          · simp (config := { decide := true }) only [w_getI (pc' := 28) q302 d302_25 rfl f302_276, w_aload_n0 (pc' := 29) q302 d302_28 rfl, w_getI (pc' := 32) q302 d302_29 rfl f302_279, w_icmp_ge (tg := 53) (pc' := 35) q302 d302_32 (by decide) rfl, w_aload_n0 (pc' := 36) q302 d302_35 rfl, w_invv0 (ci := 11) (pc' := 39) q302 d302_36 rfl n302_376 k302_376_11 m260.1, w_aload_n0 (pc' := 40) q302 d302_39 rfl, w_aload_n0 (pc' := 41) q302 d302_40 rfl, w_getI (pc' := 44) q302 d302_41 rfl f302_373, w_invv1 (ci := 11) (pc' := 47) q302 d302_44 rfl n302_402 k302_402_11 m267.1, w_iinc1 (z := (1)) (pc' := 50) q302 d302_47 rfl, w_goto (tg := 24) q302 d302_50 (by decide), gs_off, gs_off0, gs_0off, gs_2, xN_0, xN_2, xN_3, xN_6, xN_7, xN_8, xN_9, xN_10, xN_11, xN_12, xN_13, xN_14, xN_15, xN_16, xN_17, xN_18, xN_19, xN_20, xN_21, xN_22, xN_23, xN_24, xN_25, xN_26, xN_27, xN_28, xN_29, xN_30, xN_31, xN_32, xN_33, xN_34, xN_35, xN_36, xN_37, xN_38, xN_39, xN_40, xN_41, xN_42, xN_43, xN_44, xN_45, xN_46, xN_47, xN_48, xN_49, xN_50, xN_51, xN_52, xN_53, xN_54, xN_55, ti_0, ti_1, ti_2, ti_3, ti_4, ti_5, ti_6, ti_7, ti_8, ti_9, ti_10, ti_16, ti_19, ti_20, ti_29, ti_30, ti_31, ti_32, ti_35, ti_36, ti_38, ti_39, ti_40, ti_41, ti_42, ti_43, ti_44, ti_45, ti_46, ti_47, ti_48, ti_49, ti_50, ti_51, ti_52, ti_53, ti_54, ti_55, ti_56, ti_57, ti_58, ti_59, ti_60, ti_61, ti_62, ti_63, ti_64, ti_65, ti_74, ti_77, ti_126, ti_200, ti_201, ti_202, ti_203, ti_204, ti_205, ti_210, ti_255, ti_256, ti_400, ti_512, ti_600, ti_601, ti_602, ti_1000, ti_1023, ti_1024, ti_2000, ti_10000, ti_12602, ti_999999, ti_m999999, ti_m1, ti_2000000, ti_3000000, xN_1, xN_4, xN_5, xN_60, xN_61, xN_64, xN_200, xN_800, xN_12000, xN_12602, eq_self, and_self, and_true, true_and, if_true, if_false, decide_true, Nat.reduceLeDiff, xc2_int, xc2_ref, xc2_ra, xc2_null, xc2_long, xc2_none, xisaT_ref, xisaT_ra, xisaT_null, xc1T_int, xc1T_ref, xc1T_ra, xc1T_null, xsum_nil, xsum_int, xsum_ref, xsum_ra, xsum_long, xsum_double, xsum_null, xfl_nil, xfl_int, xfl_ref, xfl_ra, xfl_null, xfl_long, xfl_double, List.length_cons, List.length_nil, s0, gM_a, e10', ta, tn, hge, k1, h45', k3, xfk, xfv, xak, xan, xcls, xsv', List.getElem?_cons_zero, List.getElem?_cons_succ, List.getD_cons_zero, List.getD_cons_succ, Option.getD_some, Option.isSome_some, if_true, if_pos, xcont, Option.toList_none, Option.toList_some, List.nil_append, List.cons_append]
          · rfl
noncomputable def ruS (P : Pd) (A : Sh) : Sh := shC (orA (pdc P) P.1 60 0 A).1 (cnA (orA (pdc P) P.1 60 0 A).1.1)
theorem orA_all {ch : Int → Int} {n : Int} : ∀ (f : Nat) (a : Int) (B : Sh), (orA ch n f a B).1.2.2.2 = B.2.2.2
  | 0, _, _ => rfl
  | f + 1, a, B => by
    rw [orA]
    split
    · rfl
    · generalize orF ch a = r
      cases r with
      | inl x => rfl
      | inr x => exact orA_all f _ _
theorem m_runOrders (hS : MdS S m) (hI : MdI g m P A sn H) (hall : 0 ≤ A.2.2.2.2 ∧ A.2.2.2.2 ≤ 900000) :
    (¬ osF (pdc P) P.1 60 0 = -1 → MRs X S g m 302 (d + 12) [.ref m] 1 (.int (iI 0)) P A sn H) ∧
    (osF (pdc P) P.1 60 0 = -1 → MRs X S g m 302 (d + 12) [.ref m] 0 (.int (iI (orA (pdc P) P.1 60 0 A).2)) P (ruS P A) sn (recH A H)) := by
  have s0 := hS.1
  have has := fun G b hb => m_asks (X := X) (d := d + 11) (g := G) (b := b) hS hb
  have h0 := fun G => has G 0 (.inl rfl)
  have h1 := fun G => has G 1 (.inr rfl)
  simp only [show (1 : Int) - 0 = 1 from rfl, show (1 : Int) - 1 = 0 from rfl] at h0 h1
  obtain ⟨g1, b, f1, hh⟩ := m_isOrders (X := X) (d := d + 1) (g := g) hS hI.1.1
  rw [PdM_ch hI.1, hI.1.2.1] at hh
  refine ⟨fun h => ?_, fun h => ?_⟩
  · rcases hh with ⟨e, -⟩ | ⟨-, k1⟩
    · exact absurd e h
    · refine ⟨gs (gM g1 m (osF (pdc P) P.1 60 0) 0) m 11 1, Fm_trans (Fm_W f1) (Fm_trans Fm_gM Fm_slot), MdI_slot (by decide) (MdI_gM (MdI_W f1 hI)), by rw [gs_at, if_pos rfl], fun Q => ?_⟩
      rw [e302]
      simp (config := { decide := true }) only [w_aload_n0 (pc' := 1) q302 d302_0 rfl, w_aload_n0 (pc' := 2) q302 d302_1 rfl, w_invv0 (ci := 11) (pc' := 5) q302 d302_2 rfl n302_389 k302_389_11 m259.1, w_invv1 (ci := 11) (pc' := 8) q302 d302_5 rfl n302_395 k302_395_11 m263.1, w_if_ne (tg := 13) (pc' := 11) q302 d302_8 (by decide) rfl, w_iconst (pc' := 12) q302 d302_11 rfl, w_ireturn q302 d302_12 m302.2.1, w_aload_n0 (pc' := 14) q302 d302_13 rfl, w_invv0 (ci := 11) (pc' := 17) q302 d302_14 rfl n302_399 k302_399_11 m264.1, w_iconst (pc' := 18) q302 d302_17 rfl, w_istore_n1 (pc' := 19) q302 d302_18 rfl, w_aload_n0 (pc' := 20) q302 d302_19 rfl, w_iconst (pc' := 21) q302 d302_20 rfl, w_putI (pc' := 24) q302 d302_21 rfl f302_276 rfl (by decide +kernel), w_aload_n0 (pc' := 25) q302 d302_24 rfl, w_getI (pc' := 28) q302 d302_25 rfl f302_276, w_aload_n0 (pc' := 29) q302 d302_28 rfl, w_getI (pc' := 32) q302 d302_29 rfl f302_279, w_icmp_ge (tg := 53) (pc' := 35) q302 d302_32 (by decide) rfl, w_aload_n0 (pc' := 36) q302 d302_35 rfl, w_invv0 (ci := 11) (pc' := 39) q302 d302_36 rfl n302_376 k302_376_11 m260.1, w_aload_n0 (pc' := 40) q302 d302_39 rfl, w_aload_n0 (pc' := 41) q302 d302_40 rfl, w_getI (pc' := 44) q302 d302_41 rfl f302_373, w_invv1 (ci := 11) (pc' := 47) q302 d302_44 rfl n302_402 k302_402_11 m267.1, w_iinc1 (z := (1)) (pc' := 50) q302 d302_47 rfl, w_goto (tg := 24) q302 d302_50 (by decide), w_aload_n0 (pc' := 54) q302 d302_53 rfl, w_invv0 (ci := 11) (pc' := 57) q302 d302_54 rfl n302_410 k302_410_11 m303.1, w_iload_n1 (pc' := 58) q302 d302_57 rfl, w_ireturn q302 d302_58 m302.2.1, gs_off, gs_off0, gs_0off, gs_2, xN_0, xN_2, xN_3, xN_6, xN_7, xN_8, xN_9, xN_10, xN_11, xN_12, xN_13, xN_14, xN_15, xN_16, xN_17, xN_18, xN_19, xN_20, xN_21, xN_22, xN_23, xN_24, xN_25, xN_26, xN_27, xN_28, xN_29, xN_30, xN_31, xN_32, xN_33, xN_34, xN_35, xN_36, xN_37, xN_38, xN_39, xN_40, xN_41, xN_42, xN_43, xN_44, xN_45, xN_46, xN_47, xN_48, xN_49, xN_50, xN_51, xN_52, xN_53, xN_54, xN_55, ti_0, ti_1, ti_2, ti_3, ti_4, ti_5, ti_6, ti_7, ti_8, ti_9, ti_10, ti_16, ti_19, ti_20, ti_29, ti_30, ti_31, ti_32, ti_35, ti_36, ti_38, ti_39, ti_40, ti_41, ti_42, ti_43, ti_44, ti_45, ti_46, ti_47, ti_48, ti_49, ti_50, ti_51, ti_52, ti_53, ti_54, ti_55, ti_56, ti_57, ti_58, ti_59, ti_60, ti_61, ti_62, ti_63, ti_64, ti_65, ti_74, ti_77, ti_126, ti_200, ti_201, ti_202, ti_203, ti_204, ti_205, ti_210, ti_255, ti_256, ti_400, ti_512, ti_600, ti_601, ti_602, ti_1000, ti_1023, ti_1024, ti_2000, ti_10000, ti_12602, ti_999999, ti_m999999, ti_m1, ti_2000000, ti_3000000, xN_1, xN_4, xN_5, xN_60, xN_61, xN_64, xN_200, xN_800, xN_12000, xN_12602, eq_self, and_self, and_true, true_and, if_true, if_false, decide_true, Nat.reduceLeDiff, xc2_int, xc2_ref, xc2_ra, xc2_null, xc2_long, xc2_none, xisaT_ref, xisaT_ra, xisaT_null, xc1T_int, xc1T_ref, xc1T_ra, xc1T_null, xsum_nil, xsum_int, xsum_ref, xsum_ra, xsum_long, xsum_double, xsum_null, xfl_nil, xfl_int, xfl_ref, xfl_ra, xfl_null, xfl_long, xfl_double, List.length_cons, List.length_nil, s0, k1, h0, not_true_eq_false, xfk, xfv, xak, xan, xcls, xsv', List.getElem?_cons_zero, List.getElem?_cons_succ, List.getD_cons_zero, List.getD_cons_succ, Option.getD_some, Option.isSome_some, if_true, if_pos, xcont, Option.toList_none, Option.toList_some, List.nil_append, List.cons_append]
  · rcases hh with ⟨-, k1⟩ | ⟨e, -⟩
    · obtain ⟨G1, eG1⟩ : ∃ G1, G1 = gs (gM g1 m b 1) m 11 0 := ⟨_, rfl⟩
      have hI1 : MdI G1 m P A sn H := by rw [eG1]; exact MdI_slot (by decide) (MdI_gM (MdI_W f1 hI))
      obtain ⟨g2, f2, i2, r2, s2, k2⟩ := m_rec (X := X) (d := d + 9) hS hI1
      have e36 : g2 m 36 = 1 := by rw [s2 36 (by decide) (by decide), eG1, gs_o (by decide), gM_f]
      have eM : gs g2 m 35 0 = gM g2 m 0 1 := by
        unfold gM
        rw [← e36, show g2 m 36 = gs g2 m 35 0 m 36 by rw [gs_o (by decide)], gs_self]
      have hl := hI.1.1.2.1
      rw [hI.1.2.1] at hl
      have hl0 := hI.1.1.1
      rw [hI.1.2.1] at hl0
      obtain ⟨g3, f3, j1, j2, j3, j4, j5, j6⟩ := l_mrun (X := X) (d := d) hS 60 0 0 g2 A (MdP_of i2) (i2.2.2.1 1 (by decide) (by decide)) i2.2.1.2.1 i2.2.1.2.2 (Int.le_refl _) hl0 (by omega) h
      obtain ⟨g5, f5, i5, l5, k5⟩ := m_chgAll (X := X) (d := d + 4) (g := g3) hS j1 j2 j3 j4 (by rw [orA_all]; exact hall)
      refine ⟨g5, Fm_trans (Fm_W f1) (Fm_trans (by rw [eG1]; exact Fm_trans Fm_gM Fm_slot) (Fm_trans f2 (Fm_trans f3 f5))), i5, ?_, fun Q => ?_⟩
      · rw [l5 11 (by decide), j5, s2 11 (by decide) (by decide), eG1, gs_at, if_pos rfl]
      · rw [eG1] at k2
        rw [Int.zero_add] at j6
        rw [e302]
        simp (config := { decide := true }) only [w_aload_n0 (pc' := 1) q302 d302_0 rfl, w_aload_n0 (pc' := 2) q302 d302_1 rfl, w_invv0 (ci := 11) (pc' := 5) q302 d302_2 rfl n302_389 k302_389_11 m259.1, w_invv1 (ci := 11) (pc' := 8) q302 d302_5 rfl n302_395 k302_395_11 m263.1, w_if_ne (tg := 13) (pc' := 11) q302 d302_8 (by decide) rfl, w_iconst (pc' := 12) q302 d302_11 rfl, w_ireturn q302 d302_12 m302.2.1, w_aload_n0 (pc' := 14) q302 d302_13 rfl, w_invv0 (ci := 11) (pc' := 17) q302 d302_14 rfl n302_399 k302_399_11 m264.1, w_iconst (pc' := 18) q302 d302_17 rfl, w_istore_n1 (pc' := 19) q302 d302_18 rfl, w_aload_n0 (pc' := 20) q302 d302_19 rfl, w_iconst (pc' := 21) q302 d302_20 rfl, w_putI (pc' := 24) q302 d302_21 rfl f302_276 rfl (by decide +kernel), gs_off, gs_off0, gs_0off, gs_2, xN_0, xN_2, xN_3, xN_6, xN_7, xN_8, xN_9, xN_10, xN_11, xN_12, xN_13, xN_14, xN_15, xN_16, xN_17, xN_18, xN_19, xN_20, xN_21, xN_22, xN_23, xN_24, xN_25, xN_26, xN_27, xN_28, xN_29, xN_30, xN_31, xN_32, xN_33, xN_34, xN_35, xN_36, xN_37, xN_38, xN_39, xN_40, xN_41, xN_42, xN_43, xN_44, xN_45, xN_46, xN_47, xN_48, xN_49, xN_50, xN_51, xN_52, xN_53, xN_54, xN_55, ti_0, ti_1, ti_2, ti_3, ti_4, ti_5, ti_6, ti_7, ti_8, ti_9, ti_10, ti_16, ti_19, ti_20, ti_29, ti_30, ti_31, ti_32, ti_35, ti_36, ti_38, ti_39, ti_40, ti_41, ti_42, ti_43, ti_44, ti_45, ti_46, ti_47, ti_48, ti_49, ti_50, ti_51, ti_52, ti_53, ti_54, ti_55, ti_56, ti_57, ti_58, ti_59, ti_60, ti_61, ti_62, ti_63, ti_64, ti_65, ti_74, ti_77, ti_126, ti_200, ti_201, ti_202, ti_203, ti_204, ti_205, ti_210, ti_255, ti_256, ti_400, ti_512, ti_600, ti_601, ti_602, ti_1000, ti_1023, ti_1024, ti_2000, ti_10000, ti_12602, ti_999999, ti_m999999, ti_m1, ti_2000000, ti_3000000, xN_1, xN_4, xN_5, xN_60, xN_61, xN_64, xN_200, xN_800, xN_12000, xN_12602, eq_self, and_self, and_true, true_and, if_true, if_false, decide_true, Nat.reduceLeDiff, xc2_int, xc2_ref, xc2_ra, xc2_null, xc2_long, xc2_none, xisaT_ref, xisaT_ra, xisaT_null, xc1T_int, xc1T_ref, xc1T_ra, xc1T_null, xsum_nil, xsum_int, xsum_ref, xsum_ra, xsum_long, xsum_double, xsum_null, xfl_nil, xfl_int, xfl_ref, xfl_ra, xfl_null, xfl_long, xfl_double, List.length_cons, List.length_nil, s0, k1, h1, k2, eM, not_true_eq_false, not_false_eq_true, xfk, xfv, xak, xan, xcls, xsv', List.getElem?_cons_zero, List.getElem?_cons_succ, List.getD_cons_zero, List.getD_cons_succ, Option.getD_some, Option.isSome_some, if_true, if_pos, xcont, Option.toList_none, Option.toList_some, List.nil_append, List.cons_append]
        rw [j6 Q]
        simp (config := { decide := true }) only [w_aload_n0 (pc' := 54) q302 d302_53 rfl, w_invv0 (ci := 11) (pc' := 57) q302 d302_54 rfl n302_410 k302_410_11 m303.1, w_iload_n1 (pc' := 58) q302 d302_57 rfl, w_ireturn q302 d302_58 m302.2.1, gs_off, gs_off0, gs_0off, gs_2, xN_0, xN_2, xN_3, xN_6, xN_7, xN_8, xN_9, xN_10, xN_11, xN_12, xN_13, xN_14, xN_15, xN_16, xN_17, xN_18, xN_19, xN_20, xN_21, xN_22, xN_23, xN_24, xN_25, xN_26, xN_27, xN_28, xN_29, xN_30, xN_31, xN_32, xN_33, xN_34, xN_35, xN_36, xN_37, xN_38, xN_39, xN_40, xN_41, xN_42, xN_43, xN_44, xN_45, xN_46, xN_47, xN_48, xN_49, xN_50, xN_51, xN_52, xN_53, xN_54, xN_55, ti_0, ti_1, ti_2, ti_3, ti_4, ti_5, ti_6, ti_7, ti_8, ti_9, ti_10, ti_16, ti_19, ti_20, ti_29, ti_30, ti_31, ti_32, ti_35, ti_36, ti_38, ti_39, ti_40, ti_41, ti_42, ti_43, ti_44, ti_45, ti_46, ti_47, ti_48, ti_49, ti_50, ti_51, ti_52, ti_53, ti_54, ti_55, ti_56, ti_57, ti_58, ti_59, ti_60, ti_61, ti_62, ti_63, ti_64, ti_65, ti_74, ti_77, ti_126, ti_200, ti_201, ti_202, ti_203, ti_204, ti_205, ti_210, ti_255, ti_256, ti_400, ti_512, ti_600, ti_601, ti_602, ti_1000, ti_1023, ti_1024, ti_2000, ti_10000, ti_12602, ti_999999, ti_m999999, ti_m1, ti_2000000, ti_3000000, xN_1, xN_4, xN_5, xN_60, xN_61, xN_64, xN_200, xN_800, xN_12000, xN_12602, eq_self, and_self, and_true, true_and, if_true, if_false, decide_true, Nat.reduceLeDiff, xc2_int, xc2_ref, xc2_ra, xc2_null, xc2_long, xc2_none, xisaT_ref, xisaT_ra, xisaT_null, xc1T_int, xc1T_ref, xc1T_ra, xc1T_null, xsum_nil, xsum_int, xsum_ref, xsum_ra, xsum_long, xsum_double, xsum_null, xfl_nil, xfl_int, xfl_ref, xfl_ra, xfl_null, xfl_long, xfl_double, List.length_cons, List.length_nil, s0, k5, xfk, xfv, xak, xan, xcls, xsv', List.getElem?_cons_zero, List.getElem?_cons_succ, List.getD_cons_zero, List.getD_cons_succ, Option.getD_some, Option.isSome_some, if_true, if_pos, xcont, Option.toList_none, Option.toList_some, List.nil_append, List.cons_append]
    · omega
end
