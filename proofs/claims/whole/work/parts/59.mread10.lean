/-! The model: a formula -/
section
variable {X : xX} {S : xLm} {g : xGm} {d : Nat} {w : xH} {Q : xO → xH → Prop}
/-- the characters as a pad's -/
def gZ (g : xGm) (m : Nat) : xGm := fun h i => if h = 0 then g m 10 else g (m + 7) i
theorem gZ_ch (g : xGm) (m : Nat) : pch (gZ g m) 0 = mch g m := rfl
theorem gZ_c {m : Nat} (h : McI g m) : PcI (gZ g m) 0 := ⟨h.1, h.2.1, fun i => h.2.2 i⟩
theorem mk1_len (t : Int) : ((mk1 t).length : Int) ≤ 3 ∧ (t % 8 = 1 ∨ t % 8 = 2 ∨ t % 8 = 5 → ((mk1 t).length : Int) = 1) ∧ (t % 8 = 6 → ((mk1 t).length : Int) = 2) := by
  unfold mk1
  by_cases h1 : t % 8 = 1
  · rw [if_pos h1]; simp only [List.length_cons, List.length_nil]; omega
  · rw [if_neg h1]
    by_cases h2 : t % 8 = 2
    · rw [if_pos h2]; simp only [List.length_cons, List.length_nil]; omega
    · rw [if_neg h2]
      by_cases h3 : t % 8 = 3
      · rw [if_pos h3]; simp only [List.length_cons, List.length_nil]; omega
      · rw [if_neg h3]
        by_cases h4 : t % 8 = 4
        · rw [if_pos h4]; simp only [List.length_cons, List.length_nil]; omega
        · rw [if_neg h4]
          by_cases h5 : t % 8 = 5
          · rw [if_pos h5]; simp only [List.length_cons, List.length_nil]; omega
          · rw [if_neg h5]; simp only [List.length_cons, List.length_nil]; omega
theorem mks_t1 (tk : List Int) (t : Int) : ((mks (tk ++ [t])).length : Int) ≤ (mks tk).length + 3 ∧ (t % 8 = 1 ∨ t % 8 = 2 ∨ t % 8 = 5 → ((mks (tk ++ [t])).length : Int) = (mks tk).length + 1) ∧ (t % 8 = 6 → ((mks (tk ++ [t])).length : Int) = (mks tk).length + 2) ∧ ((mks tk).length : Int) ≤ (mks (tk ++ [t])).length := by
  have h := mk1_len t
  have e : ((mks (tk ++ [t])).length : Int) = (mks tk).length + (mk1 t).length := by
    rw [mks_app, List.length_append]
    have : mks [t] = mk1 t := List.append_nil _
    rw [this]
    exact Int.natCast_add _ _
  rw [e]
  exact ⟨by omega, fun h' => by have := h.2.1 h'; omega, fun h' => by have := h.2.2 h'; omega, by omega⟩
theorem MT_cons {md o q cc : Int} {st : List Fr} (h2 : ∀ f ∈ st, f.1 = 5 → f.2.1 ≤ 3) (h1 : md = 1 → o ≤ 3) (h3 : o = 5 → q ≤ 3) : MT md ((o, q, cc) :: st) :=
  ⟨fun e => ⟨_, _, rfl, h1 e⟩, fun f hf => by
    rcases List.mem_cons.mp hf with e | e
    · rw [e]; exact h3
    · exact h2 f e⟩
theorem MT_tail {md : Int} {f : Fr} {st : List Fr} (h : MT md (f :: st)) : ∀ f' ∈ st, f'.1 = 5 → f'.2.1 ≤ 3 := fun f' hf => h.2 f' (List.mem_cons_of_mem _ hf)
theorem MT_no {md : Int} {st : List Fr} (h2 : ∀ f ∈ st, f.1 = 5 → f.2.1 ≤ 3) (h1 : ¬ md = 1) : MT md st := ⟨fun e => absurd e h1, h2⟩
theorem onF_sh {m : Nat} {a md a' md' : Int} {st st' : List Fr} {tk tk' : List Int} (hC : McI g m) (ha : 0 ≤ a) (hB : SkB st) (hM : MT md st) (hT : IT md tk) (h : onF (mch g m) md st tk a = .inr (a', md', st', tk')) :
    MT md' st' ∧ ((mks tk').length : Int) ≤ (mks tk).length + (a' - a) := by
  unfold onF at h
  split at h
  · unfold opF at h
    split at h
    · next h1 =>
      obtain ⟨rfl, rfl, rfl, rfl⟩ : a' = a + 1 ∧ md' = 0 ∧ st' = st ∧ tk' = tk ++ [365] := by
        injection h with h; injection h with h1 h; injection h with h2 h; injection h with h3 h4
        exact ⟨h1.symm, h2.symm, h3.symm, h4.symm⟩
      have := (mks_t1 tk 365).2.1 (by decide)
      exact ⟨MT_no hM.2 (by decide), by omega⟩
    split at h
    · next h1 =>
      obtain ⟨rfl, rfl, rfl, rfl⟩ : a' = a + 1 ∧ md' = 0 ∧ st' = (6, 1, 0) :: st ∧ tk' = tk ++ [325] := by
        injection h with h; injection h with h1 h; injection h with h2 h; injection h with h3 h4
        exact ⟨h1.symm, h2.symm, h3.symm, h4.symm⟩
      have := (mks_t1 tk 325).2.1 (by decide)
      exact ⟨MT_cons hM.2 (fun e => absurd e (by decide)) (fun e => absurd e (by decide)), by omega⟩
    split at h
    · next h1 =>
      obtain ⟨rfl, rfl, rfl, rfl⟩ : a' = (nuF (mch g m) a).2 ∧ md' = 2 ∧ st' = st ∧ tk' = tk ++ [(nuF (mch g m) a).1 * 8 + 1] := by
        injection h with h; injection h with h1 h; injection h with h2 h; injection h with h3 h4
        exact ⟨h1.symm, h2.symm, h3.symm, h4.symm⟩
      have hn := nuF_at h1
      have := (mks_t1 tk ((nuF (mch g m) a).1 * 8 + 1)).2.1 (by omega)
      exact ⟨MT_no hM.2 (by decide), by omega⟩
    · unfold woF at h
      dsimp only at h
      have hwr := wdF_rng (ch := mch g m) (a := a) 6 0 0 (by decide) (by decide) (by decide)
      split at h
      · next h1 =>
        obtain ⟨rfl, rfl, rfl, rfl⟩ : a' = a + (wdF (mch g m) a 6 0 0).2 ∧ md' = (if (wdF (mch g m) a 6 0 0).1 ≤ 3 then 1 else 0) ∧ st' = ((wdF (mch g m) a 6 0 0).1, 1, 0) :: st ∧ tk' = tk ++ [(wdF (mch g m) a 6 0 0).1 * 8 + 6] := by
          injection h with h; injection h with h1 h; injection h with h2 h; injection h with h3 h4
          exact ⟨h1.symm, h2.symm, h3.symm, h4.symm⟩
        have := (mks_t1 tk ((wdF (mch g m) a 6 0 0).1 * 8 + 6)).2.2.1 (by omega)
        have := hwr.2 h1
        refine ⟨MT_cons hM.2 (fun e => ?_) (fun _ => by decide), by omega⟩
        split at e
        · assumption
        · omega
      · split at h
        · cases h
        · split at h
          · cases h
          · next h3 =>
            obtain ⟨rfl, rfl, rfl, rfl⟩ : a' = (spF (mch g m) true a).2 ∧ md' = (if md = 1 then 3 else 2) ∧ st' = st ∧ tk' = tk ++ [(spF (mch g m) true a).1 * 8 + 2] := by
              injection h with h; injection h with h1 h; injection h with h2 h; injection h with h3 h4
              exact ⟨h1.symm, h2.symm, h3.symm, h4.symm⟩
            have hin := spF_in (g := gZ g m) (p := 0) (fx := true) (a := a) (by rw [gZ_ch]; omega) (gZ_c hC) ha
            rw [gZ_ch] at hin
            have := (mks_t1 tk ((spF (mch g m) true a).1 * 8 + 2)).2.1 (by omega)
            exact ⟨MT_no hM.2 (by split <;> decide), by omega⟩
  · split at h
    · next h0 h1 =>
      unfold scF at h
      split at h
      · cases h
      · next h3 =>
        obtain ⟨rfl, rfl, rfl, rfl⟩ : a' = (spF (mch g m) true (a + 1)).2 ∧ md' = 4 ∧ st' = st ∧ tk' = rgL tk (spF (mch g m) true (a + 1)).1 := by
          injection h with h; injection h with h1 h; injection h with h2 h; injection h with h3 h4
          exact ⟨h1.symm, h2.symm, h3.symm, h4.symm⟩
        have hin := spF_in (g := gZ g m) (p := 0) (fx := true) (a := a + 1) (by rw [gZ_ch]; omega) (gZ_c hC) (by omega)
        rw [gZ_ch] at hin
        obtain ⟨tk0, u, e, hu⟩ := hT h1.1
        refine ⟨MT_no hM.2 (by decide), ?_⟩
        rw [e, rgL_app, mks_rng3 _ _ _ hu, mks_ref2]
        simp only [List.length_append, List.length_cons, List.length_nil]
        omega
    · cases st with
      | nil => exact hB.elim
      | cons f rest =>
        obtain ⟨o, q, cc⟩ := f
        obtain ⟨t1, t2, t3, t4, t5⟩ := SkB_top5 hB
        have hq3 : o = 5 → q ≤ 3 := hM.2 (o, q, cc) (List.mem_cons_self ..)
        unfold foF at h
        dsimp only at h
        split at h
        · next h1 =>
          split at h
          · cases h
          · next h2 =>
            obtain ⟨rfl, rfl, rfl, rfl⟩ : a' = a + 1 ∧ md' = 2 ∧ st' = rest ∧ tk' = tk ++ [333] := by
              injection h with h; injection h with h1 h; injection h with h2 h; injection h with h3 h4
              exact ⟨h1.symm, h2.symm, h3.symm, h4.symm⟩
            have := (mks_t1 tk 333).2.1 (by decide)
            exact ⟨MT_no (MT_tail hM) (by decide), by omega⟩
        · split at h
          · next h1 =>
            split at h
            · next h2 =>
              obtain ⟨rfl, rfl, rfl, rfl⟩ : a' = a + 1 ∧ md' = (if o ≤ 3 then 1 else 0) ∧ st' = (o, q + 1, 0) :: rest ∧ tk' = tk ++ [357] := by
                injection h with h; injection h with h1 h; injection h with h2 h; injection h with h3 h4
                exact ⟨h1.symm, h2.symm, h3.symm, h4.symm⟩
              have := (mks_t1 tk 357).2.1 (by decide)
              refine ⟨MT_cons (MT_tail hM) (fun e => ?_) (fun e => by omega), by omega⟩
              split at e
              · assumption
              · omega
            · cases h
          · split at h
            · next h1 =>
              obtain ⟨rfl, rfl, rfl, rfl⟩ : a' = a + 1 ∧ md' = 0 ∧ st' = (o, q, if mch g m a = 60 ∨ mch g m a = 62 ∨ mch g m a = 61 then 1 else cc) :: rest ∧ tk' = tk ++ [mch g m a * 8 + 5] := by
                injection h with h; injection h with h1 h; injection h with h2 h; injection h with h3 h4
                exact ⟨h1.symm, h2.symm, h3.symm, h4.symm⟩
              have := (mks_t1 tk (mch g m a * 8 + 5)).2.1 (by omega)
              exact ⟨MT_cons (MT_tail hM) (fun e => absurd e (by decide)) hq3, by omega⟩
            · cases h
theorem onF_ok {m : Nat} {a md a' md' : Int} {st st' : List Fr} {tk tk' : List Int} (hC : McI g m) (ha : 0 ≤ a) (ha2 : a ≤ 60) (hB : SkB st) (hQ : QB a st) (hT : IT md tk) (h : onF (mch g m) md st tk a = .inr (a', md', st', tk')) : StepOK (gZ g m) 0 a st tk a' md' st' tk' := by
  rw [← gZ_ch] at h
  unfold onF at h
  split at h
  · exact opF_ok (gZ_c hC) ha hB hQ h
  · split at h
    · next h1 => exact scF_ok (gZ_c hC) ha hB hQ (fun _ => hT h1.1) h
    · exact foF_ok ha ha2 hB hQ h
/-- a formula was read, or not -/
def CnM (S : xLm) (g : xGm) (m : Nat) (call : (xO → xH → Prop) → Prop) (r : Int ⊕ (Int × List Int)) : Prop := match r with
  | .inl a' => ∃ g', FrM g g' m ∧ ∀ Q, call Q = Q (.inl none) (hp S (gM g' m a' 0))
  | .inr (a', tk') => ∃ g', FrM g g' m ∧ (g' m 32 = (mks tk').length ∧ TL (g' (m + 21)) 0 (mks tk') ∧ ((mks tk').length : Int) ≤ 60) ∧ ∀ Q, call Q = Q (.inl none) (hp S (gM g' m a' 1))
theorem CnM_congr {g1 : xGm} {m : Nat} {call call' : (xO → xH → Prop) → Prop} {r : Int ⊕ (Int × List Int)} (hF : FrM g g1 m) (hc : ∀ Q, call Q = call' Q) (h : CnM S g1 m call' r) : CnM S g m call r := by
  cases r with
  | inl a => obtain ⟨g', h1, h2⟩ := h; exact ⟨g', FrM_trans hF h1, fun Q => (hc Q).trans (h2 Q)⟩
  | inr z => obtain ⟨g', h1, h2, h3⟩ := h; exact ⟨g', FrM_trans hF h1, h2, fun Q => (hc Q).trans (h3 Q)⟩
theorem cnT_on (ch : Int → Int) (en : Int) (k : Nat) (md : Int) (st : List Fr) (tk : List Int) (a : Int) :
    cnT ch en (k + 1) md st tk a = if 1 < md ∧ st.length = 1 ∧ ch a = en then .inr (a, tk) else (match onF ch md st tk a with | .inl a' => .inl a' | .inr (a', md', st', tk') => cnT ch en k md' st' tk' a') := by
  rw [cnT]
  unfold onF
  by_cases h1 : md ≤ 1
  · rw [if_pos h1, if_neg (fun h => absurd h.1 (by omega)), if_pos h1]
    rfl
  · by_cases h2 : st.length = 1 ∧ ch a = en
    · rw [if_neg h1, if_pos h2, if_pos ⟨by omega, h2⟩]
    · rw [if_neg h1, if_neg h2, if_neg (show ¬ (1 < md ∧ st.length = 1 ∧ ch a = en) from fun h => h2 h.2), if_neg h1]
      rfl
theorem l_mform {m : Nat} {en : Int} (hS : MdS S m) (he : 0 ≤ en ∧ en ≤ 127) : ∀ (k : Nat) (a md : Int) (st : List Fr) (tk : List Int) (g : xGm), McI g m → 61 ≤ a + k → 0 ≤ a → a ≤ g m 10 → MaR g m md st tk → (0 ≤ md ∧ md ≤ 4) → (mks tk).length ≤ a → (st.length : Int) ≤ a → SkB st → QB a st → MT md st → IT md tk →
    CnM S g m (fun Q => Wx X (d + 7) 239 54 [some (.ref m), some (.int (iI en))] [] (hp S (gM g m a 1)) Q) (cnT (mch g m) en k md st tk a) := by
  have s0 := hS.1
  have ten : ti en = en := ti_eq (by omega) (by omega)
  intro k
  induction k with
  | zero =>
    intro a md st tk g hC hi h ha hP hmd hk hst hB hQ hM hT
    have := hC.2.1
    omega
  | succ k ih =>
    intro a md st tk g hC hi h ha hP hmd hk hst hB hQ hM hT
    have hlen := hC.2.1
    have e44 := hP.1
    have e40 := MaR_le hP
    have hch := mch_rng hC a
    have tc : ti (mch g m a) = mch g m a := ti_eq (by omega) (by omega)
    have hh := fun Q => m_here (X := X) (d := d + 6) (S := S) (g := g) (m := m) (a := a) (f := 1) (Q := Q) hS hC h (show a ≤ 1000 by omega)
    obtain ⟨l, el⟩ : ∃ l, g m 40 = l := ⟨_, rfl⟩
    rw [el] at e40
    have tl' : ti l = l := ti_eq (by omega) (by omega)
    rw [cnT_on]
    by_cases hend : 1 < md ∧ st.length = 1 ∧ mch g m a = en
    · rw [if_pos hend]
      rw [if_neg (by omega)] at e44
      have hl0 : ¬ 0 < l := by omega
      have hcc := hend.2.2
      refine ⟨g, FrM_refl g m, ⟨hP.2.2.2.2.1, hP.2.2.2.2.2.1, by omega⟩, fun Q => ?_⟩
      dsimp only
      rw [w_aload_n0 (pc' := 55) q239 d239_54 rfl]
      · rw [hcc] at hh
        simp (config := { decide := true }) only [w_getI (pc' := 58) q239 d239_55 rfl f239_282, w_if_eq (tg := 90) (pc' := 61) q239 d239_58 (by decide) rfl, w_aload_n0 (pc' := 62) q239 d239_61 rfl, w_getI (pc' := 65) q239 d239_62 rfl f239_310, w_if_ne (tg := 83) (pc' := 68) q239 d239_65 (by decide) rfl, w_aload_n0 (pc' := 69) q239 d239_68 rfl, w_getI (pc' := 72) q239 d239_69 rfl f239_304, w_if_gt (tg := 83) (pc' := 75) q239 d239_72 (by decide) rfl, w_aload_n0 (pc' := 76) q239 d239_75 rfl, w_invv0 (ci := 11) (pc' := 79) q239 d239_76 rfl n239_288 k239_288_11 m238.1, w_iload_n1 (pc' := 80) q239 d239_79 rfl, w_icmp_eq (tg := 90) (pc' := 83) q239 d239_80 (by decide) rfl, w_return q239 d239_90 m239.2.1, gs_off, gs_off0, gs_0off, gs_2, xN_0, xN_2, xN_3, xN_6, xN_7, xN_8, xN_9, xN_10, xN_11, xN_12, xN_13, xN_14, xN_15, xN_16, xN_17, xN_18, xN_19, xN_20, xN_21, xN_22, xN_23, xN_24, xN_25, xN_26, xN_27, xN_28, xN_29, xN_30, xN_31, xN_32, xN_33, xN_34, xN_35, xN_36, xN_37, xN_38, xN_39, xN_40, xN_41, xN_42, xN_43, xN_44, xN_45, xN_46, xN_47, xN_48, xN_49, xN_50, xN_51, xN_52, xN_53, xN_54, xN_55, ti_0, ti_1, ti_2, ti_3, ti_4, ti_5, ti_6, ti_7, ti_8, ti_9, ti_10, ti_16, ti_19, ti_20, ti_29, ti_30, ti_31, ti_32, ti_35, ti_36, ti_38, ti_39, ti_40, ti_41, ti_42, ti_43, ti_44, ti_45, ti_46, ti_47, ti_48, ti_49, ti_50, ti_51, ti_52, ti_53, ti_54, ti_55, ti_56, ti_57, ti_58, ti_59, ti_60, ti_61, ti_62, ti_63, ti_64, ti_65, ti_74, ti_77, ti_126, ti_200, ti_201, ti_202, ti_203, ti_204, ti_205, ti_210, ti_255, ti_256, ti_400, ti_512, ti_600, ti_601, ti_602, ti_1000, ti_1023, ti_1024, ti_2000, ti_10000, ti_12602, ti_999999, ti_m999999, ti_m1, ti_2000000, ti_3000000, xN_1, xN_4, xN_5, xN_60, xN_61, xN_64, xN_200, xN_800, xN_12000, xN_12602, eq_self, and_self, and_true, true_and, if_true, if_false, decide_true, Nat.reduceLeDiff, xc2_int, xc2_ref, xc2_ra, xc2_null, xc2_long, xc2_none, xisaT_ref, xisaT_ra, xisaT_null, xc1T_int, xc1T_ref, xc1T_ra, xc1T_null, xsum_nil, xsum_int, xsum_ref, xsum_ra, xsum_long, xsum_double, xsum_null, xfl_nil, xfl_int, xfl_ref, xfl_ra, xfl_null, xfl_long, xfl_double, List.length_cons, List.length_nil, s0, gM_f, gM_o n44a n44b, gM_o n40a n40b, e44, el, tl', hl0, hh, ten, not_true_eq_false, xfk, xfv, xak, xan, xcls, xsv', List.getElem?_cons_zero, List.getElem?_cons_succ, List.getD_cons_zero, List.getD_cons_succ, Option.getD_some, Option.isSome_some, if_true, if_pos, xcont, Option.toList_none, Option.toList_some, List.nil_append, List.cons_append]
      · rfl
    · rw [if_neg hend]
      have pre : ∀ Q, Wx X (d + 7) 239 54 [some (.ref m), some (.int (iI en))] [] (hp S (gM g m a 1)) Q = Wx X (d + 7) 239 83 [some (.ref m), some (.int (iI en))] [] (hp S (gM g m a 1)) Q := fun Q => by
        rw [w_aload_n0 (pc' := 55) q239 d239_54 rfl]
        · by_cases h1 : md ≤ 1
          · rw [if_pos h1] at e44
            simp (config := { decide := true }) only [w_getI (pc' := 58) q239 d239_55 rfl f239_282, w_if_eq (tg := 90) (pc' := 61) q239 d239_58 (by decide) rfl, w_aload_n0 (pc' := 62) q239 d239_61 rfl, w_getI (pc' := 65) q239 d239_62 rfl f239_310, w_if_ne (tg := 83) (pc' := 68) q239 d239_65 (by decide) rfl, gs_off, gs_off0, gs_0off, gs_2, xN_0, xN_2, xN_3, xN_6, xN_7, xN_8, xN_9, xN_10, xN_11, xN_12, xN_13, xN_14, xN_15, xN_16, xN_17, xN_18, xN_19, xN_20, xN_21, xN_22, xN_23, xN_24, xN_25, xN_26, xN_27, xN_28, xN_29, xN_30, xN_31, xN_32, xN_33, xN_34, xN_35, xN_36, xN_37, xN_38, xN_39, xN_40, xN_41, xN_42, xN_43, xN_44, xN_45, xN_46, xN_47, xN_48, xN_49, xN_50, xN_51, xN_52, xN_53, xN_54, xN_55, ti_0, ti_1, ti_2, ti_3, ti_4, ti_5, ti_6, ti_7, ti_8, ti_9, ti_10, ti_16, ti_19, ti_20, ti_29, ti_30, ti_31, ti_32, ti_35, ti_36, ti_38, ti_39, ti_40, ti_41, ti_42, ti_43, ti_44, ti_45, ti_46, ti_47, ti_48, ti_49, ti_50, ti_51, ti_52, ti_53, ti_54, ti_55, ti_56, ti_57, ti_58, ti_59, ti_60, ti_61, ti_62, ti_63, ti_64, ti_65, ti_74, ti_77, ti_126, ti_200, ti_201, ti_202, ti_203, ti_204, ti_205, ti_210, ti_255, ti_256, ti_400, ti_512, ti_600, ti_601, ti_602, ti_1000, ti_1023, ti_1024, ti_2000, ti_10000, ti_12602, ti_999999, ti_m999999, ti_m1, ti_2000000, ti_3000000, xN_1, xN_4, xN_5, xN_60, xN_61, xN_64, xN_200, xN_800, xN_12000, xN_12602, eq_self, and_self, and_true, true_and, if_true, if_false, decide_true, Nat.reduceLeDiff, xc2_int, xc2_ref, xc2_ra, xc2_null, xc2_long, xc2_none, xisaT_ref, xisaT_ra, xisaT_null, xc1T_int, xc1T_ref, xc1T_ra, xc1T_null, xsum_nil, xsum_int, xsum_ref, xsum_ra, xsum_long, xsum_double, xsum_null, xfl_nil, xfl_int, xfl_ref, xfl_ra, xfl_null, xfl_long, xfl_double, List.length_cons, List.length_nil, s0, gM_f, gM_o n44a n44b, e44, xfk, xfv, xak, xan, xcls, xsv', List.getElem?_cons_zero, List.getElem?_cons_succ, List.getD_cons_zero, List.getD_cons_succ, Option.getD_some, Option.isSome_some, if_true, if_pos, xcont, Option.toList_none, Option.toList_some, List.nil_append, List.cons_append]
          · rw [if_neg h1] at e44
            by_cases h2 : st.length = 1
            · have hl0 : ¬ 0 < l := by omega
              have h3 : ¬ mch g m a = en := fun h => hend ⟨by omega, h2, h⟩
              simp (config := { decide := true }) only [w_getI (pc' := 58) q239 d239_55 rfl f239_282, w_if_eq (tg := 90) (pc' := 61) q239 d239_58 (by decide) rfl, w_aload_n0 (pc' := 62) q239 d239_61 rfl, w_getI (pc' := 65) q239 d239_62 rfl f239_310, w_if_ne (tg := 83) (pc' := 68) q239 d239_65 (by decide) rfl, w_aload_n0 (pc' := 69) q239 d239_68 rfl, w_getI (pc' := 72) q239 d239_69 rfl f239_304, w_if_gt (tg := 83) (pc' := 75) q239 d239_72 (by decide) rfl, w_aload_n0 (pc' := 76) q239 d239_75 rfl, w_invv0 (ci := 11) (pc' := 79) q239 d239_76 rfl n239_288 k239_288_11 m238.1, w_iload_n1 (pc' := 80) q239 d239_79 rfl, w_icmp_eq (tg := 90) (pc' := 83) q239 d239_80 (by decide) rfl, gs_off, gs_off0, gs_0off, gs_2, xN_0, xN_2, xN_3, xN_6, xN_7, xN_8, xN_9, xN_10, xN_11, xN_12, xN_13, xN_14, xN_15, xN_16, xN_17, xN_18, xN_19, xN_20, xN_21, xN_22, xN_23, xN_24, xN_25, xN_26, xN_27, xN_28, xN_29, xN_30, xN_31, xN_32, xN_33, xN_34, xN_35, xN_36, xN_37, xN_38, xN_39, xN_40, xN_41, xN_42, xN_43, xN_44, xN_45, xN_46, xN_47, xN_48, xN_49, xN_50, xN_51, xN_52, xN_53, xN_54, xN_55, ti_0, ti_1, ti_2, ti_3, ti_4, ti_5, ti_6, ti_7, ti_8, ti_9, ti_10, ti_16, ti_19, ti_20, ti_29, ti_30, ti_31, ti_32, ti_35, ti_36, ti_38, ti_39, ti_40, ti_41, ti_42, ti_43, ti_44, ti_45, ti_46, ti_47, ti_48, ti_49, ti_50, ti_51, ti_52, ti_53, ti_54, ti_55, ti_56, ti_57, ti_58, ti_59, ti_60, ti_61, ti_62, ti_63, ti_64, ti_65, ti_74, ti_77, ti_126, ti_200, ti_201, ti_202, ti_203, ti_204, ti_205, ti_210, ti_255, ti_256, ti_400, ti_512, ti_600, ti_601, ti_602, ti_1000, ti_1023, ti_1024, ti_2000, ti_10000, ti_12602, ti_999999, ti_m999999, ti_m1, ti_2000000, ti_3000000, xN_1, xN_4, xN_5, xN_60, xN_61, xN_64, xN_200, xN_800, xN_12000, xN_12602, eq_self, and_self, and_true, true_and, if_true, if_false, decide_true, Nat.reduceLeDiff, xc2_int, xc2_ref, xc2_ra, xc2_null, xc2_long, xc2_none, xisaT_ref, xisaT_ra, xisaT_null, xc1T_int, xc1T_ref, xc1T_ra, xc1T_null, xsum_nil, xsum_int, xsum_ref, xsum_ra, xsum_long, xsum_double, xsum_null, xfl_nil, xfl_int, xfl_ref, xfl_ra, xfl_null, xfl_long, xfl_double, List.length_cons, List.length_nil, s0, gM_f, gM_o n44a n44b, gM_o n40a n40b, e44, el, tl', hl0, hh, tc, ten, h3, not_false_eq_true, xfk, xfv, xak, xan, xcls, xsv', List.getElem?_cons_zero, List.getElem?_cons_succ, List.getD_cons_zero, List.getD_cons_succ, Option.getD_some, Option.isSome_some, if_true, if_pos, xcont, Option.toList_none, Option.toList_some, List.nil_append, List.cons_append]
            · have hl0 : 0 < l := by
                have : ¬ st = [] := fun h => by rw [h] at hB; exact hB
                cases st with
                | nil => exact absurd rfl this
                | cons f r => simp only [List.length_cons] at e40 h2; omega
              simp (config := { decide := true }) only [w_getI (pc' := 58) q239 d239_55 rfl f239_282, w_if_eq (tg := 90) (pc' := 61) q239 d239_58 (by decide) rfl, w_aload_n0 (pc' := 62) q239 d239_61 rfl, w_getI (pc' := 65) q239 d239_62 rfl f239_310, w_if_ne (tg := 83) (pc' := 68) q239 d239_65 (by decide) rfl, w_aload_n0 (pc' := 69) q239 d239_68 rfl, w_getI (pc' := 72) q239 d239_69 rfl f239_304, w_if_gt (tg := 83) (pc' := 75) q239 d239_72 (by decide) rfl, gs_off, gs_off0, gs_0off, gs_2, xN_0, xN_2, xN_3, xN_6, xN_7, xN_8, xN_9, xN_10, xN_11, xN_12, xN_13, xN_14, xN_15, xN_16, xN_17, xN_18, xN_19, xN_20, xN_21, xN_22, xN_23, xN_24, xN_25, xN_26, xN_27, xN_28, xN_29, xN_30, xN_31, xN_32, xN_33, xN_34, xN_35, xN_36, xN_37, xN_38, xN_39, xN_40, xN_41, xN_42, xN_43, xN_44, xN_45, xN_46, xN_47, xN_48, xN_49, xN_50, xN_51, xN_52, xN_53, xN_54, xN_55, ti_0, ti_1, ti_2, ti_3, ti_4, ti_5, ti_6, ti_7, ti_8, ti_9, ti_10, ti_16, ti_19, ti_20, ti_29, ti_30, ti_31, ti_32, ti_35, ti_36, ti_38, ti_39, ti_40, ti_41, ti_42, ti_43, ti_44, ti_45, ti_46, ti_47, ti_48, ti_49, ti_50, ti_51, ti_52, ti_53, ti_54, ti_55, ti_56, ti_57, ti_58, ti_59, ti_60, ti_61, ti_62, ti_63, ti_64, ti_65, ti_74, ti_77, ti_126, ti_200, ti_201, ti_202, ti_203, ti_204, ti_205, ti_210, ti_255, ti_256, ti_400, ti_512, ti_600, ti_601, ti_602, ti_1000, ti_1023, ti_1024, ti_2000, ti_10000, ti_12602, ti_999999, ti_m999999, ti_m1, ti_2000000, ti_3000000, xN_1, xN_4, xN_5, xN_60, xN_61, xN_64, xN_200, xN_800, xN_12000, xN_12602, eq_self, and_self, and_true, true_and, if_true, if_false, decide_true, Nat.reduceLeDiff, xc2_int, xc2_ref, xc2_ra, xc2_null, xc2_long, xc2_none, xisaT_ref, xisaT_ra, xisaT_null, xc1T_int, xc1T_ref, xc1T_ra, xc1T_null, xsum_nil, xsum_int, xsum_ref, xsum_ra, xsum_long, xsum_double, xsum_null, xfl_nil, xfl_int, xfl_ref, xfl_ra, xfl_null, xfl_long, xfl_double, List.length_cons, List.length_nil, s0, gM_f, gM_o n44a n44b, gM_o n40a n40b, e44, el, tl', hl0, xfk, xfv, xak, xan, xcls, xsv', List.getElem?_cons_zero, List.getElem?_cons_succ, List.getD_cons_zero, List.getD_cons_succ, Option.getD_some, Option.isSome_some, if_true, if_pos, xcont, Option.toList_none, Option.toList_some, List.nil_append, List.cons_append]
        · rfl
      have ho := m_one (X := X) (d := d) hS hC hP hmd hB hM hT h ha hk hst
      have hsh := fun a' md' st' tk' => onF_sh (g := g) (m := m) (a := a) (md := md) (a' := a') (md' := md') (st := st) (st' := st') (tk := tk) (tk' := tk') hC h hB hM hT
      have hok := fun a' md' st' tk' => onF_ok (g := g) (m := m) (a := a) (md := md) (a' := a') (md' := md') (st := st) (st' := st') (tk := tk) (tk' := tk') hC h (by omega) hB hQ hT
      generalize onF (mch g m) md st tk a = r at ho hsh hok
      cases r with
      | inl a' =>
        obtain ⟨g', f1, f2⟩ := ho
        refine ⟨g', f1, fun Q => ?_⟩
        dsimp only at f2 ⊢
        rw [pre Q, w_aload_n0 (pc' := 84) q239 d239_83 rfl]
        have fin : ∀ Q, Wx X (d + 7) 239 54 [some (.ref m), some (.int (iI en))] [] (hp S (gM g' m a' 0)) Q = Q (.inl none) (hp S (gM g' m a' 0)) := fun Q => by
          rw [w_aload_n0 (pc' := 55) q239 d239_54 rfl]
          · simp (config := { decide := true }) only [w_getI (pc' := 58) q239 d239_55 rfl f239_282, w_if_eq (tg := 90) (pc' := 61) q239 d239_58 (by decide) rfl, w_return q239 d239_90 m239.2.1, gs_off, gs_off0, gs_0off, gs_2, xN_0, xN_2, xN_3, xN_6, xN_7, xN_8, xN_9, xN_10, xN_11, xN_12, xN_13, xN_14, xN_15, xN_16, xN_17, xN_18, xN_19, xN_20, xN_21, xN_22, xN_23, xN_24, xN_25, xN_26, xN_27, xN_28, xN_29, xN_30, xN_31, xN_32, xN_33, xN_34, xN_35, xN_36, xN_37, xN_38, xN_39, xN_40, xN_41, xN_42, xN_43, xN_44, xN_45, xN_46, xN_47, xN_48, xN_49, xN_50, xN_51, xN_52, xN_53, xN_54, xN_55, ti_0, ti_1, ti_2, ti_3, ti_4, ti_5, ti_6, ti_7, ti_8, ti_9, ti_10, ti_16, ti_19, ti_20, ti_29, ti_30, ti_31, ti_32, ti_35, ti_36, ti_38, ti_39, ti_40, ti_41, ti_42, ti_43, ti_44, ti_45, ti_46, ti_47, ti_48, ti_49, ti_50, ti_51, ti_52, ti_53, ti_54, ti_55, ti_56, ti_57, ti_58, ti_59, ti_60, ti_61, ti_62, ti_63, ti_64, ti_65, ti_74, ti_77, ti_126, ti_200, ti_201, ti_202, ti_203, ti_204, ti_205, ti_210, ti_255, ti_256, ti_400, ti_512, ti_600, ti_601, ti_602, ti_1000, ti_1023, ti_1024, ti_2000, ti_10000, ti_12602, ti_999999, ti_m999999, ti_m1, ti_2000000, ti_3000000, xN_1, xN_4, xN_5, xN_60, xN_61, xN_64, xN_200, xN_800, xN_12000, xN_12602, eq_self, and_self, and_true, true_and, if_true, if_false, decide_true, Nat.reduceLeDiff, xc2_int, xc2_ref, xc2_ra, xc2_null, xc2_long, xc2_none, xisaT_ref, xisaT_ra, xisaT_null, xc1T_int, xc1T_ref, xc1T_ra, xc1T_null, xsum_nil, xsum_int, xsum_ref, xsum_ra, xsum_long, xsum_double, xsum_null, xfl_nil, xfl_int, xfl_ref, xfl_ra, xfl_null, xfl_long, xfl_double, List.length_cons, List.length_nil, s0, gM_f, xfk, xfv, xak, xan, xcls, xsv', List.getElem?_cons_zero, List.getElem?_cons_succ, List.getD_cons_zero, List.getD_cons_succ, Option.getD_some, Option.isSome_some, if_true, if_pos, xcont, Option.toList_none, Option.toList_some, List.nil_append, List.cons_append]
          · rfl
        · simp (config := { decide := true }) only [w_invv0 (ci := 11) (pc' := 87) q239 d239_84 rfl n239_361 k239_361_11 m240.1, w_goto (tg := 54) q239 d239_87 (by decide), gs_off, gs_off0, gs_0off, gs_2, xN_0, xN_2, xN_3, xN_6, xN_7, xN_8, xN_9, xN_10, xN_11, xN_12, xN_13, xN_14, xN_15, xN_16, xN_17, xN_18, xN_19, xN_20, xN_21, xN_22, xN_23, xN_24, xN_25, xN_26, xN_27, xN_28, xN_29, xN_30, xN_31, xN_32, xN_33, xN_34, xN_35, xN_36, xN_37, xN_38, xN_39, xN_40, xN_41, xN_42, xN_43, xN_44, xN_45, xN_46, xN_47, xN_48, xN_49, xN_50, xN_51, xN_52, xN_53, xN_54, xN_55, ti_0, ti_1, ti_2, ti_3, ti_4, ti_5, ti_6, ti_7, ti_8, ti_9, ti_10, ti_16, ti_19, ti_20, ti_29, ti_30, ti_31, ti_32, ti_35, ti_36, ti_38, ti_39, ti_40, ti_41, ti_42, ti_43, ti_44, ti_45, ti_46, ti_47, ti_48, ti_49, ti_50, ti_51, ti_52, ti_53, ti_54, ti_55, ti_56, ti_57, ti_58, ti_59, ti_60, ti_61, ti_62, ti_63, ti_64, ti_65, ti_74, ti_77, ti_126, ti_200, ti_201, ti_202, ti_203, ti_204, ti_205, ti_210, ti_255, ti_256, ti_400, ti_512, ti_600, ti_601, ti_602, ti_1000, ti_1023, ti_1024, ti_2000, ti_10000, ti_12602, ti_999999, ti_m999999, ti_m1, ti_2000000, ti_3000000, xN_1, xN_4, xN_5, xN_60, xN_61, xN_64, xN_200, xN_800, xN_12000, xN_12602, eq_self, and_self, and_true, true_and, if_true, if_false, decide_true, Nat.reduceLeDiff, xc2_int, xc2_ref, xc2_ra, xc2_null, xc2_long, xc2_none, xisaT_ref, xisaT_ra, xisaT_null, xc1T_int, xc1T_ref, xc1T_ra, xc1T_null, xsum_nil, xsum_int, xsum_ref, xsum_ra, xsum_long, xsum_double, xsum_null, xfl_nil, xfl_int, xfl_ref, xfl_ra, xfl_null, xfl_long, xfl_double, List.length_cons, List.length_nil, s0, f2, fin, xfk, xfv, xak, xan, xcls, xsv', List.getElem?_cons_zero, List.getElem?_cons_succ, List.getD_cons_zero, List.getD_cons_succ, Option.getD_some, Option.isSome_some, if_true, if_pos, xcont, Option.toList_none, Option.toList_some, List.nil_append, List.cons_append]
        · rfl
      | inr z =>
        obtain ⟨a', md', st', tk'⟩ := z
        obtain ⟨g', f1, f2, f3⟩ := ho
        obtain ⟨v1, v2⟩ := hsh a' md' st' tk' rfl
        obtain ⟨u1, u2, u3, u4, u5, u6, u7, u8⟩ := hok a' md' st' tk' rfl
        have u2' : a' ≤ g m 10 := u2
        have w10 : g' m 10 = g m 10 := f1.2 10 (by decide) (by decide) (by decide) (by decide)
        have hi := ih a' md' st' tk' g' (FrM_McI f1 hC) (by omega) (by omega) (by omega) f2 u7 (by omega) (by omega) u5 u6 v1 u8
        rw [FrM_mch f1] at hi
        refine CnM_congr f1 (fun Q => ?_) hi
        dsimp only at f3 ⊢
        rw [pre Q, w_aload_n0 (pc' := 84) q239 d239_83 rfl]
        · simp (config := { decide := true }) only [w_invv0 (ci := 11) (pc' := 87) q239 d239_84 rfl n239_361 k239_361_11 m240.1, w_goto (tg := 54) q239 d239_87 (by decide), gs_off, gs_off0, gs_0off, gs_2, xN_0, xN_2, xN_3, xN_6, xN_7, xN_8, xN_9, xN_10, xN_11, xN_12, xN_13, xN_14, xN_15, xN_16, xN_17, xN_18, xN_19, xN_20, xN_21, xN_22, xN_23, xN_24, xN_25, xN_26, xN_27, xN_28, xN_29, xN_30, xN_31, xN_32, xN_33, xN_34, xN_35, xN_36, xN_37, xN_38, xN_39, xN_40, xN_41, xN_42, xN_43, xN_44, xN_45, xN_46, xN_47, xN_48, xN_49, xN_50, xN_51, xN_52, xN_53, xN_54, xN_55, ti_0, ti_1, ti_2, ti_3, ti_4, ti_5, ti_6, ti_7, ti_8, ti_9, ti_10, ti_16, ti_19, ti_20, ti_29, ti_30, ti_31, ti_32, ti_35, ti_36, ti_38, ti_39, ti_40, ti_41, ti_42, ti_43, ti_44, ti_45, ti_46, ti_47, ti_48, ti_49, ti_50, ti_51, ti_52, ti_53, ti_54, ti_55, ti_56, ti_57, ti_58, ti_59, ti_60, ti_61, ti_62, ti_63, ti_64, ti_65, ti_74, ti_77, ti_126, ti_200, ti_201, ti_202, ti_203, ti_204, ti_205, ti_210, ti_255, ti_256, ti_400, ti_512, ti_600, ti_601, ti_602, ti_1000, ti_1023, ti_1024, ti_2000, ti_10000, ti_12602, ti_999999, ti_m999999, ti_m1, ti_2000000, ti_3000000, xN_1, xN_4, xN_5, xN_60, xN_61, xN_64, xN_200, xN_800, xN_12000, xN_12602, eq_self, and_self, and_true, true_and, if_true, if_false, decide_true, Nat.reduceLeDiff, xc2_int, xc2_ref, xc2_ra, xc2_null, xc2_long, xc2_none, xisaT_ref, xisaT_ra, xisaT_null, xc1T_int, xc1T_ref, xc1T_ra, xc1T_null, xsum_nil, xsum_int, xsum_ref, xsum_ra, xsum_long, xsum_double, xsum_null, xfl_nil, xfl_int, xfl_ref, xfl_ra, xfl_null, xfl_long, xfl_double, List.length_cons, List.length_nil, s0, f3, xfk, xfv, xak, xan, xcls, xsv', List.getElem?_cons_zero, List.getElem?_cons_succ, List.getD_cons_zero, List.getD_cons_succ, Option.getD_some, Option.isSome_some, if_true, if_pos, xcont, Option.toList_none, Option.toList_some, List.nil_append, List.cons_append]
        · rfl
end
