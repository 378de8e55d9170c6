/-! The model: orders are read; where a reader stands behind -/
section
theorem woF_ge {ch : Int → Int} {md a a' md' : Int} {st st' : List Fr} {tk tk' : List Int} (h : woF ch md st tk a = .inr (a', md', st', tk')) : a ≤ a' := by
  have hw := (wdF_rng (ch := ch) (a := a) 6 0 0 rfl (by decide) (by decide)).1
  have hs := spF_rng (ch := ch) (fx := true) (a := a)
  unfold woF at h
  dsimp only at h
  split at h
  · obtain ⟨e, -⟩ := Rd_inj h; omega
  split at h
  · cases h
  split at h
  · cases h
  · obtain ⟨e, -⟩ := Rd_inj h; omega
theorem opF_ge {ch : Int → Int} {md a a' md' : Int} {st st' : List Fr} {tk tk' : List Int} (h : opF ch md st tk a = .inr (a', md', st', tk')) : a ≤ a' := by
  unfold opF at h
  split at h
  · obtain ⟨e, -⟩ := Rd_inj h; omega
  split at h
  · obtain ⟨e, -⟩ := Rd_inj h; omega
  split at h
  · next hd => have := nuF_at hd; obtain ⟨e, -⟩ := Rd_inj h; omega
  · exact woF_ge h
theorem foF_ge {ch : Int → Int} {md a a' md' : Int} {st st' : List Fr} {tk tk' : List Int} (h : foF ch md st tk a = .inr (a', md', st', tk')) : a ≤ a' := by
  unfold foF at h
  split at h
  · cases h
  split at h
  · split at h
    · cases h
    · obtain ⟨e, -⟩ := Rd_inj h; omega
  split at h
  · split at h
    · obtain ⟨e, -⟩ := Rd_inj h; omega
    · cases h
  split at h
  · obtain ⟨e, -⟩ := Rd_inj h; omega
  · cases h
theorem scF_ge {ch : Int → Int} {a a' md' : Int} {st st' : List Fr} {tk tk' : List Int} (h : scF ch st tk a = .inr (a', md', st', tk')) : a ≤ a' := by
  have hs := spF_rng (ch := ch) (fx := true) (a := a + 1)
  unfold scF at h
  split at h
  · cases h
  · obtain ⟨e, -⟩ := Rd_inj h; omega
theorem onF_ge {ch : Int → Int} {md a a' md' : Int} {st st' : List Fr} {tk tk' : List Int} (h : onF ch md st tk a = .inr (a', md', st', tk')) : a ≤ a' := by
  unfold onF at h
  split at h
  · exact opF_ge h
  split at h
  · exact scF_ge h
  · exact foF_ge h
theorem cnT_ge {ch : Int → Int} {en : Int} : ∀ (k : Nat) (md : Int) (st : List Fr) (tk : List Int) (a a' : Int) (tk' : List Int), cnT ch en k md st tk a = .inr (a', tk') → a ≤ a'
  | 0, _, _, _, _, _, _, h => by cases h
  | k + 1, md, st, tk, a, a', tk', h => by
    rw [cnT_on] at h
    split at h
    · injection h with h; injection h with h1 h2; omega
    · generalize e : onF ch md st tk a = r at h
      cases r with
      | inl x => cases h
      | inr x =>
        obtain ⟨b, md', st', tk1⟩ := x
        have := onF_ge e
        have := cnT_ge k md' st' tk1 b a' tk' h
        omega
/-- a step goes no further than 7 characters -/
def RdB (a : Int) (r : Rd) : Prop := match r with | .inl a' => a ≤ a' ∧ a' ≤ a + 7 | .inr (a', _) => a ≤ a' ∧ a' ≤ a + 7
theorem onF_B {ch : Int → Int} {md a : Int} {st : List Fr} {tk : List Int} : RdB a (onF ch md st tk a) := by
  have hw := (wdF_rng (ch := ch) (a := a) 6 0 0 rfl (by decide) (by decide)).1
  have hs := spF_rng (ch := ch) (fx := true) (a := a)
  have hs2 := spF_rng (ch := ch) (fx := true) (a := a + 1)
  have hn : a ≤ (nuF ch a).2 ∧ (nuF ch a).2 ≤ a + 6 := by
    unfold nuF
    split
    · have := nmF_at (ch := ch) 1 0 a; omega
    · have := nmF_at (ch := ch) 6 0 a; omega
  unfold onF
  split
  · unfold opF
    split
    · show a ≤ a + 1 ∧ a + 1 ≤ a + 7; omega
    split
    · show a ≤ a + 1 ∧ a + 1 ≤ a + 7; omega
    split
    · show a ≤ (nuF ch a).2 ∧ (nuF ch a).2 ≤ a + 7; omega
    · unfold woF
      dsimp only
      split
      · show a ≤ a + _ ∧ a + _ ≤ a + 7; omega
      split
      · show a ≤ a + _ ∧ a + _ ≤ a + 7; omega
      split
      · show a ≤ _ ∧ _ ≤ a + 7; omega
      · show a ≤ _ ∧ _ ≤ a + 7; omega
  split
  · unfold scF
    split
    · show a ≤ _ ∧ _ ≤ a + 7; omega
    · show a ≤ _ ∧ _ ≤ a + 7; omega
  · unfold foF
    split
    · show a ≤ a ∧ a ≤ a + 7; omega
    split
    · split
      · show a ≤ a ∧ a ≤ a + 7; omega
      · show a ≤ a + 1 ∧ a + 1 ≤ a + 7; omega
    split
    · split
      · show a ≤ a + 1 ∧ a + 1 ≤ a + 7; omega
      · show a ≤ a ∧ a ≤ a + 7; omega
    split
    · show a ≤ a + 1 ∧ a + 1 ≤ a + 7; omega
    · show a ≤ a ∧ a ≤ a + 7; omega
theorem cnT_B {ch : Int → Int} {en : Int} : ∀ (k : Nat) (md : Int) (st : List Fr) (tk : List Int) (a a' : Int), cnT ch en k md st tk a = .inl a' → a ≤ a' ∧ a' ≤ a + 7 * k
  | 0, _, _, _, a, a', h => by
    injection h with h
    omega
  | k + 1, md, st, tk, a, a', h => by
    have hB := onF_B (ch := ch) (md := md) (st := st) (tk := tk) (a := a)
    rw [cnT_on] at h
    split at h
    · cases h
    · generalize onF ch md st tk a = r at h hB
      cases r with
      | inl x =>
        injection h with h
        have hB' : a ≤ x ∧ x ≤ a + 7 := hB
        omega
      | inr x =>
        obtain ⟨b, md', st', tk1⟩ := x
        have hB' : a ≤ b ∧ b ≤ a + 7 := hB
        have := cnT_B k md' st' tk1 b a' h
        omega
theorem ctF_eq (ch : Int → Int) (en a : Int) : ∃ b v : Int, (0 ≤ b ∧ b ≤ 1) ∧ (v = (nuF ch (a + b)).1 ∨ v = -(nuF ch (a + b)).1) ∧ ctF ch en a = if ch a = 61 then (match cnT ch en 61 0 [(7, 1, 0)] [] (a + 1) with | .inl a' => .inl a' | .inr (a', tk) => .inr (a', 2, 0, tk)) else if ch a = en then .inr (a, 0, 0, []) else if ¬ (48 ≤ ch (a + b) ∧ ch (a + b) ≤ 57) then .inl (a + b) else if ch (nuF ch (a + b)).2 = en then .inr ((nuF ch (a + b)).2, 1, v, []) else .inl (nuF ch (a + b)).2 := by
  obtain ⟨b, eb, hb⟩ : ∃ b : Int, (if ch a = 45 then (1 : Int) else 0) = b ∧ 0 ≤ b ∧ b ≤ 1 := ⟨_, rfl, by split <;> decide⟩
  obtain ⟨v, ev, hv⟩ : ∃ v : Int, (if ch a = 45 then -(nuF ch (a + b)).1 else (nuF ch (a + b)).1) = v ∧ (v = (nuF ch (a + b)).1 ∨ v = -(nuF ch (a + b)).1) := ⟨_, rfl, by split <;> simp⟩
  refine ⟨b, v, hb, hv, ?_⟩
  unfold ctF
  rw [eb, ev]
  rfl
theorem ctF_B {ch : Int → Int} {en a a' : Int} (h : ctF ch en a = .inl a') : a ≤ a' ∧ a' ≤ a + 500 := by
  obtain ⟨b, v, hb, -, e0⟩ := ctF_eq ch en a
  have hn : ∀ b, b ≤ (nuF ch b).2 ∧ (nuF ch b).2 ≤ b + 6 := fun b => by
    unfold nuF
    split
    · have := nmF_at (ch := ch) 1 0 b; omega
    · have := nmF_at (ch := ch) 6 0 b; omega
  rw [e0] at h
  split at h
  · generalize e : cnT ch en 61 0 [(7, 1, 0)] [] (a + 1) = r at h
    cases r with
    | inl x =>
      have := cnT_B _ _ _ _ _ _ e
      injection h with h; omega
    | inr x => cases h
  split at h
  · cases h
  split at h
  · injection h with h; omega
  · split at h
    · cases h
    · have := hn (a + b)
      injection h with h; omega
theorem ctF_ge2 {ch : Int → Int} {en a a' kd nu : Int} {tk : List Int} (h : ctF ch en a = .inr (a', kd, nu, tk)) : a ≤ a' := by
  obtain ⟨b, v, hb, -, e0⟩ := ctF_eq ch en a
  rw [e0] at h
  split at h
  · generalize e : cnT ch en 61 0 [(7, 1, 0)] [] (a + 1) = r at h
    cases r with
    | inl x => cases h
    | inr x =>
      obtain ⟨b, tk1⟩ := x
      have := cnT_ge _ _ _ _ _ _ _ e
      injection h with h; injection h with h1 h2; omega
  split at h
  · injection h with h; injection h with h1 h2; omega
  split at h
  · cases h
  · next hd =>
    have := nuF_at (Decidable.not_not.mp hd)
    split at h
    · injection h with h; injection h with h1 h2; omega
    · cases h
theorem orF_gt {ch : Int → Int} {a a' tg kd nu : Int} {tk : List Int} (h : orF ch a = .inr (a', tg, kd, nu, tk)) : a + 1 ≤ a' := by
  have hs := spF_rng (ch := ch) (fx := false) (a := a)
  unfold orF at h
  split at h
  · cases h
  split at h
  · cases h
  · generalize e : ctF ch 59 ((spF ch false a).2 + 1) = r at h
    cases r with
    | inl x => cases h
    | inr x =>
      obtain ⟨b, kd', nu', tk1⟩ := x
      have := ctF_ge2 e
      injection h with h; injection h with h1 h2; omega
variable {X : xX} {S : xLm} {g : xGm} {d : Nat} {w : xH} {Q : xO → xH → Prop}
theorem mctF_end {m : Nat} {en a a' kd nu : Int} {tk : List Int} (hC : McI g m) (he : 1 ≤ en) (h : ctF (mch g m) en a = .inr (a', kd, nu, tk)) : mch g m a' = en := by
  have h' := ctF_end (g := gZ g m) (p := 0) (en := en) (a := a) (a' := a') (kd := kd) (nu := nu) (tk := tk) (gZ_c hC) he (by rw [gZ_ch]; exact h)
  rw [gZ_ch] at h'
  exact h'
theorem morF_end {m : Nat} {a a' tg kd nu : Int} {tk : List Int} (hC : McI g m) (ha : 0 ≤ a) (h : orF (mch g m) a = .inr (a', tg, kd, nu, tk)) : a' ≤ g m 10 ∧ 0 ≤ tg ∧ tg < 200 := by
  have h' := orF_end (g := gZ g m) (p := 0) (a := a) (a' := a') (tg := tg) (kd := kd) (nu := nu) (tk := tk) (gZ_c hC) ha (by rw [gZ_ch]; exact h)
  exact h'
/-- what the reading of orders may change -/
def FrW (g g' : xGm) (m : Nat) : Prop := (∀ h, ¬ h = m → ¬ h = m + 21 → ¬ h = m + 22 → ¬ h = m + 23 → ¬ h = m + 24 → g' h = g h) ∧ (∀ i, (i < 32 ∨ 36 < i) → (i < 40 ∨ 45 < i) → g' m i = g m i)
theorem FrW_N {g g' : xGm} {m : Nat} (h : FrN g g' m) : FrW g g' m := ⟨h.1, fun i a b => h.2 i a (by omega)⟩
theorem FrW_refl (g : xGm) (m : Nat) : FrW g g m := FrW_N (FrN_refl g m)
theorem FrW_trans {g g1 g2 : xGm} {m : Nat} (h1 : FrW g g1 m) (h2 : FrW g1 g2 m) : FrW g g2 m := ⟨fun h a b c d e => (h2.1 h a b c d e).trans (h1.1 h a b c d e), fun i a b => (h2.2 i a b).trans (h1.2 i a b)⟩
theorem FrW_45 {g : xGm} {m : Nat} {z : Int} : FrW g (gs g m 45 z) m := ⟨fun h a _ _ _ _ => gs_row _ _ _ a, fun j a b => by rw [gs_at, if_neg (by omega)]⟩
theorem FrW_mch {g g' : xGm} {m : Nat} (h : FrW g g' m) : mch g' m = mch g m := mch_congr (h.2 10 (by omega) (by omega)) (h.1 (m + 7) (by omega) (by omega) (by omega) (by omega) (by omega))
theorem FrW_McI {g g' : xGm} {m : Nat} (h : FrW g g' m) (hC : McI g m) : McI g' m := by
  unfold McI rg at hC ⊢
  rw [h.2 10 (by omega) (by omega), h.1 (m + 7) (by omega) (by omega) (by omega) (by omega) (by omega)]
  exact hC
def OrM (S : xLm) (g : xGm) (m : Nat) (call : (xO → xH → Prop) → Prop) (r : Int ⊕ (Int × Int × Int × Int × List Int)) : Prop := match r with
  | .inl a' => ∃ g', FrW g g' m ∧ ∀ Q, call Q = Q (.inl none) (hp S (gM g' m a' 0))
  | .inr (a', tg, kd, nu, tk) => ∃ g', FrW g g' m ∧ RdN g' m kd nu tk ∧ g' m 45 = tg ∧ ∀ Q, call Q = Q (.inl none) (hp S (gM g' m a' 1))
theorem n45a : ¬ (45 : Int) = 35 := by decide
theorem n45b : ¬ (45 : Int) = 36 := by decide
theorem m_order {m : Nat} {a : Int} (hS : MdS S m) (hC : McI g m) (ha : 0 ≤ a) (ha2 : a ≤ g m 10) :
    OrM S g m (fun Q => Cw X (d + 9) 260 [.ref m] (hp S (gM g m a 1)) Q) (orF (mch g m) a) := by
  have s0 := hS.1
  have hlen := hC.2.1
  have hch := mch_rng hC
  have tch : ∀ i, ti (mch g m i) = mch g m i := fun i => by have := hch i; exact ti_eq (by omega) (by omega)
  have tc65 : ti (mch g m a - 65) = mch g m a - 65 := by have := hch a; exact ti_eq (by omega) (by omega)
  have t9 : ti 9 = 9 := by decide
  have t58 : ti 58 = 58 := by decide
  have t59 : ti 59 = 59 := by decide
  have hh := fun (G : xGm) (b f : Int) (hG : FrW g G m) (h : 0 ≤ b ∧ b ≤ 1000) Q => m_here (X := X) (d := d + 8) (S := S) (g := G) (m := m) (a := b) (f := f) (Q := Q) hS (FrW_McI hG hC) h.1 h.2
  have hhere := hh g a 1 (FrW_refl g m) ⟨ha, by omega⟩
  have hin := fun (w : xH) Q => m_in (X := X) (d := d + 8) (w := w) (Q := Q) (mch g m a - 65) 0 9
  rw [tc65, t9, ti_0] at hin
  have htk := fun (G : xGm) (b f z : Int) (hf : f = 0 ∨ f = 1) (hz : z = 0 ∨ z = 1) Q => m_takes (X := X) (d := d + 8) (g := G) (a := b) (f := f) (b := z) (Q := Q) hS hf hz
  -- the end
  have tail69 : ∀ (G : xGm) (b z c : Int), FrW g G m → 0 ≤ b → b ≤ 1000 → ∀ Q, Wx X (d + 9) 260 69 [some (.ref m), some (.int (iI c)), some (.int (iI z))] [] (hp S (gM G m b 0)) Q = Q (.inl none) (hp S (gM G m b 0)) := by
    intro G b z c hG hb hb2 Q
    have hB := hh G b 0 hG ⟨hb, hb2⟩
    rw [FrW_mch hG] at hB
    have h0 := htk G b 0 0 (.inl rfl) (.inl rfl)
    have h1 := htk G b 0 1 (.inl rfl) (.inr rfl)
    rw [if_neg (by decide)] at h0 h1
    by_cases e2 : mch g m b = 59
    · simp (config := { decide := true }) only [w_aload_n0 (pc' := 70) q260 d260_69 rfl, w_aload_n0 (pc' := 71) q260 d260_70 rfl, w_invv0 (ci := 11) (pc' := 74) q260 d260_71 rfl n260_288 k260_288_11 m238.1, w_bipush (z' := (59)) (pc' := 76) q260 d260_74 rfl (by decide), w_icmp_ne (tg := 83) (pc' := 79) q260 d260_76 (by decide) rfl, w_iconst (pc' := 80) q260 d260_79 rfl, w_goto (tg := 84) q260 d260_80 (by decide), w_iconst (pc' := 84) q260 d260_83 rfl, w_invv1 (ci := 11) (pc' := 87) q260 d260_84 rfl n260_291 k260_291_11 m245.1, w_return q260 d260_87 m260.2.1, gs_off, gs_off0, gs_0off, gs_2, xN_0, xN_2, xN_3, xN_6, xN_7, xN_8, xN_9, xN_10, xN_11, xN_12, xN_13, xN_14, xN_15, xN_16, xN_17, xN_18, xN_19, xN_20, xN_21, xN_22, xN_23, xN_24, xN_25, xN_26, xN_27, xN_28, xN_29, xN_30, xN_31, xN_32, xN_33, xN_34, xN_35, xN_36, xN_37, xN_38, xN_39, xN_40, xN_41, xN_42, xN_43, xN_44, xN_45, xN_46, xN_47, xN_48, xN_49, xN_50, xN_51, xN_52, xN_53, xN_54, xN_55, ti_0, ti_1, ti_2, ti_3, ti_4, ti_5, ti_6, ti_7, ti_8, ti_9, ti_10, ti_16, ti_19, ti_20, ti_29, ti_30, ti_31, ti_32, ti_35, ti_36, ti_38, ti_39, ti_40, ti_41, ti_42, ti_43, ti_44, ti_45, ti_46, ti_47, ti_48, ti_49, ti_50, ti_51, ti_52, ti_53, ti_54, ti_55, ti_56, ti_57, ti_58, ti_59, ti_60, ti_61, ti_62, ti_63, ti_64, ti_65, ti_74, ti_77, ti_126, ti_200, ti_201, ti_202, ti_203, ti_204, ti_205, ti_210, ti_255, ti_256, ti_400, ti_512, ti_600, ti_601, ti_602, ti_1000, ti_1023, ti_1024, ti_2000, ti_10000, ti_12602, ti_999999, ti_m999999, ti_m1, ti_2000000, ti_3000000, xN_1, xN_4, xN_5, xN_60, xN_61, xN_64, xN_200, xN_800, xN_12000, xN_12602, eq_self, and_self, and_true, true_and, if_true, if_false, decide_true, Nat.reduceLeDiff, xc2_int, xc2_ref, xc2_ra, xc2_null, xc2_long, xc2_none, xisaT_ref, xisaT_ra, xisaT_null, xc1T_int, xc1T_ref, xc1T_ra, xc1T_null, xsum_nil, xsum_int, xsum_ref, xsum_ra, xsum_long, xsum_double, xsum_null, xfl_nil, xfl_int, xfl_ref, xfl_ra, xfl_null, xfl_long, xfl_double, List.length_cons, List.length_nil, s0, hB, t59, tch, e2, not_true_eq_false, h1, xfk, xfv, xak, xan, xcls, xsv', List.getElem?_cons_zero, List.getElem?_cons_succ, List.getD_cons_zero, List.getD_cons_succ, Option.getD_some, Option.isSome_some, if_true, if_pos, xcont, Option.toList_none, Option.toList_some, List.nil_append, List.cons_append]
    · simp (config := { decide := true }) only [w_aload_n0 (pc' := 70) q260 d260_69 rfl, w_aload_n0 (pc' := 71) q260 d260_70 rfl, w_invv0 (ci := 11) (pc' := 74) q260 d260_71 rfl n260_288 k260_288_11 m238.1, w_bipush (z' := (59)) (pc' := 76) q260 d260_74 rfl (by decide), w_icmp_ne (tg := 83) (pc' := 79) q260 d260_76 (by decide) rfl, w_iconst (pc' := 80) q260 d260_79 rfl, w_goto (tg := 84) q260 d260_80 (by decide), w_iconst (pc' := 84) q260 d260_83 rfl, w_invv1 (ci := 11) (pc' := 87) q260 d260_84 rfl n260_291 k260_291_11 m245.1, w_return q260 d260_87 m260.2.1, gs_off, gs_off0, gs_0off, gs_2, xN_0, xN_2, xN_3, xN_6, xN_7, xN_8, xN_9, xN_10, xN_11, xN_12, xN_13, xN_14, xN_15, xN_16, xN_17, xN_18, xN_19, xN_20, xN_21, xN_22, xN_23, xN_24, xN_25, xN_26, xN_27, xN_28, xN_29, xN_30, xN_31, xN_32, xN_33, xN_34, xN_35, xN_36, xN_37, xN_38, xN_39, xN_40, xN_41, xN_42, xN_43, xN_44, xN_45, xN_46, xN_47, xN_48, xN_49, xN_50, xN_51, xN_52, xN_53, xN_54, xN_55, ti_0, ti_1, ti_2, ti_3, ti_4, ti_5, ti_6, ti_7, ti_8, ti_9, ti_10, ti_16, ti_19, ti_20, ti_29, ti_30, ti_31, ti_32, ti_35, ti_36, ti_38, ti_39, ti_40, ti_41, ti_42, ti_43, ti_44, ti_45, ti_46, ti_47, ti_48, ti_49, ti_50, ti_51, ti_52, ti_53, ti_54, ti_55, ti_56, ti_57, ti_58, ti_59, ti_60, ti_61, ti_62, ti_63, ti_64, ti_65, ti_74, ti_77, ti_126, ti_200, ti_201, ti_202, ti_203, ti_204, ti_205, ti_210, ti_255, ti_256, ti_400, ti_512, ti_600, ti_601, ti_602, ti_1000, ti_1023, ti_1024, ti_2000, ti_10000, ti_12602, ti_999999, ti_m999999, ti_m1, ti_2000000, ti_3000000, xN_1, xN_4, xN_5, xN_60, xN_61, xN_64, xN_200, xN_800, xN_12000, xN_12602, eq_self, and_self, and_true, true_and, if_true, if_false, decide_true, Nat.reduceLeDiff, xc2_int, xc2_ref, xc2_ra, xc2_null, xc2_long, xc2_none, xisaT_ref, xisaT_ra, xisaT_null, xc1T_int, xc1T_ref, xc1T_ra, xc1T_null, xsum_nil, xsum_int, xsum_ref, xsum_ra, xsum_long, xsum_double, xsum_null, xfl_nil, xfl_int, xfl_ref, xfl_ra, xfl_null, xfl_long, xfl_double, List.length_cons, List.length_nil, s0, hB, tch, t59, e2, not_false_eq_true, h0, xfk, xfv, xak, xan, xcls, xsv', List.getElem?_cons_zero, List.getElem?_cons_succ, List.getD_cons_zero, List.getD_cons_succ, Option.getD_some, Option.isSome_some, if_true, if_pos, xcont, Option.toList_none, Option.toList_some, List.nil_append, List.cons_append]
  have tail63 : ∀ (G : xGm) (b z c : Int), FrW g G m → 0 ≤ b → b ≤ 1000 → ∃ g', FrW g g' m ∧ ∀ Q, Wx X (d + 9) 260 63 [some (.ref m), some (.int (iI c)), some (.int (iI z))] [] (hp S (gM G m b 0)) Q = Q (.inl none) (hp S (gM g' m b 0)) := by
    intro G b z c hG hb hb2
    obtain ⟨g', f2, k2⟩ := m_content0 (X := X) (d := d) (g := G) (en := 59) (a := b) hS
    refine ⟨g', FrW_trans hG (FrW_N f2), fun Q => ?_⟩
    rw [← tail69 g' b z c (FrW_trans hG (FrW_N f2)) hb hb2 Q]
    simp (config := { decide := true }) only [w_aload_n0 (pc' := 64) q260 d260_63 rfl, w_bipush (z' := (59)) (pc' := 66) q260 d260_64 rfl (by decide), w_invv1 (ci := 11) (pc' := 69) q260 d260_66 rfl n260_370 k260_370_11 m237.1, gs_off, gs_off0, gs_0off, gs_2, xN_0, xN_2, xN_3, xN_6, xN_7, xN_8, xN_9, xN_10, xN_11, xN_12, xN_13, xN_14, xN_15, xN_16, xN_17, xN_18, xN_19, xN_20, xN_21, xN_22, xN_23, xN_24, xN_25, xN_26, xN_27, xN_28, xN_29, xN_30, xN_31, xN_32, xN_33, xN_34, xN_35, xN_36, xN_37, xN_38, xN_39, xN_40, xN_41, xN_42, xN_43, xN_44, xN_45, xN_46, xN_47, xN_48, xN_49, xN_50, xN_51, xN_52, xN_53, xN_54, xN_55, ti_0, ti_1, ti_2, ti_3, ti_4, ti_5, ti_6, ti_7, ti_8, ti_9, ti_10, ti_16, ti_19, ti_20, ti_29, ti_30, ti_31, ti_32, ti_35, ti_36, ti_38, ti_39, ti_40, ti_41, ti_42, ti_43, ti_44, ti_45, ti_46, ti_47, ti_48, ti_49, ti_50, ti_51, ti_52, ti_53, ti_54, ti_55, ti_56, ti_57, ti_58, ti_59, ti_60, ti_61, ti_62, ti_63, ti_64, ti_65, ti_74, ti_77, ti_126, ti_200, ti_201, ti_202, ti_203, ti_204, ti_205, ti_210, ti_255, ti_256, ti_400, ti_512, ti_600, ti_601, ti_602, ti_1000, ti_1023, ti_1024, ti_2000, ti_10000, ti_12602, ti_999999, ti_m999999, ti_m1, ti_2000000, ti_3000000, xN_1, xN_4, xN_5, xN_60, xN_61, xN_64, xN_200, xN_800, xN_12000, xN_12602, eq_self, and_self, and_true, true_and, if_true, if_false, decide_true, Nat.reduceLeDiff, xc2_int, xc2_ref, xc2_ra, xc2_null, xc2_long, xc2_none, xisaT_ref, xisaT_ra, xisaT_null, xc1T_int, xc1T_ref, xc1T_ra, xc1T_null, xsum_nil, xsum_int, xsum_ref, xsum_ra, xsum_long, xsum_double, xsum_null, xfl_nil, xfl_int, xfl_ref, xfl_ra, xfl_null, xfl_long, xfl_double, List.length_cons, List.length_nil, s0, k2, xfk, xfv, xak, xan, xcls, xsv', List.getElem?_cons_zero, List.getElem?_cons_succ, List.getD_cons_zero, List.getD_cons_succ, Option.getD_some, Option.isSome_some, if_true, if_pos, xcont, Option.toList_none, Option.toList_some, List.nil_append, List.cons_append]
  -- the spot was no good
  have fail : ∀ (b z c : Int), 0 ≤ b → b ≤ 1000 → ∃ g', FrW g g' m ∧ ∀ Q, Wx X (d + 9) 260 34 [some (.ref m), some (.int (iI c)), none] [.int (iI z)] (hp S (gM g m b 0)) Q = Q (.inl none) (hp S (gM g' m b 0)) := by
    intro b z c hb hb2
    obtain ⟨G1, eG1⟩ : ∃ G1, G1 = gs g m 45 (10 * z + c) := ⟨_, rfl⟩
    have f1 : FrW g G1 m := by rw [eG1]; exact FrW_45
    obtain ⟨g', f2, k2⟩ := tail63 G1 b z c f1 hb hb2
    have hA := hh G1 b 0 f1 ⟨hb, hb2⟩
    rw [FrW_mch f1] at hA
    have h0 := htk G1 b 0 0 (.inl rfl) (.inl rfl)
    have h1 := htk G1 b 0 1 (.inl rfl) (.inr rfl)
    rw [if_neg (by decide)] at h0 h1
    have hst : gs (gM g m b 0) m 45 (10 * z + c) = gM G1 m b 0 := by rw [eG1, gM_s n45a n45b]
    refine ⟨g', f2, fun Q => ?_⟩
    rw [← k2 Q]
    by_cases e1 : mch g m b = 58
    · simp (config := { decide := true }) only [w_istore_n2 (pc' := 35) q260 d260_34 rfl, w_aload_n0 (pc' := 36) q260 d260_35 rfl, w_bipush (z' := (10)) (pc' := 38) q260 d260_36 rfl (by decide), w_iload_n2 (pc' := 39) q260 d260_38 rfl, w_imul (pc' := 40) q260 d260_39 rfl, w_iload_n1 (pc' := 41) q260 d260_40 rfl, w_iadd (pc' := 42) q260 d260_41 rfl, w_putI (pc' := 45) q260 d260_42 rfl f260_373 rfl (by decide +kernel), w_aload_n0 (pc' := 46) q260 d260_45 rfl, w_aload_n0 (pc' := 47) q260 d260_46 rfl, w_invv0 (ci := 11) (pc' := 50) q260 d260_47 rfl n260_288 k260_288_11 m238.1, w_bipush (z' := (58)) (pc' := 52) q260 d260_50 rfl (by decide), w_icmp_ne (tg := 59) (pc' := 55) q260 d260_52 (by decide) rfl, w_iconst (pc' := 56) q260 d260_55 rfl, w_goto (tg := 60) q260 d260_56 (by decide), w_iconst (pc' := 60) q260 d260_59 rfl, w_invv1 (ci := 11) (pc' := 63) q260 d260_60 rfl n260_291 k260_291_11 m245.1, gs_off, gs_off0, gs_0off, gs_2, xN_0, xN_2, xN_3, xN_6, xN_7, xN_8, xN_9, xN_10, xN_11, xN_12, xN_13, xN_14, xN_15, xN_16, xN_17, xN_18, xN_19, xN_20, xN_21, xN_22, xN_23, xN_24, xN_25, xN_26, xN_27, xN_28, xN_29, xN_30, xN_31, xN_32, xN_33, xN_34, xN_35, xN_36, xN_37, xN_38, xN_39, xN_40, xN_41, xN_42, xN_43, xN_44, xN_45, xN_46, xN_47, xN_48, xN_49, xN_50, xN_51, xN_52, xN_53, xN_54, xN_55, ti_0, ti_1, ti_2, ti_3, ti_4, ti_5, ti_6, ti_7, ti_8, ti_9, ti_10, ti_16, ti_19, ti_20, ti_29, ti_30, ti_31, ti_32, ti_35, ti_36, ti_38, ti_39, ti_40, ti_41, ti_42, ti_43, ti_44, ti_45, ti_46, ti_47, ti_48, ti_49, ti_50, ti_51, ti_52, ti_53, ti_54, ti_55, ti_56, ti_57, ti_58, ti_59, ti_60, ti_61, ti_62, ti_63, ti_64, ti_65, ti_74, ti_77, ti_126, ti_200, ti_201, ti_202, ti_203, ti_204, ti_205, ti_210, ti_255, ti_256, ti_400, ti_512, ti_600, ti_601, ti_602, ti_1000, ti_1023, ti_1024, ti_2000, ti_10000, ti_12602, ti_999999, ti_m999999, ti_m1, ti_2000000, ti_3000000, xN_1, xN_4, xN_5, xN_60, xN_61, xN_64, xN_200, xN_800, xN_12000, xN_12602, eq_self, and_self, and_true, true_and, if_true, if_false, decide_true, Nat.reduceLeDiff, xc2_int, xc2_ref, xc2_ra, xc2_null, xc2_long, xc2_none, xisaT_ref, xisaT_ra, xisaT_null, xc1T_int, xc1T_ref, xc1T_ra, xc1T_null, xsum_nil, xsum_int, xsum_ref, xsum_ra, xsum_long, xsum_double, xsum_null, xfl_nil, xfl_int, xfl_ref, xfl_ra, xfl_null, xfl_long, xfl_double, List.length_cons, List.length_nil, s0, hst, hA, t58, e1, not_true_eq_false, h1, xfk, xfv, xak, xan, xcls, xsv', List.getElem?_cons_zero, List.getElem?_cons_succ, List.getD_cons_zero, List.getD_cons_succ, Option.getD_some, Option.isSome_some, if_true, if_pos, xcont, Option.toList_none, Option.toList_some, List.nil_append, List.cons_append]
    · simp (config := { decide := true }) only [w_istore_n2 (pc' := 35) q260 d260_34 rfl, w_aload_n0 (pc' := 36) q260 d260_35 rfl, w_bipush (z' := (10)) (pc' := 38) q260 d260_36 rfl (by decide), w_iload_n2 (pc' := 39) q260 d260_38 rfl, w_imul (pc' := 40) q260 d260_39 rfl, w_iload_n1 (pc' := 41) q260 d260_40 rfl, w_iadd (pc' := 42) q260 d260_41 rfl, w_putI (pc' := 45) q260 d260_42 rfl f260_373 rfl (by decide +kernel), w_aload_n0 (pc' := 46) q260 d260_45 rfl, w_aload_n0 (pc' := 47) q260 d260_46 rfl, w_invv0 (ci := 11) (pc' := 50) q260 d260_47 rfl n260_288 k260_288_11 m238.1, w_bipush (z' := (58)) (pc' := 52) q260 d260_50 rfl (by decide), w_icmp_ne (tg := 59) (pc' := 55) q260 d260_52 (by decide) rfl, w_iconst (pc' := 56) q260 d260_55 rfl, w_goto (tg := 60) q260 d260_56 (by decide), w_iconst (pc' := 60) q260 d260_59 rfl, w_invv1 (ci := 11) (pc' := 63) q260 d260_60 rfl n260_291 k260_291_11 m245.1, gs_off, gs_off0, gs_0off, gs_2, xN_0, xN_2, xN_3, xN_6, xN_7, xN_8, xN_9, xN_10, xN_11, xN_12, xN_13, xN_14, xN_15, xN_16, xN_17, xN_18, xN_19, xN_20, xN_21, xN_22, xN_23, xN_24, xN_25, xN_26, xN_27, xN_28, xN_29, xN_30, xN_31, xN_32, xN_33, xN_34, xN_35, xN_36, xN_37, xN_38, xN_39, xN_40, xN_41, xN_42, xN_43, xN_44, xN_45, xN_46, xN_47, xN_48, xN_49, xN_50, xN_51, xN_52, xN_53, xN_54, xN_55, ti_0, ti_1, ti_2, ti_3, ti_4, ti_5, ti_6, ti_7, ti_8, ti_9, ti_10, ti_16, ti_19, ti_20, ti_29, ti_30, ti_31, ti_32, ti_35, ti_36, ti_38, ti_39, ti_40, ti_41, ti_42, ti_43, ti_44, ti_45, ti_46, ti_47, ti_48, ti_49, ti_50, ti_51, ti_52, ti_53, ti_54, ti_55, ti_56, ti_57, ti_58, ti_59, ti_60, ti_61, ti_62, ti_63, ti_64, ti_65, ti_74, ti_77, ti_126, ti_200, ti_201, ti_202, ti_203, ti_204, ti_205, ti_210, ti_255, ti_256, ti_400, ti_512, ti_600, ti_601, ti_602, ti_1000, ti_1023, ti_1024, ti_2000, ti_10000, ti_12602, ti_999999, ti_m999999, ti_m1, ti_2000000, ti_3000000, xN_1, xN_4, xN_5, xN_60, xN_61, xN_64, xN_200, xN_800, xN_12000, xN_12602, eq_self, and_self, and_true, true_and, if_true, if_false, decide_true, Nat.reduceLeDiff, xc2_int, xc2_ref, xc2_ra, xc2_null, xc2_long, xc2_none, xisaT_ref, xisaT_ra, xisaT_null, xc1T_int, xc1T_ref, xc1T_ra, xc1T_null, xsum_nil, xsum_int, xsum_ref, xsum_ra, xsum_long, xsum_double, xsum_null, xfl_nil, xfl_int, xfl_ref, xfl_ra, xfl_null, xfl_long, xfl_double, List.length_cons, List.length_nil, s0, hst, hA, tch, t58, e1, not_false_eq_true, h0, xfk, xfv, xak, xan, xcls, xsv', List.getElem?_cons_zero, List.getElem?_cons_succ, List.getD_cons_zero, List.getD_cons_succ, Option.getD_some, Option.isSome_some, if_true, if_pos, xcont, Option.toList_none, Option.toList_some, List.nil_append, List.cons_append]
  -- the spot was good
  have good : ∀ (b z c tg : Int), 10 * z + c = tg → 0 ≤ b → b ≤ 700 → (if ¬ mch g m b = 58 then (.inl b : Int ⊕ (Int × Int × Int × Int × List Int)) else match ctF (mch g m) 59 (b + 1) with | .inl a' => .inl a' | .inr (a', kd, nu, tk) => .inr (a' + 1, tg, kd, nu, tk)) = orF (mch g m) a →
      (∀ Q, Cw X (d + 9) 260 [.ref m] (hp S (gM g m a 1)) Q = Wx X (d + 9) 260 34 [some (.ref m), some (.int (iI c)), none] [.int (iI z)] (hp S (gM g m b 1)) Q) → OrM S g m (fun Q => Cw X (d + 9) 260 [.ref m] (hp S (gM g m a 1)) Q) (orF (mch g m) a) := by
    intro b z c tg etg hb hb2 eor head
    rw [← eor]
    obtain ⟨G1, eG1⟩ : ∃ G1, G1 = gs g m 45 tg := ⟨_, rfl⟩
    have f1 : FrW g G1 m := by rw [eG1]; exact FrW_45
    have e45 : G1 m 45 = tg := by rw [eG1, gs_at, if_pos rfl]
    have hA := hh G1 b 1 f1 ⟨hb, by omega⟩
    rw [FrW_mch f1] at hA
    have hst : gs (gM g m b 1) m 45 tg = gM G1 m b 1 := by rw [eG1, gM_s n45a n45b]
    by_cases e1 : mch g m b = 58
    · rw [if_neg (fun h => h e1)]
      have hlt := mch_lt (g := g) (m := m) (i := b) (by omega)
      have h1 := htk G1 b 1 1 (.inr rfl) (.inr rfl)
      rw [if_pos (by decide)] at h1
      have hct := m_content (X := X) (d := d) (g := G1) (en := 59) (a := b + 1) hS (FrW_McI f1 hC) (by decide) (by omega) (by rw [f1.2 10 (by omega) (by omega)]; omega)
      rw [FrW_mch f1] at hct
      have head2 : ∀ Q, Cw X (d + 9) 260 [.ref m] (hp S (gM g m a 1)) Q = Wx X (d + 9) 260 63 [some (.ref m), some (.int (iI c)), some (.int (iI z))] [] (hp S (gM G1 m (b + 1) 1)) Q := fun Q => by
        rw [head Q]
        simp (config := { decide := true }) only [w_istore_n2 (pc' := 35) q260 d260_34 rfl, w_aload_n0 (pc' := 36) q260 d260_35 rfl, w_bipush (z' := (10)) (pc' := 38) q260 d260_36 rfl (by decide), w_iload_n2 (pc' := 39) q260 d260_38 rfl, w_imul (pc' := 40) q260 d260_39 rfl, w_iload_n1 (pc' := 41) q260 d260_40 rfl, w_iadd (pc' := 42) q260 d260_41 rfl, w_putI (pc' := 45) q260 d260_42 rfl f260_373 rfl (by decide +kernel), w_aload_n0 (pc' := 46) q260 d260_45 rfl, w_aload_n0 (pc' := 47) q260 d260_46 rfl, w_invv0 (ci := 11) (pc' := 50) q260 d260_47 rfl n260_288 k260_288_11 m238.1, w_bipush (z' := (58)) (pc' := 52) q260 d260_50 rfl (by decide), w_icmp_ne (tg := 59) (pc' := 55) q260 d260_52 (by decide) rfl, w_iconst (pc' := 56) q260 d260_55 rfl, w_goto (tg := 60) q260 d260_56 (by decide), w_iconst (pc' := 60) q260 d260_59 rfl, w_invv1 (ci := 11) (pc' := 63) q260 d260_60 rfl n260_291 k260_291_11 m245.1, gs_off, gs_off0, gs_0off, gs_2, xN_0, xN_2, xN_3, xN_6, xN_7, xN_8, xN_9, xN_10, xN_11, xN_12, xN_13, xN_14, xN_15, xN_16, xN_17, xN_18, xN_19, xN_20, xN_21, xN_22, xN_23, xN_24, xN_25, xN_26, xN_27, xN_28, xN_29, xN_30, xN_31, xN_32, xN_33, xN_34, xN_35, xN_36, xN_37, xN_38, xN_39, xN_40, xN_41, xN_42, xN_43, xN_44, xN_45, xN_46, xN_47, xN_48, xN_49, xN_50, xN_51, xN_52, xN_53, xN_54, xN_55, ti_0, ti_1, ti_2, ti_3, ti_4, ti_5, ti_6, ti_7, ti_8, ti_9, ti_10, ti_16, ti_19, ti_20, ti_29, ti_30, ti_31, ti_32, ti_35, ti_36, ti_38, ti_39, ti_40, ti_41, ti_42, ti_43, ti_44, ti_45, ti_46, ti_47, ti_48, ti_49, ti_50, ti_51, ti_52, ti_53, ti_54, ti_55, ti_56, ti_57, ti_58, ti_59, ti_60, ti_61, ti_62, ti_63, ti_64, ti_65, ti_74, ti_77, ti_126, ti_200, ti_201, ti_202, ti_203, ti_204, ti_205, ti_210, ti_255, ti_256, ti_400, ti_512, ti_600, ti_601, ti_602, ti_1000, ti_1023, ti_1024, ti_2000, ti_10000, ti_12602, ti_999999, ti_m999999, ti_m1, ti_2000000, ti_3000000, xN_1, xN_4, xN_5, xN_60, xN_61, xN_64, xN_200, xN_800, xN_12000, xN_12602, eq_self, and_self, and_true, true_and, if_true, if_false, decide_true, Nat.reduceLeDiff, xc2_int, xc2_ref, xc2_ra, xc2_null, xc2_long, xc2_none, xisaT_ref, xisaT_ra, xisaT_null, xc1T_int, xc1T_ref, xc1T_ra, xc1T_null, xsum_nil, xsum_int, xsum_ref, xsum_ra, xsum_long, xsum_double, xsum_null, xfl_nil, xfl_int, xfl_ref, xfl_ra, xfl_null, xfl_long, xfl_double, List.length_cons, List.length_nil, s0, etg, hst, hA, t58, e1, not_true_eq_false, h1, xfk, xfv, xak, xan, xcls, xsv', List.getElem?_cons_zero, List.getElem?_cons_succ, List.getD_cons_zero, List.getD_cons_succ, Option.getD_some, Option.isSome_some, if_true, if_pos, xcont, Option.toList_none, Option.toList_some, List.nil_append, List.cons_append]
      generalize ec : ctF (mch g m) 59 (b + 1) = r at hct
      cases r with
      | inl a' =>
        obtain ⟨g', f2, k2⟩ := hct
        have hB := ctF_B ec
        refine ⟨g', FrW_trans f1 (FrW_N f2), fun Q => ?_⟩
        dsimp only at k2 ⊢
        rw [head2 Q, ← tail69 g' a' z c (FrW_trans f1 (FrW_N f2)) (by omega) (by omega) Q]
        simp (config := { decide := true }) only [w_aload_n0 (pc' := 64) q260 d260_63 rfl, w_bipush (z' := (59)) (pc' := 66) q260 d260_64 rfl (by decide), w_invv1 (ci := 11) (pc' := 69) q260 d260_66 rfl n260_370 k260_370_11 m237.1, gs_off, gs_off0, gs_0off, gs_2, xN_0, xN_2, xN_3, xN_6, xN_7, xN_8, xN_9, xN_10, xN_11, xN_12, xN_13, xN_14, xN_15, xN_16, xN_17, xN_18, xN_19, xN_20, xN_21, xN_22, xN_23, xN_24, xN_25, xN_26, xN_27, xN_28, xN_29, xN_30, xN_31, xN_32, xN_33, xN_34, xN_35, xN_36, xN_37, xN_38, xN_39, xN_40, xN_41, xN_42, xN_43, xN_44, xN_45, xN_46, xN_47, xN_48, xN_49, xN_50, xN_51, xN_52, xN_53, xN_54, xN_55, ti_0, ti_1, ti_2, ti_3, ti_4, ti_5, ti_6, ti_7, ti_8, ti_9, ti_10, ti_16, ti_19, ti_20, ti_29, ti_30, ti_31, ti_32, ti_35, ti_36, ti_38, ti_39, ti_40, ti_41, ti_42, ti_43, ti_44, ti_45, ti_46, ti_47, ti_48, ti_49, ti_50, ti_51, ti_52, ti_53, ti_54, ti_55, ti_56, ti_57, ti_58, ti_59, ti_60, ti_61, ti_62, ti_63, ti_64, ti_65, ti_74, ti_77, ti_126, ti_200, ti_201, ti_202, ti_203, ti_204, ti_205, ti_210, ti_255, ti_256, ti_400, ti_512, ti_600, ti_601, ti_602, ti_1000, ti_1023, ti_1024, ti_2000, ti_10000, ti_12602, ti_999999, ti_m999999, ti_m1, ti_2000000, ti_3000000, xN_1, xN_4, xN_5, xN_60, xN_61, xN_64, xN_200, xN_800, xN_12000, xN_12602, eq_self, and_self, and_true, true_and, if_true, if_false, decide_true, Nat.reduceLeDiff, xc2_int, xc2_ref, xc2_ra, xc2_null, xc2_long, xc2_none, xisaT_ref, xisaT_ra, xisaT_null, xc1T_int, xc1T_ref, xc1T_ra, xc1T_null, xsum_nil, xsum_int, xsum_ref, xsum_ra, xsum_long, xsum_double, xsum_null, xfl_nil, xfl_int, xfl_ref, xfl_ra, xfl_null, xfl_long, xfl_double, List.length_cons, List.length_nil, s0, k2, xfk, xfv, xak, xan, xcls, xsv', List.getElem?_cons_zero, List.getElem?_cons_succ, List.getD_cons_zero, List.getD_cons_succ, Option.getD_some, Option.isSome_some, if_true, if_pos, xcont, Option.toList_none, Option.toList_some, List.nil_append, List.cons_append]
      | inr x =>
        obtain ⟨a', kd, nu, tk⟩ := x
        obtain ⟨g', f2, hr, k2⟩ := hct
        have hen := mctF_end hC (by decide) ec
        have hge := ctF_ge2 ec
        have hlt2 := mch_lt (g := g) (m := m) (i := a') (by omega)
        have f3 := FrW_trans f1 (FrW_N f2)
        refine ⟨g', f3, hr, ?_, fun Q => ?_⟩
        · rw [f2.2 45 (by omega) (by omega)]; exact e45
        · have hB := hh g' a' 1 f3 ⟨by omega, by omega⟩
          rw [FrW_mch f3, hen] at hB
          have h1 := htk g' a' 1 1 (.inr rfl) (.inr rfl)
          rw [if_pos (by decide)] at h1
          dsimp only at k2 ⊢
          rw [head2 Q]
          simp (config := { decide := true }) only [w_aload_n0 (pc' := 64) q260 d260_63 rfl, w_bipush (z' := (59)) (pc' := 66) q260 d260_64 rfl (by decide), w_invv1 (ci := 11) (pc' := 69) q260 d260_66 rfl n260_370 k260_370_11 m237.1, w_aload_n0 (pc' := 70) q260 d260_69 rfl, w_aload_n0 (pc' := 71) q260 d260_70 rfl, w_invv0 (ci := 11) (pc' := 74) q260 d260_71 rfl n260_288 k260_288_11 m238.1, w_bipush (z' := (59)) (pc' := 76) q260 d260_74 rfl (by decide), w_icmp_ne (tg := 83) (pc' := 79) q260 d260_76 (by decide) rfl, w_iconst (pc' := 80) q260 d260_79 rfl, w_goto (tg := 84) q260 d260_80 (by decide), w_iconst (pc' := 84) q260 d260_83 rfl, w_invv1 (ci := 11) (pc' := 87) q260 d260_84 rfl n260_291 k260_291_11 m245.1, w_return q260 d260_87 m260.2.1, gs_off, gs_off0, gs_0off, gs_2, xN_0, xN_2, xN_3, xN_6, xN_7, xN_8, xN_9, xN_10, xN_11, xN_12, xN_13, xN_14, xN_15, xN_16, xN_17, xN_18, xN_19, xN_20, xN_21, xN_22, xN_23, xN_24, xN_25, xN_26, xN_27, xN_28, xN_29, xN_30, xN_31, xN_32, xN_33, xN_34, xN_35, xN_36, xN_37, xN_38, xN_39, xN_40, xN_41, xN_42, xN_43, xN_44, xN_45, xN_46, xN_47, xN_48, xN_49, xN_50, xN_51, xN_52, xN_53, xN_54, xN_55, ti_0, ti_1, ti_2, ti_3, ti_4, ti_5, ti_6, ti_7, ti_8, ti_9, ti_10, ti_16, ti_19, ti_20, ti_29, ti_30, ti_31, ti_32, ti_35, ti_36, ti_38, ti_39, ti_40, ti_41, ti_42, ti_43, ti_44, ti_45, ti_46, ti_47, ti_48, ti_49, ti_50, ti_51, ti_52, ti_53, ti_54, ti_55, ti_56, ti_57, ti_58, ti_59, ti_60, ti_61, ti_62, ti_63, ti_64, ti_65, ti_74, ti_77, ti_126, ti_200, ti_201, ti_202, ti_203, ti_204, ti_205, ti_210, ti_255, ti_256, ti_400, ti_512, ti_600, ti_601, ti_602, ti_1000, ti_1023, ti_1024, ti_2000, ti_10000, ti_12602, ti_999999, ti_m999999, ti_m1, ti_2000000, ti_3000000, xN_1, xN_4, xN_5, xN_60, xN_61, xN_64, xN_200, xN_800, xN_12000, xN_12602, eq_self, and_self, and_true, true_and, if_true, if_false, decide_true, Nat.reduceLeDiff, xc2_int, xc2_ref, xc2_ra, xc2_null, xc2_long, xc2_none, xisaT_ref, xisaT_ra, xisaT_null, xc1T_int, xc1T_ref, xc1T_ra, xc1T_null, xsum_nil, xsum_int, xsum_ref, xsum_ra, xsum_long, xsum_double, xsum_null, xfl_nil, xfl_int, xfl_ref, xfl_ra, xfl_null, xfl_long, xfl_double, List.length_cons, List.length_nil, s0, k2, hB, t59, not_true_eq_false, h1, xfk, xfv, xak, xan, xcls, xsv', List.getElem?_cons_zero, List.getElem?_cons_succ, List.getD_cons_zero, List.getD_cons_succ, Option.getD_some, Option.isSome_some, if_true, if_pos, xcont, Option.toList_none, Option.toList_some, List.nil_append, List.cons_append]
    · rw [if_pos e1]
      have h0 := htk G1 b 1 0 (.inr rfl) (.inl rfl)
      rw [if_neg (by decide)] at h0
      obtain ⟨g', f2, k2⟩ := tail63 G1 b z c f1 hb (by omega)
      refine ⟨g', f2, fun Q => ?_⟩
      dsimp only
      rw [head Q, ← k2 Q]
      simp (config := { decide := true }) only [w_istore_n2 (pc' := 35) q260 d260_34 rfl, w_aload_n0 (pc' := 36) q260 d260_35 rfl, w_bipush (z' := (10)) (pc' := 38) q260 d260_36 rfl (by decide), w_iload_n2 (pc' := 39) q260 d260_38 rfl, w_imul (pc' := 40) q260 d260_39 rfl, w_iload_n1 (pc' := 41) q260 d260_40 rfl, w_iadd (pc' := 42) q260 d260_41 rfl, w_putI (pc' := 45) q260 d260_42 rfl f260_373 rfl (by decide +kernel), w_aload_n0 (pc' := 46) q260 d260_45 rfl, w_aload_n0 (pc' := 47) q260 d260_46 rfl, w_invv0 (ci := 11) (pc' := 50) q260 d260_47 rfl n260_288 k260_288_11 m238.1, w_bipush (z' := (58)) (pc' := 52) q260 d260_50 rfl (by decide), w_icmp_ne (tg := 59) (pc' := 55) q260 d260_52 (by decide) rfl, w_iconst (pc' := 56) q260 d260_55 rfl, w_goto (tg := 60) q260 d260_56 (by decide), w_iconst (pc' := 60) q260 d260_59 rfl, w_invv1 (ci := 11) (pc' := 63) q260 d260_60 rfl n260_291 k260_291_11 m245.1, gs_off, gs_off0, gs_0off, gs_2, xN_0, xN_2, xN_3, xN_6, xN_7, xN_8, xN_9, xN_10, xN_11, xN_12, xN_13, xN_14, xN_15, xN_16, xN_17, xN_18, xN_19, xN_20, xN_21, xN_22, xN_23, xN_24, xN_25, xN_26, xN_27, xN_28, xN_29, xN_30, xN_31, xN_32, xN_33, xN_34, xN_35, xN_36, xN_37, xN_38, xN_39, xN_40, xN_41, xN_42, xN_43, xN_44, xN_45, xN_46, xN_47, xN_48, xN_49, xN_50, xN_51, xN_52, xN_53, xN_54, xN_55, ti_0, ti_1, ti_2, ti_3, ti_4, ti_5, ti_6, ti_7, ti_8, ti_9, ti_10, ti_16, ti_19, ti_20, ti_29, ti_30, ti_31, ti_32, ti_35, ti_36, ti_38, ti_39, ti_40, ti_41, ti_42, ti_43, ti_44, ti_45, ti_46, ti_47, ti_48, ti_49, ti_50, ti_51, ti_52, ti_53, ti_54, ti_55, ti_56, ti_57, ti_58, ti_59, ti_60, ti_61, ti_62, ti_63, ti_64, ti_65, ti_74, ti_77, ti_126, ti_200, ti_201, ti_202, ti_203, ti_204, ti_205, ti_210, ti_255, ti_256, ti_400, ti_512, ti_600, ti_601, ti_602, ti_1000, ti_1023, ti_1024, ti_2000, ti_10000, ti_12602, ti_999999, ti_m999999, ti_m1, ti_2000000, ti_3000000, xN_1, xN_4, xN_5, xN_60, xN_61, xN_64, xN_200, xN_800, xN_12000, xN_12602, eq_self, and_self, and_true, true_and, if_true, if_false, decide_true, Nat.reduceLeDiff, xc2_int, xc2_ref, xc2_ra, xc2_null, xc2_long, xc2_none, xisaT_ref, xisaT_ra, xisaT_null, xc1T_int, xc1T_ref, xc1T_ra, xc1T_null, xsum_nil, xsum_int, xsum_ref, xsum_ra, xsum_long, xsum_double, xsum_null, xfl_nil, xfl_int, xfl_ref, xfl_ra, xfl_null, xfl_long, xfl_double, List.length_cons, List.length_nil, s0, etg, hst, hA, tch, t58, e1, not_false_eq_true, h0, xfk, xfv, xak, xan, xcls, xsv', List.getElem?_cons_zero, List.getElem?_cons_succ, List.getD_cons_zero, List.getD_cons_succ, Option.getD_some, Option.isSome_some, if_true, if_pos, xcont, Option.toList_none, Option.toList_some, List.nil_append, List.cons_append]
  by_cases hcol : mch g m a < 65 ∨ 74 < mch g m a
  · have hin0 := fun w Q => hin w Q
    have esp : spF (mch g m) false a = (-1, a) := by
      unfold spF
      dsimp only
      simp only [Bool.false_eq_true, false_and, if_false, Int.add_zero]
      rw [if_pos hcol]
    have e : orF (mch g m) a = .inl a := by
      unfold orF
      rw [esp, if_pos (show (-1 : Int) < 0 by decide)]
    rw [e]
    have hi : ∀ w Q, Cw X (d + 8) 232 [.int (iI (mch g m a - 65)), .int (iI 0), .int (iI 9)] w Q = Q (.inl (some (.int (iI 0)))) w := fun w Q => by rw [hin w Q, if_neg (by omega)]
    have h0 := htk g a 1 0 (.inr rfl) (.inl rfl)
    rw [if_neg (by decide)] at h0
    obtain ⟨g', f2, k2⟩ := fail a 0 (mch g m a - 65) ha (by omega)
    refine ⟨g', f2, fun Q => ?_⟩
    dsimp only
    rw [← k2 Q, e260]
    simp (config := { decide := true }) only [w_aload_n0 (pc' := 1) q260 d260_0 rfl, w_invv0 (ci := 11) (pc' := 4) q260 d260_1 rfl n260_288 k260_288_11 m238.1, w_bipush (z' := (65)) (pc' := 6) q260 d260_4 rfl (by decide), w_isub (pc' := 7) q260 d260_6 rfl, w_istore_n1 (pc' := 8) q260 d260_7 rfl, w_aload_n0 (pc' := 9) q260 d260_8 rfl, w_iload_n1 (pc' := 10) q260 d260_9 rfl, w_iconst (pc' := 11) q260 d260_10 rfl, w_bipush (z' := (9)) (pc' := 13) q260 d260_11 rfl (by decide), w_invs3 (pc' := 16) q260 d260_13 rfl (by decide +kernel) k260_91_99 m232.1, w_invv1 (ci := 11) (pc' := 19) q260 d260_16 rfl n260_291 k260_291_11 m245.1, w_aload_n0 (pc' := 20) q260 d260_19 rfl, w_getI (pc' := 23) q260 d260_20 rfl f260_282, w_if_eq (tg := 33) (pc' := 26) q260 d260_23 (by decide) rfl, w_aload_n0 (pc' := 27) q260 d260_26 rfl, w_invv0 (ci := 11) (pc' := 30) q260 d260_27 rfl n260_295 k260_295_11 m251.1, w_goto (tg := 34) q260 d260_30 (by decide), w_iconst (pc' := 34) q260 d260_33 rfl, gs_off, gs_off0, gs_0off, gs_2, xN_0, xN_2, xN_3, xN_6, xN_7, xN_8, xN_9, xN_10, xN_11, xN_12, xN_13, xN_14, xN_15, xN_16, xN_17, xN_18, xN_19, xN_20, xN_21, xN_22, xN_23, xN_24, xN_25, xN_26, xN_27, xN_28, xN_29, xN_30, xN_31, xN_32, xN_33, xN_34, xN_35, xN_36, xN_37, xN_38, xN_39, xN_40, xN_41, xN_42, xN_43, xN_44, xN_45, xN_46, xN_47, xN_48, xN_49, xN_50, xN_51, xN_52, xN_53, xN_54, xN_55, ti_0, ti_1, ti_2, ti_3, ti_4, ti_5, ti_6, ti_7, ti_8, ti_9, ti_10, ti_16, ti_19, ti_20, ti_29, ti_30, ti_31, ti_32, ti_35, ti_36, ti_38, ti_39, ti_40, ti_41, ti_42, ti_43, ti_44, ti_45, ti_46, ti_47, ti_48, ti_49, ti_50, ti_51, ti_52, ti_53, ti_54, ti_55, ti_56, ti_57, ti_58, ti_59, ti_60, ti_61, ti_62, ti_63, ti_64, ti_65, ti_74, ti_77, ti_126, ti_200, ti_201, ti_202, ti_203, ti_204, ti_205, ti_210, ti_255, ti_256, ti_400, ti_512, ti_600, ti_601, ti_602, ti_1000, ti_1023, ti_1024, ti_2000, ti_10000, ti_12602, ti_999999, ti_m999999, ti_m1, ti_2000000, ti_3000000, xN_1, xN_4, xN_5, xN_60, xN_61, xN_64, xN_200, xN_800, xN_12000, xN_12602, eq_self, and_self, and_true, true_and, if_true, if_false, decide_true, Nat.reduceLeDiff, xc2_int, xc2_ref, xc2_ra, xc2_null, xc2_long, xc2_none, xisaT_ref, xisaT_ra, xisaT_null, xc1T_int, xc1T_ref, xc1T_ra, xc1T_null, xsum_nil, xsum_int, xsum_ref, xsum_ra, xsum_long, xsum_double, xsum_null, xfl_nil, xfl_int, xfl_ref, xfl_ra, xfl_null, xfl_long, xfl_double, List.length_cons, List.length_nil, s0, hhere, h0, hi, gM_f, xfk, xfv, xak, xan, xcls, xsv', List.getElem?_cons_zero, List.getElem?_cons_succ, List.getD_cons_zero, List.getD_cons_succ, Option.getD_some, Option.isSome_some, if_true, if_pos, xcont, Option.toList_none, Option.toList_some, List.nil_append, List.cons_append]
  · have hi : ∀ w Q, Cw X (d + 8) 232 [.int (iI (mch g m a - 65)), .int (iI 0), .int (iI 9)] w Q = Q (.inl (some (.int (iI 1)))) w := fun w Q => by rw [hin w Q, if_pos (by omega)]
    have h1 := htk g a 1 1 (.inr rfl) (.inr rfl)
    rw [if_pos (by decide)] at h1
    have hlt := mch_lt (g := g) (m := m) (i := a) (by omega)
    have hrow := m_row (X := X) (d := d + 7) (g := g) (a := a + 1) hS hC (by omega) (by omega)
    have esp : spF (mch g m) false a = if mch g m (a + 1) < 49 ∨ 57 < mch g m (a + 1) then (-1, a + 1) else if (mch g m (a + 1) = 49 ∧ 48 ≤ mch g m (a + 1 + 1) ∧ mch g m (a + 1 + 1) ≤ 57) ∨ (mch g m (a + 1) = 50 ∧ mch g m (a + 1 + 1) = 48) then (10 * (10 * (mch g m (a + 1) - 48) + (mch g m (a + 1 + 1) - 48) - 1) + (mch g m a - 65), a + 1 + 2) else (10 * (mch g m (a + 1) - 48 - 1) + (mch g m a - 65), a + 1 + 1) := by
      unfold spF
      dsimp only
      simp only [Bool.false_eq_true, false_and, if_false, Int.add_zero]
      rw [if_neg hcol]
      split
      · rfl
      split
      · rw [show (256 : Int) * 0 + 512 * 0 + 10 * (10 * (mch g m (a + 1) - 48) + (mch g m (a + 1 + 1) - 48) - 1) + (mch g m a - 65) = 10 * (10 * (mch g m (a + 1) - 48) + (mch g m (a + 1 + 1) - 48) - 1) + (mch g m a - 65) by omega]
      · rw [show (256 : Int) * 0 + 512 * 0 + 10 * (mch g m (a + 1) - 48 - 1) + (mch g m a - 65) = 10 * (mch g m (a + 1) - 48 - 1) + (mch g m a - 65) by omega]
    by_cases hd : mch g m (a + 1) < 49 ∨ 57 < mch g m (a + 1)
    · rw [if_pos hd] at hrow esp
      obtain ⟨z, hz⟩ := hrow
      have e : orF (mch g m) a = .inl (a + 1) := by
        unfold orF
        rw [esp, if_pos (show (-1 : Int) < 0 by decide)]
      rw [e]
      obtain ⟨g', f2, k2⟩ := fail (a + 1) z (mch g m a - 65) (by omega) (by omega)
      refine ⟨g', f2, fun Q => ?_⟩
      dsimp only
      rw [← k2 Q, e260]
      simp (config := { decide := true }) only [w_aload_n0 (pc' := 1) q260 d260_0 rfl, w_invv0 (ci := 11) (pc' := 4) q260 d260_1 rfl n260_288 k260_288_11 m238.1, w_bipush (z' := (65)) (pc' := 6) q260 d260_4 rfl (by decide), w_isub (pc' := 7) q260 d260_6 rfl, w_istore_n1 (pc' := 8) q260 d260_7 rfl, w_aload_n0 (pc' := 9) q260 d260_8 rfl, w_iload_n1 (pc' := 10) q260 d260_9 rfl, w_iconst (pc' := 11) q260 d260_10 rfl, w_bipush (z' := (9)) (pc' := 13) q260 d260_11 rfl (by decide), w_invs3 (pc' := 16) q260 d260_13 rfl (by decide +kernel) k260_91_99 m232.1, w_invv1 (ci := 11) (pc' := 19) q260 d260_16 rfl n260_291 k260_291_11 m245.1, w_aload_n0 (pc' := 20) q260 d260_19 rfl, w_getI (pc' := 23) q260 d260_20 rfl f260_282, w_if_eq (tg := 33) (pc' := 26) q260 d260_23 (by decide) rfl, w_aload_n0 (pc' := 27) q260 d260_26 rfl, w_invv0 (ci := 11) (pc' := 30) q260 d260_27 rfl n260_295 k260_295_11 m251.1, w_goto (tg := 34) q260 d260_30 (by decide), gs_off, gs_off0, gs_0off, gs_2, xN_0, xN_2, xN_3, xN_6, xN_7, xN_8, xN_9, xN_10, xN_11, xN_12, xN_13, xN_14, xN_15, xN_16, xN_17, xN_18, xN_19, xN_20, xN_21, xN_22, xN_23, xN_24, xN_25, xN_26, xN_27, xN_28, xN_29, xN_30, xN_31, xN_32, xN_33, xN_34, xN_35, xN_36, xN_37, xN_38, xN_39, xN_40, xN_41, xN_42, xN_43, xN_44, xN_45, xN_46, xN_47, xN_48, xN_49, xN_50, xN_51, xN_52, xN_53, xN_54, xN_55, ti_0, ti_1, ti_2, ti_3, ti_4, ti_5, ti_6, ti_7, ti_8, ti_9, ti_10, ti_16, ti_19, ti_20, ti_29, ti_30, ti_31, ti_32, ti_35, ti_36, ti_38, ti_39, ti_40, ti_41, ti_42, ti_43, ti_44, ti_45, ti_46, ti_47, ti_48, ti_49, ti_50, ti_51, ti_52, ti_53, ti_54, ti_55, ti_56, ti_57, ti_58, ti_59, ti_60, ti_61, ti_62, ti_63, ti_64, ti_65, ti_74, ti_77, ti_126, ti_200, ti_201, ti_202, ti_203, ti_204, ti_205, ti_210, ti_255, ti_256, ti_400, ti_512, ti_600, ti_601, ti_602, ti_1000, ti_1023, ti_1024, ti_2000, ti_10000, ti_12602, ti_999999, ti_m999999, ti_m1, ti_2000000, ti_3000000, xN_1, xN_4, xN_5, xN_60, xN_61, xN_64, xN_200, xN_800, xN_12000, xN_12602, eq_self, and_self, and_true, true_and, if_true, if_false, decide_true, Nat.reduceLeDiff, xc2_int, xc2_ref, xc2_ra, xc2_null, xc2_long, xc2_none, xisaT_ref, xisaT_ra, xisaT_null, xc1T_int, xc1T_ref, xc1T_ra, xc1T_null, xsum_nil, xsum_int, xsum_ref, xsum_ra, xsum_long, xsum_double, xsum_null, xfl_nil, xfl_int, xfl_ref, xfl_ra, xfl_null, xfl_long, xfl_double, List.length_cons, List.length_nil, s0, hhere, h1, hi, gM_f, hz, xfk, xfv, xak, xan, xcls, xsv', List.getElem?_cons_zero, List.getElem?_cons_succ, List.getD_cons_zero, List.getD_cons_succ, Option.getD_some, Option.isSome_some, if_true, if_pos, xcont, Option.toList_none, Option.toList_some, List.nil_append, List.cons_append]
    · rw [if_neg hd] at hrow esp
      have hrg := hch (a + 1 + 1)
      by_cases h2 : (mch g m (a + 1) = 49 ∧ 48 ≤ mch g m (a + 1 + 1) ∧ mch g m (a + 1 + 1) ≤ 57) ∨ (mch g m (a + 1) = 50 ∧ mch g m (a + 1 + 1) = 48)
      · rw [if_pos h2] at hrow esp
        refine good (a + 1 + 2) (10 * (mch g m (a + 1) - 48) + (mch g m (a + 1 + 1) - 48) - 1) (mch g m a - 65) _ rfl (by omega) (by omega) ?_ (fun Q => ?_)
        · unfold orF
          rw [esp]
          dsimp only
          rw [if_neg (show ¬ (10 * (10 * (mch g m (a + 1) - 48) + (mch g m (a + 1 + 1) - 48) - 1) + (mch g m a - 65) < 0) by omega)]
          rfl
        · rw [e260]
          simp (config := { decide := true }) only [w_aload_n0 (pc' := 1) q260 d260_0 rfl, w_invv0 (ci := 11) (pc' := 4) q260 d260_1 rfl n260_288 k260_288_11 m238.1, w_bipush (z' := (65)) (pc' := 6) q260 d260_4 rfl (by decide), w_isub (pc' := 7) q260 d260_6 rfl, w_istore_n1 (pc' := 8) q260 d260_7 rfl, w_aload_n0 (pc' := 9) q260 d260_8 rfl, w_iload_n1 (pc' := 10) q260 d260_9 rfl, w_iconst (pc' := 11) q260 d260_10 rfl, w_bipush (z' := (9)) (pc' := 13) q260 d260_11 rfl (by decide), w_invs3 (pc' := 16) q260 d260_13 rfl (by decide +kernel) k260_91_99 m232.1, w_invv1 (ci := 11) (pc' := 19) q260 d260_16 rfl n260_291 k260_291_11 m245.1, w_aload_n0 (pc' := 20) q260 d260_19 rfl, w_getI (pc' := 23) q260 d260_20 rfl f260_282, w_if_eq (tg := 33) (pc' := 26) q260 d260_23 (by decide) rfl, w_aload_n0 (pc' := 27) q260 d260_26 rfl, w_invv0 (ci := 11) (pc' := 30) q260 d260_27 rfl n260_295 k260_295_11 m251.1, w_goto (tg := 34) q260 d260_30 (by decide), gs_off, gs_off0, gs_0off, gs_2, xN_0, xN_2, xN_3, xN_6, xN_7, xN_8, xN_9, xN_10, xN_11, xN_12, xN_13, xN_14, xN_15, xN_16, xN_17, xN_18, xN_19, xN_20, xN_21, xN_22, xN_23, xN_24, xN_25, xN_26, xN_27, xN_28, xN_29, xN_30, xN_31, xN_32, xN_33, xN_34, xN_35, xN_36, xN_37, xN_38, xN_39, xN_40, xN_41, xN_42, xN_43, xN_44, xN_45, xN_46, xN_47, xN_48, xN_49, xN_50, xN_51, xN_52, xN_53, xN_54, xN_55, ti_0, ti_1, ti_2, ti_3, ti_4, ti_5, ti_6, ti_7, ti_8, ti_9, ti_10, ti_16, ti_19, ti_20, ti_29, ti_30, ti_31, ti_32, ti_35, ti_36, ti_38, ti_39, ti_40, ti_41, ti_42, ti_43, ti_44, ti_45, ti_46, ti_47, ti_48, ti_49, ti_50, ti_51, ti_52, ti_53, ti_54, ti_55, ti_56, ti_57, ti_58, ti_59, ti_60, ti_61, ti_62, ti_63, ti_64, ti_65, ti_74, ti_77, ti_126, ti_200, ti_201, ti_202, ti_203, ti_204, ti_205, ti_210, ti_255, ti_256, ti_400, ti_512, ti_600, ti_601, ti_602, ti_1000, ti_1023, ti_1024, ti_2000, ti_10000, ti_12602, ti_999999, ti_m999999, ti_m1, ti_2000000, ti_3000000, xN_1, xN_4, xN_5, xN_60, xN_61, xN_64, xN_200, xN_800, xN_12000, xN_12602, eq_self, and_self, and_true, true_and, if_true, if_false, decide_true, Nat.reduceLeDiff, xc2_int, xc2_ref, xc2_ra, xc2_null, xc2_long, xc2_none, xisaT_ref, xisaT_ra, xisaT_null, xc1T_int, xc1T_ref, xc1T_ra, xc1T_null, xsum_nil, xsum_int, xsum_ref, xsum_ra, xsum_long, xsum_double, xsum_null, xfl_nil, xfl_int, xfl_ref, xfl_ra, xfl_null, xfl_long, xfl_double, List.length_cons, List.length_nil, s0, hhere, h1, hi, gM_f, hrow, xfk, xfv, xak, xan, xcls, xsv', List.getElem?_cons_zero, List.getElem?_cons_succ, List.getD_cons_zero, List.getD_cons_succ, Option.getD_some, Option.isSome_some, if_true, if_pos, xcont, Option.toList_none, Option.toList_some, List.nil_append, List.cons_append]
      · rw [if_neg h2] at hrow esp
        refine good (a + 1 + 1) (mch g m (a + 1) - 48 - 1) (mch g m a - 65) _ rfl (by omega) (by omega) ?_ (fun Q => ?_)
        · unfold orF
          rw [esp]
          dsimp only
          rw [if_neg (show ¬ (10 * (mch g m (a + 1) - 48 - 1) + (mch g m a - 65) < 0) by omega)]
          rfl
        · rw [e260]
          simp (config := { decide := true }) only [w_aload_n0 (pc' := 1) q260 d260_0 rfl, w_invv0 (ci := 11) (pc' := 4) q260 d260_1 rfl n260_288 k260_288_11 m238.1, w_bipush (z' := (65)) (pc' := 6) q260 d260_4 rfl (by decide), w_isub (pc' := 7) q260 d260_6 rfl, w_istore_n1 (pc' := 8) q260 d260_7 rfl, w_aload_n0 (pc' := 9) q260 d260_8 rfl, w_iload_n1 (pc' := 10) q260 d260_9 rfl, w_iconst (pc' := 11) q260 d260_10 rfl, w_bipush (z' := (9)) (pc' := 13) q260 d260_11 rfl (by decide), w_invs3 (pc' := 16) q260 d260_13 rfl (by decide +kernel) k260_91_99 m232.1, w_invv1 (ci := 11) (pc' := 19) q260 d260_16 rfl n260_291 k260_291_11 m245.1, w_aload_n0 (pc' := 20) q260 d260_19 rfl, w_getI (pc' := 23) q260 d260_20 rfl f260_282, w_if_eq (tg := 33) (pc' := 26) q260 d260_23 (by decide) rfl, w_aload_n0 (pc' := 27) q260 d260_26 rfl, w_invv0 (ci := 11) (pc' := 30) q260 d260_27 rfl n260_295 k260_295_11 m251.1, w_goto (tg := 34) q260 d260_30 (by decide), gs_off, gs_off0, gs_0off, gs_2, xN_0, xN_2, xN_3, xN_6, xN_7, xN_8, xN_9, xN_10, xN_11, xN_12, xN_13, xN_14, xN_15, xN_16, xN_17, xN_18, xN_19, xN_20, xN_21, xN_22, xN_23, xN_24, xN_25, xN_26, xN_27, xN_28, xN_29, xN_30, xN_31, xN_32, xN_33, xN_34, xN_35, xN_36, xN_37, xN_38, xN_39, xN_40, xN_41, xN_42, xN_43, xN_44, xN_45, xN_46, xN_47, xN_48, xN_49, xN_50, xN_51, xN_52, xN_53, xN_54, xN_55, ti_0, ti_1, ti_2, ti_3, ti_4, ti_5, ti_6, ti_7, ti_8, ti_9, ti_10, ti_16, ti_19, ti_20, ti_29, ti_30, ti_31, ti_32, ti_35, ti_36, ti_38, ti_39, ti_40, ti_41, ti_42, ti_43, ti_44, ti_45, ti_46, ti_47, ti_48, ti_49, ti_50, ti_51, ti_52, ti_53, ti_54, ti_55, ti_56, ti_57, ti_58, ti_59, ti_60, ti_61, ti_62, ti_63, ti_64, ti_65, ti_74, ti_77, ti_126, ti_200, ti_201, ti_202, ti_203, ti_204, ti_205, ti_210, ti_255, ti_256, ti_400, ti_512, ti_600, ti_601, ti_602, ti_1000, ti_1023, ti_1024, ti_2000, ti_10000, ti_12602, ti_999999, ti_m999999, ti_m1, ti_2000000, ti_3000000, xN_1, xN_4, xN_5, xN_60, xN_61, xN_64, xN_200, xN_800, xN_12000, xN_12602, eq_self, and_self, and_true, true_and, if_true, if_false, decide_true, Nat.reduceLeDiff, xc2_int, xc2_ref, xc2_ra, xc2_null, xc2_long, xc2_none, xisaT_ref, xisaT_ra, xisaT_null, xc1T_int, xc1T_ref, xc1T_ra, xc1T_null, xsum_nil, xsum_int, xsum_ref, xsum_ra, xsum_long, xsum_double, xsum_null, xfl_nil, xfl_int, xfl_ref, xfl_ra, xfl_null, xfl_long, xfl_double, List.length_cons, List.length_nil, s0, hhere, h1, hi, gM_f, hrow, xfk, xfv, xak, xan, xcls, xsv', List.getElem?_cons_zero, List.getElem?_cons_succ, List.getD_cons_zero, List.getD_cons_succ, Option.getD_some, Option.isSome_some, if_true, if_pos, xcont, Option.toList_none, Option.toList_some, List.nil_append, List.cons_append]
theorem osF_end {ch : Int → Int} {n a : Int} {f : Nat} (h : n ≤ a) : osF ch n f a = -1 := by
  cases f with
  | zero => rfl
  | succ f => rw [osF, if_pos h]
theorem orF_B {ch : Int → Int} {a a' : Int} (h : orF ch a = .inl a') : a ≤ a' := by
  have hs := spF_rng (ch := ch) (fx := false) (a := a)
  unfold orF at h
  split at h
  · injection h with h; omega
  split at h
  · injection h with h; omega
  · generalize e : ctF ch 59 ((spF ch false a).2 + 1) = r at h
    cases r with
    | inl x =>
      have := ctF_B e
      injection h with h; omega
    | inr x => cases h
/-- are there orders alone on the pad -/
theorem l_isOrders {m : Nat} (hS : MdS S m) : ∀ (f : Nat) (a : Int) (g : xGm), McI g m → 0 ≤ a → a ≤ g m 10 → g m 10 - a ≤ f →
    ∃ g' b, FrW g g' m ∧ ((osF (mch g m) (g m 10) f a = -1 ∧ ∀ Q, Wx X (d + 10) 259 10 [some (.ref m)] [] (hp S (gM g m a 1)) Q = Q (.inl (some (.int (iI 1)))) (hp S (gM g' m b 1))) ∨
      (0 ≤ osF (mch g m) (g m 10) f a ∧ ∀ Q, Wx X (d + 10) 259 10 [some (.ref m)] [] (hp S (gM g m a 1)) Q = Q (.inl (some (.int (iI 0)))) (hp S (gM g' m (osF (mch g m) (g m 10) f a) 0)))) := by
  have s0 := hS.1
  have fin : ∀ (a : Int) (g : xGm), McI g m → 0 ≤ a → a ≤ g m 10 → g m 10 ≤ a → ∀ Q, Wx X (d + 10) 259 10 [some (.ref m)] [] (hp S (gM g m a 1)) Q = Q (.inl (some (.int (iI 1)))) (hp S (gM g m a 1)) := by
    intro a g hC ha ha2 hge Q
    have hl := hC.2.1
    have ta : ti a = a := ti_eq (by omega) (by omega)
    have tn : ti (g m 10) = g m 10 := ti_eq (by omega) (by omega)
    have e10 : gM g m a 1 m 10 = g m 10 := gM_o (by decide) (by decide) g m a 1
    rw [w_aload_n0 (pc' := 11) q259 d259_10 rfl]
    · simp (config := { decide := true }) only [w_getI (pc' := 14) q259 d259_11 rfl f259_282, w_if_eq (tg := 35) (pc' := 17) q259 d259_14 (by decide) rfl, w_aload_n0 (pc' := 18) q259 d259_17 rfl, w_getI (pc' := 21) q259 d259_18 rfl f259_276, w_aload_n0 (pc' := 22) q259 d259_21 rfl, w_getI (pc' := 25) q259 d259_22 rfl f259_279, w_icmp_ge (tg := 35) (pc' := 28) q259 d259_25 (by decide) rfl, w_aload_n0 (pc' := 29) q259 d259_28 rfl, w_invv0 (ci := 11) (pc' := 32) q259 d259_29 rfl n259_376 k259_376_11 m260.1, w_goto (tg := 10) q259 d259_32 (by decide), w_aload_n0 (pc' := 36) q259 d259_35 rfl, w_getI (pc' := 39) q259 d259_36 rfl f259_282, w_zreturn q259 d259_39 m259.2.1, gs_off, gs_off0, gs_0off, gs_2, xN_0, xN_2, xN_3, xN_6, xN_7, xN_8, xN_9, xN_10, xN_11, xN_12, xN_13, xN_14, xN_15, xN_16, xN_17, xN_18, xN_19, xN_20, xN_21, xN_22, xN_23, xN_24, xN_25, xN_26, xN_27, xN_28, xN_29, xN_30, xN_31, xN_32, xN_33, xN_34, xN_35, xN_36, xN_37, xN_38, xN_39, xN_40, xN_41, xN_42, xN_43, xN_44, xN_45, xN_46, xN_47, xN_48, xN_49, xN_50, xN_51, xN_52, xN_53, xN_54, xN_55, ti_0, ti_1, ti_2, ti_3, ti_4, ti_5, ti_6, ti_7, ti_8, ti_9, ti_10, ti_16, ti_19, ti_20, ti_29, ti_30, ti_31, ti_32, ti_35, ti_36, ti_38, ti_39, ti_40, ti_41, ti_42, ti_43, ti_44, ti_45, ti_46, ti_47, ti_48, ti_49, ti_50, ti_51, ti_52, ti_53, ti_54, ti_55, ti_56, ti_57, ti_58, ti_59, ti_60, ti_61, ti_62, ti_63, ti_64, ti_65, ti_74, ti_77, ti_126, ti_200, ti_201, ti_202, ti_203, ti_204, ti_205, ti_210, ti_255, ti_256, ti_400, ti_512, ti_600, ti_601, ti_602, ti_1000, ti_1023, ti_1024, ti_2000, ti_10000, ti_12602, ti_999999, ti_m999999, ti_m1, ti_2000000, ti_3000000, xN_1, xN_4, xN_5, xN_60, xN_61, xN_64, xN_200, xN_800, xN_12000, xN_12602, eq_self, and_self, and_true, true_and, if_true, if_false, decide_true, Nat.reduceLeDiff, xc2_int, xc2_ref, xc2_ra, xc2_null, xc2_long, xc2_none, xisaT_ref, xisaT_ra, xisaT_null, xc1T_int, xc1T_ref, xc1T_ra, xc1T_null, xsum_nil, xsum_int, xsum_ref, xsum_ra, xsum_long, xsum_double, xsum_null, xfl_nil, xfl_int, xfl_ref, xfl_ra, xfl_null, xfl_long, xfl_double, List.length_cons, List.length_nil, s0, gM_f, gM_a, e10, ta, tn, hge, xzb_1, xfk, xfv, xak, xan, xcls, xsv', List.getElem?_cons_zero, List.getElem?_cons_succ, List.getD_cons_zero, List.getD_cons_succ, Option.getD_some, Option.isSome_some, if_true, if_pos, xcont, Option.toList_none, Option.toList_some, List.nil_append, List.cons_append]
    · rfl
  intro f
  induction f with
  | zero =>
    intro a g hC ha ha2 hf
    exact ⟨g, a, FrW_refl g m, .inl ⟨rfl, fin a g hC ha ha2 (by omega)⟩⟩
  | succ f ih =>
    intro a g hC ha ha2 hf
    have hl := hC.2.1
    by_cases hge : g m 10 ≤ a
    · exact ⟨g, a, FrW_refl g m, .inl ⟨osF_end hge, fin a g hC ha ha2 hge⟩⟩
    · have ho := m_order (X := X) (d := d) hS hC ha ha2
      have ta : ti a = a := ti_eq (by omega) (by omega)
      have tn : ti (g m 10) = g m 10 := ti_eq (by omega) (by omega)
      have e10 : gM g m a 1 m 10 = g m 10 := gM_o (by decide) (by decide) g m a 1
      rw [osF, if_neg hge]
      generalize er : orF (mch g m) a = r at ho ⊢
      cases r with
      | inl a' =>
        obtain ⟨g', f1, k1⟩ := ho
        have := orF_B er
        refine ⟨g', a', f1, .inr ⟨by dsimp only; omega, fun Q => ?_⟩⟩
        dsimp only at k1 ⊢
        rw [w_aload_n0 (pc' := 11) q259 d259_10 rfl]
        · simp (config := { decide := true }) only [w_getI (pc' := 14) q259 d259_11 rfl f259_282, w_if_eq (tg := 35) (pc' := 17) q259 d259_14 (by decide) rfl, w_aload_n0 (pc' := 18) q259 d259_17 rfl, w_getI (pc' := 21) q259 d259_18 rfl f259_276, w_aload_n0 (pc' := 22) q259 d259_21 rfl, w_getI (pc' := 25) q259 d259_22 rfl f259_279, w_icmp_ge (tg := 35) (pc' := 28) q259 d259_25 (by decide) rfl, w_aload_n0 (pc' := 29) q259 d259_28 rfl, w_invv0 (ci := 11) (pc' := 32) q259 d259_29 rfl n259_376 k259_376_11 m260.1, w_goto (tg := 10) q259 d259_32 (by decide), gs_off, gs_off0, gs_0off, gs_2, xN_0, xN_2, xN_3, xN_6, xN_7, xN_8, xN_9, xN_10, xN_11, xN_12, xN_13, xN_14, xN_15, xN_16, xN_17, xN_18, xN_19, xN_20, xN_21, xN_22, xN_23, xN_24, xN_25, xN_26, xN_27, xN_28, xN_29, xN_30, xN_31, xN_32, xN_33, xN_34, xN_35, xN_36, xN_37, xN_38, xN_39, xN_40, xN_41, xN_42, xN_43, xN_44, xN_45, xN_46, xN_47, xN_48, xN_49, xN_50, xN_51, xN_52, xN_53, xN_54, xN_55, ti_0, ti_1, ti_2, ti_3, ti_4, ti_5, ti_6, ti_7, ti_8, ti_9, ti_10, ti_16, ti_19, ti_20, ti_29, ti_30, ti_31, ti_32, ti_35, ti_36, ti_38, ti_39, ti_40, ti_41, ti_42, ti_43, ti_44, ti_45, ti_46, ti_47, ti_48, ti_49, ti_50, ti_51, ti_52, ti_53, ti_54, ti_55, ti_56, ti_57, ti_58, ti_59, ti_60, ti_61, ti_62, ti_63, ti_64, ti_65, ti_74, ti_77, ti_126, ti_200, ti_201, ti_202, ti_203, ti_204, ti_205, ti_210, ti_255, ti_256, ti_400, ti_512, ti_600, ti_601, ti_602, ti_1000, ti_1023, ti_1024, ti_2000, ti_10000, ti_12602, ti_999999, ti_m999999, ti_m1, ti_2000000, ti_3000000, xN_1, xN_4, xN_5, xN_60, xN_61, xN_64, xN_200, xN_800, xN_12000, xN_12602, eq_self, and_self, and_true, true_and, if_true, if_false, decide_true, Nat.reduceLeDiff, xc2_int, xc2_ref, xc2_ra, xc2_null, xc2_long, xc2_none, xisaT_ref, xisaT_ra, xisaT_null, xc1T_int, xc1T_ref, xc1T_ra, xc1T_null, xsum_nil, xsum_int, xsum_ref, xsum_ra, xsum_long, xsum_double, xsum_null, xfl_nil, xfl_int, xfl_ref, xfl_ra, xfl_null, xfl_long, xfl_double, List.length_cons, List.length_nil, s0, gM_f, gM_a, e10, ta, tn, hge, k1, xfk, xfv, xak, xan, xcls, xsv', List.getElem?_cons_zero, List.getElem?_cons_succ, List.getD_cons_zero, List.getD_cons_succ, Option.getD_some, Option.isSome_some, if_true, if_pos, xcont, Option.toList_none, Option.toList_some, List.nil_append, List.cons_append]
          rw [w_aload_n0 (pc' := 11) q259 d259_10 rfl]
          · simp (config := { decide := true }) only [w_getI (pc' := 14) q259 d259_11 rfl f259_282, w_if_eq (tg := 35) (pc' := 17) q259 d259_14 (by decide) rfl, w_aload_n0 (pc' := 18) q259 d259_17 rfl, w_getI (pc' := 21) q259 d259_18 rfl f259_276, w_aload_n0 (pc' := 22) q259 d259_21 rfl, w_getI (pc' := 25) q259 d259_22 rfl f259_279, w_icmp_ge (tg := 35) (pc' := 28) q259 d259_25 (by decide) rfl, w_aload_n0 (pc' := 29) q259 d259_28 rfl, w_invv0 (ci := 11) (pc' := 32) q259 d259_29 rfl n259_376 k259_376_11 m260.1, w_goto (tg := 10) q259 d259_32 (by decide), w_aload_n0 (pc' := 36) q259 d259_35 rfl, w_getI (pc' := 39) q259 d259_36 rfl f259_282, w_zreturn q259 d259_39 m259.2.1, gs_off, gs_off0, gs_0off, gs_2, xN_0, xN_2, xN_3, xN_6, xN_7, xN_8, xN_9, xN_10, xN_11, xN_12, xN_13, xN_14, xN_15, xN_16, xN_17, xN_18, xN_19, xN_20, xN_21, xN_22, xN_23, xN_24, xN_25, xN_26, xN_27, xN_28, xN_29, xN_30, xN_31, xN_32, xN_33, xN_34, xN_35, xN_36, xN_37, xN_38, xN_39, xN_40, xN_41, xN_42, xN_43, xN_44, xN_45, xN_46, xN_47, xN_48, xN_49, xN_50, xN_51, xN_52, xN_53, xN_54, xN_55, ti_0, ti_1, ti_2, ti_3, ti_4, ti_5, ti_6, ti_7, ti_8, ti_9, ti_10, ti_16, ti_19, ti_20, ti_29, ti_30, ti_31, ti_32, ti_35, ti_36, ti_38, ti_39, ti_40, ti_41, ti_42, ti_43, ti_44, ti_45, ti_46, ti_47, ti_48, ti_49, ti_50, ti_51, ti_52, ti_53, ti_54, ti_55, ti_56, ti_57, ti_58, ti_59, ti_60, ti_61, ti_62, ti_63, ti_64, ti_65, ti_74, ti_77, ti_126, ti_200, ti_201, ti_202, ti_203, ti_204, ti_205, ti_210, ti_255, ti_256, ti_400, ti_512, ti_600, ti_601, ti_602, ti_1000, ti_1023, ti_1024, ti_2000, ti_10000, ti_12602, ti_999999, ti_m999999, ti_m1, ti_2000000, ti_3000000, xN_1, xN_4, xN_5, xN_60, xN_61, xN_64, xN_200, xN_800, xN_12000, xN_12602, eq_self, and_self, and_true, true_and, if_true, if_false, decide_true, Nat.reduceLeDiff, xc2_int, xc2_ref, xc2_ra, xc2_null, xc2_long, xc2_none, xisaT_ref, xisaT_ra, xisaT_null, xc1T_int, xc1T_ref, xc1T_ra, xc1T_null, xsum_nil, xsum_int, xsum_ref, xsum_ra, xsum_long, xsum_double, xsum_null, xfl_nil, xfl_int, xfl_ref, xfl_ra, xfl_null, xfl_long, xfl_double, List.length_cons, List.length_nil, s0, gM_f, xzb_0, xfk, xfv, xak, xan, xcls, xsv', List.getElem?_cons_zero, List.getElem?_cons_succ, List.getD_cons_zero, List.getD_cons_succ, Option.getD_some, Option.isSome_some, if_true, if_pos, xcont, Option.toList_none, Option.toList_some, List.nil_append, List.cons_append]
          · rfl
        · rfl
      | inr x =>
        obtain ⟨a', tg, kd, nu, tk⟩ := x
        obtain ⟨g1, f1, hr, h45, k1⟩ := ho
        have hend := morF_end hC ha er
        have hgt := orF_gt er
        have e10' := f1.2 10 (by omega) (by omega)
        obtain ⟨g', b, f2, hh⟩ := ih a' g1 (FrW_McI f1 hC) (by omega) (by rw [e10']; exact hend.1) (by rw [e10']; omega)
        rw [FrW_mch f1, e10'] at hh
        have head : ∀ Q, Wx X (d + 10) 259 10 [some (.ref m)] [] (hp S (gM g m a 1)) Q = Wx X (d + 10) 259 10 [some (.ref m)] [] (hp S (gM g1 m a' 1)) Q := fun Q => by
          dsimp only at k1
          rw [w_aload_n0 (pc' := 11) q259 d259_10 rfl]
          · simp (config := { decide := true }) only [w_getI (pc' := 14) q259 d259_11 rfl f259_282, w_if_eq (tg := 35) (pc' := 17) q259 d259_14 (by decide) rfl, w_aload_n0 (pc' := 18) q259 d259_17 rfl, w_getI (pc' := 21) q259 d259_18 rfl f259_276, w_aload_n0 (pc' := 22) q259 d259_21 rfl, w_getI (pc' := 25) q259 d259_22 rfl f259_279, w_icmp_ge (tg := 35) (pc' := 28) q259 d259_25 (by decide) rfl, w_aload_n0 (pc' := 29) q259 d259_28 rfl, w_invv0 (ci := 11) (pc' := 32) q259 d259_29 rfl n259_376 k259_376_11 m260.1, w_goto (tg := 10) q259 d259_32 (by decide), gs_off, gs_off0, gs_0off, gs_2, xN_0, xN_2, xN_3, xN_6, xN_7, xN_8, xN_9, xN_10, xN_11, xN_12, xN_13, xN_14, xN_15, xN_16, xN_17, xN_18, xN_19, xN_20, xN_21, xN_22, xN_23, xN_24, xN_25, xN_26, xN_27, xN_28, xN_29, xN_30, xN_31, xN_32, xN_33, xN_34, xN_35, xN_36, xN_37, xN_38, xN_39, xN_40, xN_41, xN_42, xN_43, xN_44, xN_45, xN_46, xN_47, xN_48, xN_49, xN_50, xN_51, xN_52, xN_53, xN_54, xN_55, ti_0, ti_1, ti_2, ti_3, ti_4, ti_5, ti_6, ti_7, ti_8, ti_9, ti_10, ti_16, ti_19, ti_20, ti_29, ti_30, ti_31, ti_32, ti_35, ti_36, ti_38, ti_39, ti_40, ti_41, ti_42, ti_43, ti_44, ti_45, ti_46, ti_47, ti_48, ti_49, ti_50, ti_51, ti_52, ti_53, ti_54, ti_55, ti_56, ti_57, ti_58, ti_59, ti_60, ti_61, ti_62, ti_63, ti_64, ti_65, ti_74, ti_77, ti_126, ti_200, ti_201, ti_202, ti_203, ti_204, ti_205, ti_210, ti_255, ti_256, ti_400, ti_512, ti_600, ti_601, ti_602, ti_1000, ti_1023, ti_1024, ti_2000, ti_10000, ti_12602, ti_999999, ti_m999999, ti_m1, ti_2000000, ti_3000000, xN_1, xN_4, xN_5, xN_60, xN_61, xN_64, xN_200, xN_800, xN_12000, xN_12602, eq_self, and_self, and_true, true_and, if_true, if_false, decide_true, Nat.reduceLeDiff, xc2_int, xc2_ref, xc2_ra, xc2_null, xc2_long, xc2_none, xisaT_ref, xisaT_ra, xisaT_null, xc1T_int, xc1T_ref, xc1T_ra, xc1T_null, xsum_nil, xsum_int, xsum_ref, xsum_ra, xsum_long, xsum_double, xsum_null, xfl_nil, xfl_int, xfl_ref, xfl_ra, xfl_null, xfl_long, xfl_double, List.length_cons, List.length_nil, s0, gM_f, gM_a, e10, ta, tn, hge, k1, xfk, xfv, xak, xan, xcls, xsv', List.getElem?_cons_zero, List.getElem?_cons_succ, List.getD_cons_zero, List.getD_cons_succ, Option.getD_some, Option.isSome_some, if_true, if_pos, xcont, Option.toList_none, Option.toList_some, List.nil_append, List.cons_append]
          · rfl
        refine ⟨g', b, FrW_trans f1 f2, ?_⟩
        dsimp only
        rcases hh with ⟨h1, h2⟩ | ⟨h1, h2⟩
        · exact .inl ⟨h1, fun Q => (head Q).trans (h2 Q)⟩
        · exact .inr ⟨h1, fun Q => (head Q).trans (h2 Q)⟩
theorem m_isOrders {m : Nat} (hS : MdS S m) (hC : McI g m) :
    ∃ g' b, FrW g g' m ∧ ((osF (mch g m) (g m 10) 60 0 = -1 ∧ ∀ Q, Cw X (d + 10) 259 [.ref m] (hp S g) Q = Q (.inl (some (.int (iI 1)))) (hp S (gM g' m b 1))) ∨
      (0 ≤ osF (mch g m) (g m 10) 60 0 ∧ ∀ Q, Cw X (d + 10) 259 [.ref m] (hp S g) Q = Q (.inl (some (.int (iI 0)))) (hp S (gM g' m (osF (mch g m) (g m 10) 60 0) 0)))) := by
  have s0 := hS.1
  obtain ⟨g', b, f1, h⟩ := l_isOrders (X := X) (d := d) hS 60 0 g hC (by decide) hC.1 (by have := hC.2.1; omega)
  have z1 : xnz 1 = 1 := by decide
  have head : ∀ Q, Cw X (d + 10) 259 [.ref m] (hp S g) Q = Wx X (d + 10) 259 10 [some (.ref m)] [] (hp S (gM g m 0 1)) Q := fun Q => by
    unfold gM
    rw [e259]
    simp (config := { decide := true }) only [w_aload_n0 (pc' := 1) q259 d259_0 rfl, w_iconst (pc' := 2) q259 d259_1 rfl, w_putI (pc' := 5) q259 d259_2 rfl f259_276 rfl (by decide +kernel), w_aload_n0 (pc' := 6) q259 d259_5 rfl, w_iconst (pc' := 7) q259 d259_6 rfl, w_putZ (pc' := 10) q259 d259_7 rfl f259_282 rfl (by decide +kernel), gs_off, gs_off0, gs_0off, gs_2, xN_0, xN_2, xN_3, xN_6, xN_7, xN_8, xN_9, xN_10, xN_11, xN_12, xN_13, xN_14, xN_15, xN_16, xN_17, xN_18, xN_19, xN_20, xN_21, xN_22, xN_23, xN_24, xN_25, xN_26, xN_27, xN_28, xN_29, xN_30, xN_31, xN_32, xN_33, xN_34, xN_35, xN_36, xN_37, xN_38, xN_39, xN_40, xN_41, xN_42, xN_43, xN_44, xN_45, xN_46, xN_47, xN_48, xN_49, xN_50, xN_51, xN_52, xN_53, xN_54, xN_55, ti_0, ti_1, ti_2, ti_3, ti_4, ti_5, ti_6, ti_7, ti_8, ti_9, ti_10, ti_16, ti_19, ti_20, ti_29, ti_30, ti_31, ti_32, ti_35, ti_36, ti_38, ti_39, ti_40, ti_41, ti_42, ti_43, ti_44, ti_45, ti_46, ti_47, ti_48, ti_49, ti_50, ti_51, ti_52, ti_53, ti_54, ti_55, ti_56, ti_57, ti_58, ti_59, ti_60, ti_61, ti_62, ti_63, ti_64, ti_65, ti_74, ti_77, ti_126, ti_200, ti_201, ti_202, ti_203, ti_204, ti_205, ti_210, ti_255, ti_256, ti_400, ti_512, ti_600, ti_601, ti_602, ti_1000, ti_1023, ti_1024, ti_2000, ti_10000, ti_12602, ti_999999, ti_m999999, ti_m1, ti_2000000, ti_3000000, xN_1, xN_4, xN_5, xN_60, xN_61, xN_64, xN_200, xN_800, xN_12000, xN_12602, eq_self, and_self, and_true, true_and, if_true, if_false, decide_true, Nat.reduceLeDiff, xc2_int, xc2_ref, xc2_ra, xc2_null, xc2_long, xc2_none, xisaT_ref, xisaT_ra, xisaT_null, xc1T_int, xc1T_ref, xc1T_ra, xc1T_null, xsum_nil, xsum_int, xsum_ref, xsum_ra, xsum_long, xsum_double, xsum_null, xfl_nil, xfl_int, xfl_ref, xfl_ra, xfl_null, xfl_long, xfl_double, List.length_cons, List.length_nil, s0, z1, xfk, xfv, xak, xan, xcls, xsv', List.getElem?_cons_zero, List.getElem?_cons_succ, List.getD_cons_zero, List.getD_cons_succ, Option.getD_some, Option.isSome_some, if_true, if_pos, xcont, Option.toList_none, Option.toList_some, List.nil_append, List.cons_append]
  refine ⟨g', b, f1, ?_⟩
  rcases h with ⟨h1, h2⟩ | ⟨h1, h2⟩
  · exact .inl ⟨h1, fun Q => (head Q).trans (h2 Q)⟩
  · exact .inr ⟨h1, fun Q => (head Q).trans (h2 Q)⟩
end
