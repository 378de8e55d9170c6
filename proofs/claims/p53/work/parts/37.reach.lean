/-! Links: what is reached -/
section
def Rn (E : Int → Int → Prop) (s : Int) : Nat → Int → Prop
  | 0, c => E s c
  | n + 1, c => ∃ b, Rn E s n b ∧ E b c
/-- reached in one step or more -/
def Rc (E : Int → Int → Prop) (s c : Int) : Prop := ∃ n, Rn E s n c
theorem Rc_one {E : Int → Int → Prop} {s c : Int} (h : E s c) : Rc E s c := ⟨0, h⟩
theorem Rc_step {E : Int → Int → Prop} {s b c : Int} (h : Rc E s b) (h2 : E b c) : Rc E s c := by
  obtain ⟨n, h⟩ := h
  exact ⟨n + 1, b, h, h2⟩
theorem Rc_ind {E : Int → Int → Prop} {s : Int} {P : Int → Prop} (h1 : ∀ c, E s c → P c) (h2 : ∀ b c, Rc E s b → P b → E b c → P c) : ∀ c, Rc E s c → P c := by
  rintro c ⟨n, h⟩
  induction n generalizing c with
  | zero => exact h1 c h
  | succ n ih =>
    obtain ⟨b, hb, he⟩ := h
    exact h2 b c ⟨n, hb⟩ (ih b hb) he
theorem Rc_congr {E E' : Int → Int → Prop} {s : Int} (h : ∀ b c, E b c ↔ E' b c) (c : Int) : Rc E s c ↔ Rc E' s c :=
  ⟨Rc_ind (fun c hc => Rc_one ((h _ _).mp hc)) (fun b c _ hb he => Rc_step hb ((h _ _).mp he)) c, Rc_ind (fun c hc => Rc_one ((h _ _).mpr hc)) (fun b c _ hb he => Rc_step hb ((h _ _).mpr he)) c⟩
def BF (E : Int → Int → Prop) (s : Int) (base : Int → Prop) (mk qu : Int → Int) (w dn : Int) : Prop :=
  (∀ c, 0 ≤ mk c ∧ mk c ≤ 1) ∧ (∀ c, 0 ≤ qu c ∧ qu c ≤ 199) ∧ w ≤ sumf mk 0 200 ∧ (∀ c, mk c = 1 → 0 ≤ c → c < 200 → base c ∨ ∃ q, 0 ≤ q ∧ q < w ∧ qu q = c) ∧ (∀ q, 0 ≤ q → q < w → Rc E s (qu q)) ∧
  (∀ c, E s c → mk c = 1) ∧ (∀ q, 0 ≤ q → q < dn → ∀ c, E (qu q) c → mk c = 1) ∧ (∀ c, base c → mk c = 1) ∧ 0 ≤ dn ∧ dn ≤ w
theorem BF_start {E : Int → Int → Prop} {s : Int} {base : Int → Prop} {p : Int → Bool} {fi m0 q0 mk qu : Int → Int} {n w : Int} (h : MkS p fi n m0 q0 0 mk qu w) (hE : ∀ c, E s c ↔ ((∃ j, 0 ≤ j ∧ j < n ∧ fi j = c) ∧ p c = true)) (hb : ∀ c, 0 ≤ c → c < 200 → (m0 c = 1 ↔ base c)) (hb2 : ∀ c, base c → 0 ≤ c ∧ c < 200) (hm : ∀ c, 0 ≤ m0 c ∧ m0 c ≤ 1) : BF E s base mk qu w 0 := by
  obtain ⟨a1, a2, a3, a4, a5, a6, a7, a8⟩ := h
  have hs := sumf_rng (f := m0) (lo := 0) (hi := 1) 200 0 (fun j _ _ => hm j)
  refine ⟨a2, a3, by omega, fun c hc c1 c2 => ?_, fun q q1 q2 => ?_, fun c hc => ?_, fun q q1 q2 => by omega, fun c hc => ?_, Int.le_refl _, a4⟩
  · rcases a7 c hc with h | ⟨q, q1, q2, q3⟩
    · exact .inl ((hb c c1 c2).mp h)
    · exact .inr ⟨q, q1, q2, q3⟩
  · obtain ⟨-, b2, b3⟩ := a6 q q1 q2
    exact Rc_one ((hE _).mpr ⟨b3, b2⟩)
  · obtain ⟨⟨j, j1, j2, j3⟩, h2⟩ := (hE c).mp hc
    exact (a1 c).mpr (.inr ⟨j, j1, j2, j3, h2⟩)
  · exact (a1 c).mpr (.inl ((hb c (hb2 c hc).1 (hb2 c hc).2).mpr hc))
theorem BF_step {E : Int → Int → Prop} {s : Int} {base : Int → Prop} {p : Int → Bool} {fi mk qu mk' qu' : Int → Int} {n w w' dn : Int} (hB : BF E s base mk qu w dn) (hd : dn < w) (h : MkS p fi n mk qu w mk' qu' w') (hE : ∀ c, E (qu dn) c ↔ ((∃ j, 0 ≤ j ∧ j < n ∧ fi j = c) ∧ p c = true)) : BF E s base mk' qu' w' (dn + 1) := by
  obtain ⟨a1, a2, a3, a4, a5, a6, a7, a8⟩ := h
  obtain ⟨b1, b2, b3, b4, b5, b6, b7, b8, b9, b10⟩ := hB
  have up : ∀ c, mk c = 1 → mk' c = 1 := fun c hc => (a1 c).mpr (.inl hc)
  have hr : Rc E s (qu dn) := b5 dn b9 hd
  refine ⟨a2, a3, by omega, fun c hc c1 c2 => ?_, fun q q1 q2 => ?_, fun c hc => up c (b6 c hc), fun q q1 q2 c hc => ?_, fun c hc => up c (b8 c hc), by omega, by omega⟩
  · rcases a7 c hc with h | ⟨q, q1, q2, q3⟩
    · rcases b4 c h c1 c2 with h' | ⟨q, q1, q2, q3⟩
      · exact .inl h'
      · exact .inr ⟨q, q1, by omega, by rw [a5 q q2]; exact q3⟩
    · exact .inr ⟨q, by omega, q2, q3⟩
  · by_cases e : q < w
    · rw [a5 q e]; exact b5 q q1 e
    · obtain ⟨-, c2, c3⟩ := a6 q (by omega) q2
      exact Rc_step hr ((hE _).mpr ⟨c3, c2⟩)
  · rw [a5 q (by omega)] at hc
    by_cases e : q = dn
    · subst e
      obtain ⟨⟨j, j1, j2, j3⟩, h2⟩ := (hE c).mp hc
      exact (a1 c).mpr (.inr ⟨j, j1, j2, j3, h2⟩)
    · exact up c (b7 q q1 (by omega) c hc)
theorem BF_end {E : Int → Int → Prop} {s : Int} {base : Int → Prop} {mk qu : Int → Int} {w dn : Int} (hB : BF E s base mk qu w dn) (hd : w ≤ dn) (hE : ∀ b c, E b c → 0 ≤ c ∧ c < 200) (hbs : ∀ c, base c → c = s) (c : Int) (h1 : 0 ≤ c) (h2 : c < 200) : mk c = 1 ↔ base c ∨ Rc E s c := by
  obtain ⟨b1, b2, b3, b4, b5, b6, b7, b8, b9, b10⟩ := hB
  constructor
  · intro h
    rcases b4 c h h1 h2 with h | ⟨q, q1, q2, q3⟩
    · exact .inl h
    · exact .inr (q3 ▸ b5 q q1 q2)
  · rintro (h | h)
    · exact b8 c h
    · refine Rc_ind (P := fun c => mk c = 1) (fun c hc => b6 c hc) (fun b c hr hb he => ?_) c h
      have hrb : 0 ≤ b ∧ b < 200 := Rc_ind (P := fun b => 0 ≤ b ∧ b < 200) (fun c hc => hE _ _ hc) (fun _ c _ _ hc => hE _ _ hc) b hr
      rcases b4 b hb hrb.1 hrb.2 with h | ⟨q, q1, q2, q3⟩
      · exact b6 c (by rw [← hbs b h]; exact he)
      · exact b7 q q1 (by omega) c (by rw [q3]; exact he)
/-- one step, read in the memory -/
def Eg (g : xGm) (l : Nat) (tu : Bool) (b c : Int) : Prop := (∃ j, 0 ≤ j ∧ j < g l 2 ∧ g (l + 2) j = c) ∧ nea tu (g (l + 1)) b c = true
theorem Eg_rng {g : xGm} {l : Nat} {tu : Bool} (hF : rg g (l + 2) 0 199) (b c : Int) (h : Eg g l tu b c) : 0 ≤ c ∧ c < 200 := by
  obtain ⟨⟨j, -, -, rfl⟩, -⟩ := h
  have := hF j
  omega
variable {X : xX} {d : Nat} {S : xLm} {g : xGm} {Q : xO → xH → Prop}
theorem l_usersOf {l : Nat} {s n : Int} {base : Int → Prop} (hS : LkS S l) (hn : g l 2 = n) (hn0 : 0 ≤ n) (hn2 : n ≤ 200) (hF : rg g (l + 2) 0 199) (hbs : ∀ c, base c → c = s) : ∀ (m : Nat) (dn w : Int) (g' : xGm), dn + m = 200 → (∀ h, ¬ h = l + 6 → ¬ h = l + 7 → g' h = g h) → BF (Eg g l true) s base (g' (l + 6)) (g' (l + 7)) w dn →
    ∃ g'', (∀ h, ¬ h = l + 6 → ¬ h = l + 7 → g'' h = g h) ∧ rg g'' (l + 6) 0 1 ∧ rg g'' (l + 7) 0 199 ∧ (∀ c, 0 ≤ c → c < 200 → (g'' (l + 6) c = 1 ↔ base c ∨ Rc (Eg g l true) s c)) ∧ ∀ Q, Wx X (d + 2) 108 14 [some (.ref l), some (.int (iI s)), some (.int (iI w)), some (.int (iI dn))] [] (hp S g') Q = Q (.inl none) (hp S g'') := by
  have hS' := hS
  obtain ⟨h0, h1, h2, h3, h4, h5, h6, h7, h8⟩ := hS'
  intro m
  induction m with
  | zero =>
    intro dn w g' hm hfr hB
    have hr := sumf_rng (f := g' (l + 6)) (lo := 0) (hi := 1) 200 0 (fun j _ _ => hB.1 j)
    have hw := hB.2.2.1
    have hdw := hB.2.2.2.2.2.2.2.2.2
    have e : dn = w := by omega
    have tw : ti w = w := ti_eq (by omega) (by omega)
    refine ⟨g', hfr, hB.1, hB.2.1, BF_end hB (by omega) (Eg_rng hF) hbs, fun Q => ?_⟩
    rw [w_iload_n3 (pc' := 15) q108 d108_14 rfl]
    simp (config := { decide := true }) only [w_iload_n2 (pc' := 16) q108 d108_15 rfl, w_icmp_ge (tg := 45) (pc' := 19) q108 d108_16 (by decide) rfl, w_iload_n3 (pc' := 20) q108 d108_19 rfl, w_sipush (z' := (200)) (pc' := 23) q108 d108_20 rfl (by decide), w_icmp_ge (tg := 45) (pc' := 26) q108 d108_23 (by decide) rfl, w_aload_n0 (pc' := 27) q108 d108_26 rfl, w_aload_n0 (pc' := 28) q108 d108_27 rfl, w_getV (pc' := 31) q108 d108_28 rfl f108_32, w_iload_n3 (pc' := 32) q108 d108_31 rfl, w_iaload (pc' := 33) q108 d108_32 rfl, w_iconst (pc' := 34) q108 d108_33 rfl, w_iload_n2 (pc' := 35) q108 d108_34 rfl, w_invv3 (ci := 6) (pc' := 38) q108 d108_35 rfl n108_118 k108_118_6 m110.1, w_istore_n2 (pc' := 39) q108 d108_38 rfl, w_iinc3 (z := (1)) (pc' := 42) q108 d108_39 rfl, w_goto (tg := 14) q108 d108_42 (by decide), w_return q108 d108_45 m108.2.1, gs_off, gs_off0, gs_0off, gs_2, xN_0, xN_2, xN_3, xN_6, xN_7, xN_8, xN_9, xN_10, xN_11, xN_12, xN_13, xN_14, xN_15, xN_16, xN_17, xN_18, xN_19, xN_20, xN_21, xN_22, xN_23, xN_24, xN_25, xN_26, xN_27, xN_28, xN_29, xN_30, xN_31, xN_32, xN_33, xN_34, xN_35, xN_36, xN_37, xN_38, xN_39, xN_40, xN_41, xN_42, xN_43, xN_44, xN_45, xN_46, xN_47, xN_48, xN_49, xN_50, xN_51, xN_52, xN_53, xN_54, xN_55, ti_0, ti_1, ti_2, ti_3, ti_4, ti_5, ti_6, ti_7, ti_8, ti_9, ti_10, ti_16, ti_19, ti_20, ti_29, ti_30, ti_31, ti_32, ti_35, ti_36, ti_38, ti_39, ti_40, ti_41, ti_42, ti_43, ti_44, ti_45, ti_46, ti_47, ti_48, ti_49, ti_50, ti_51, ti_52, ti_53, ti_54, ti_55, ti_56, ti_57, ti_58, ti_59, ti_60, ti_61, ti_62, ti_63, ti_64, ti_65, ti_74, ti_77, ti_126, ti_200, ti_201, ti_202, ti_203, ti_204, ti_205, ti_210, ti_255, ti_256, ti_400, ti_512, ti_600, ti_601, ti_602, ti_1000, ti_1023, ti_1024, ti_2000, ti_10000, ti_12602, ti_999999, ti_m999999, ti_m1, ti_2000000, ti_3000000, xN_1, xN_4, xN_5, xN_60, xN_61, xN_64, xN_200, xN_800, xN_12000, xN_12602, eq_self, and_self, and_true, true_and, if_true, if_false, decide_true, Nat.reduceLeDiff, xc2_int, xc2_ref, xc2_ra, xc2_null, xc2_long, xc2_none, xisaT_ref, xisaT_ra, xisaT_null, xc1T_int, xc1T_ref, xc1T_ra, xc1T_null, xsum_nil, xsum_int, xsum_ref, xsum_ra, xsum_long, xsum_double, xsum_null, xfl_nil, xfl_int, xfl_ref, xfl_ra, xfl_null, xfl_long, xfl_double, List.length_cons, List.length_nil, e, tw, Int.le_refl, xfk, xfv, xak, xan, xcls, xsv', List.getElem?_cons_zero, List.getElem?_cons_succ, List.getD_cons_zero, List.getD_cons_succ, Option.getD_some, Option.isSome_some, if_true, if_pos, xcont, Option.toList_none, Option.toList_some, List.nil_append, List.cons_append]
  | succ m ih =>
    intro dn w g' hm hfr hB
    have hr := sumf_rng (f := g' (l + 6)) (lo := 0) (hi := 1) 200 0 (fun j _ _ => hB.1 j)
    have hw := hB.2.2.1
    have hdw := hB.2.2.2.2.2.2.2.2.2
    have hd0 := hB.2.2.2.2.2.2.2.2.1
    have tw : ti w = w := ti_eq (by omega) (by omega)
    have td : ti dn = dn := ti_eq (by omega) (by omega)
    by_cases e : w ≤ dn
    · refine ⟨g', hfr, hB.1, hB.2.1, BF_end hB e (Eg_rng hF) hbs, fun Q => ?_⟩
      rw [w_iload_n3 (pc' := 15) q108 d108_14 rfl]
      simp (config := { decide := true }) only [w_iload_n2 (pc' := 16) q108 d108_15 rfl, w_icmp_ge (tg := 45) (pc' := 19) q108 d108_16 (by decide) rfl, w_iload_n3 (pc' := 20) q108 d108_19 rfl, w_sipush (z' := (200)) (pc' := 23) q108 d108_20 rfl (by decide), w_icmp_ge (tg := 45) (pc' := 26) q108 d108_23 (by decide) rfl, w_aload_n0 (pc' := 27) q108 d108_26 rfl, w_aload_n0 (pc' := 28) q108 d108_27 rfl, w_getV (pc' := 31) q108 d108_28 rfl f108_32, w_iload_n3 (pc' := 32) q108 d108_31 rfl, w_iaload (pc' := 33) q108 d108_32 rfl, w_iconst (pc' := 34) q108 d108_33 rfl, w_iload_n2 (pc' := 35) q108 d108_34 rfl, w_invv3 (ci := 6) (pc' := 38) q108 d108_35 rfl n108_118 k108_118_6 m110.1, w_istore_n2 (pc' := 39) q108 d108_38 rfl, w_iinc3 (z := (1)) (pc' := 42) q108 d108_39 rfl, w_goto (tg := 14) q108 d108_42 (by decide), w_return q108 d108_45 m108.2.1, gs_off, gs_off0, gs_0off, gs_2, xN_0, xN_2, xN_3, xN_6, xN_7, xN_8, xN_9, xN_10, xN_11, xN_12, xN_13, xN_14, xN_15, xN_16, xN_17, xN_18, xN_19, xN_20, xN_21, xN_22, xN_23, xN_24, xN_25, xN_26, xN_27, xN_28, xN_29, xN_30, xN_31, xN_32, xN_33, xN_34, xN_35, xN_36, xN_37, xN_38, xN_39, xN_40, xN_41, xN_42, xN_43, xN_44, xN_45, xN_46, xN_47, xN_48, xN_49, xN_50, xN_51, xN_52, xN_53, xN_54, xN_55, ti_0, ti_1, ti_2, ti_3, ti_4, ti_5, ti_6, ti_7, ti_8, ti_9, ti_10, ti_16, ti_19, ti_20, ti_29, ti_30, ti_31, ti_32, ti_35, ti_36, ti_38, ti_39, ti_40, ti_41, ti_42, ti_43, ti_44, ti_45, ti_46, ti_47, ti_48, ti_49, ti_50, ti_51, ti_52, ti_53, ti_54, ti_55, ti_56, ti_57, ti_58, ti_59, ti_60, ti_61, ti_62, ti_63, ti_64, ti_65, ti_74, ti_77, ti_126, ti_200, ti_201, ti_202, ti_203, ti_204, ti_205, ti_210, ti_255, ti_256, ti_400, ti_512, ti_600, ti_601, ti_602, ti_1000, ti_1023, ti_1024, ti_2000, ti_10000, ti_12602, ti_999999, ti_m999999, ti_m1, ti_2000000, ti_3000000, xN_1, xN_4, xN_5, xN_60, xN_61, xN_64, xN_200, xN_800, xN_12000, xN_12602, eq_self, and_self, and_true, true_and, if_true, if_false, decide_true, Nat.reduceLeDiff, xc2_int, xc2_ref, xc2_ra, xc2_null, xc2_long, xc2_none, xisaT_ref, xisaT_ra, xisaT_null, xc1T_int, xc1T_ref, xc1T_ra, xc1T_null, xsum_nil, xsum_int, xsum_ref, xsum_ra, xsum_long, xsum_double, xsum_null, xfl_nil, xfl_int, xfl_ref, xfl_ra, xfl_null, xfl_long, xfl_double, List.length_cons, List.length_nil, e, tw, td, xfk, xfv, xak, xan, xcls, xsv', List.getElem?_cons_zero, List.getElem?_cons_succ, List.getD_cons_zero, List.getD_cons_succ, Option.getD_some, Option.isSome_some, if_true, if_pos, xcont, Option.toList_none, Option.toList_some, List.nil_append, List.cons_append]
    · have e2 : ¬ 200 ≤ dn := by omega
      have e3 : dn < 200 := by omega
      have hq := hB.2.1 dn
      have r1 : g' (l + 1) = g (l + 1) := hfr _ (by omega) (by omega)
      have r2 : g' (l + 2) = g (l + 2) := hfr _ (by omega) (by omega)
      have r0 : g' l = g l := hfr _ (by omega) (by omega)
      obtain ⟨w', g1, k1, k2, k3⟩ := c_markStep (X := X) (d := d) (g := g') true hS hq.1 (show g' (l + 7) dn < 200 by omega) (show g' l 2 = n by rw [r0]; exact hn) hn0 hn2 (show rg g' (l + 2) 0 199 by unfold rg; rw [r2]; exact hF) hB.1 hB.2.1 (show 0 ≤ w by omega) hw
      rw [if_pos rfl] at k3
      rw [r1, r2] at k2
      have hB' := BF_step hB (by omega) k2 (fun c => by unfold Eg; rw [hn])
      obtain ⟨g2, j1, j2, j3, j4, j5⟩ := ih (dn + 1) w' g1 (by omega) (fun h a b => (k1 h a b).trans (hfr h a b)) hB'
      refine ⟨g2, j1, j2, j3, j4, fun Q => ?_⟩
      rw [w_iload_n3 (pc' := 15) q108 d108_14 rfl]
      simp (config := { decide := true }) only [w_iload_n2 (pc' := 16) q108 d108_15 rfl, w_icmp_ge (tg := 45) (pc' := 19) q108 d108_16 (by decide) rfl, w_iload_n3 (pc' := 20) q108 d108_19 rfl, w_sipush (z' := (200)) (pc' := 23) q108 d108_20 rfl (by decide), w_icmp_ge (tg := 45) (pc' := 26) q108 d108_23 (by decide) rfl, w_aload_n0 (pc' := 27) q108 d108_26 rfl, w_aload_n0 (pc' := 28) q108 d108_27 rfl, w_getV (pc' := 31) q108 d108_28 rfl f108_32, w_iload_n3 (pc' := 32) q108 d108_31 rfl, w_iaload (pc' := 33) q108 d108_32 rfl, w_iconst (pc' := 34) q108 d108_33 rfl, w_iload_n2 (pc' := 35) q108 d108_34 rfl, w_invv3 (ci := 6) (pc' := 38) q108 d108_35 rfl n108_118 k108_118_6 m110.1, w_istore_n2 (pc' := 39) q108 d108_38 rfl, w_iinc3 (z := (1)) (pc' := 42) q108 d108_39 rfl, w_goto (tg := 14) q108 d108_42 (by decide), gs_off, gs_off0, gs_0off, gs_2, xN_0, xN_2, xN_3, xN_6, xN_7, xN_8, xN_9, xN_10, xN_11, xN_12, xN_13, xN_14, xN_15, xN_16, xN_17, xN_18, xN_19, xN_20, xN_21, xN_22, xN_23, xN_24, xN_25, xN_26, xN_27, xN_28, xN_29, xN_30, xN_31, xN_32, xN_33, xN_34, xN_35, xN_36, xN_37, xN_38, xN_39, xN_40, xN_41, xN_42, xN_43, xN_44, xN_45, xN_46, xN_47, xN_48, xN_49, xN_50, xN_51, xN_52, xN_53, xN_54, xN_55, ti_0, ti_1, ti_2, ti_3, ti_4, ti_5, ti_6, ti_7, ti_8, ti_9, ti_10, ti_16, ti_19, ti_20, ti_29, ti_30, ti_31, ti_32, ti_35, ti_36, ti_38, ti_39, ti_40, ti_41, ti_42, ti_43, ti_44, ti_45, ti_46, ti_47, ti_48, ti_49, ti_50, ti_51, ti_52, ti_53, ti_54, ti_55, ti_56, ti_57, ti_58, ti_59, ti_60, ti_61, ti_62, ti_63, ti_64, ti_65, ti_74, ti_77, ti_126, ti_200, ti_201, ti_202, ti_203, ti_204, ti_205, ti_210, ti_255, ti_256, ti_400, ti_512, ti_600, ti_601, ti_602, ti_1000, ti_1023, ti_1024, ti_2000, ti_10000, ti_12602, ti_999999, ti_m999999, ti_m1, ti_2000000, ti_3000000, xN_1, xN_4, xN_5, xN_60, xN_61, xN_64, xN_200, xN_800, xN_12000, xN_12602, eq_self, and_self, and_true, true_and, if_true, if_false, decide_true, Nat.reduceLeDiff, xc2_int, xc2_ref, xc2_ra, xc2_null, xc2_long, xc2_none, xisaT_ref, xisaT_ra, xisaT_null, xc1T_int, xc1T_ref, xc1T_ra, xc1T_null, xsum_nil, xsum_int, xsum_ref, xsum_ra, xsum_long, xsum_double, xsum_null, xfl_nil, xfl_int, xfl_ref, xfl_ra, xfl_null, xfl_long, xfl_double, List.length_cons, List.length_nil, h0, h7, e, e2, e3, tw, td, hd0, k3, xfk, xfv, xak, xan, xcls, xsv', List.getElem?_cons_zero, List.getElem?_cons_succ, List.getD_cons_zero, List.getD_cons_succ, Option.getD_some, Option.isSome_some, if_true, if_pos, xcont, Option.toList_none, Option.toList_some, List.nil_append, List.cons_append]
      exact j5 Q
theorem c_usersOf {l : Nat} {s n : Int} (hS : LkS S l) (hs : 0 ≤ s) (hs2 : s < 200) (hn : g l 2 = n) (hn0 : 0 ≤ n) (hn2 : n ≤ 200) (hF : rg g (l + 2) 0 199) (hM : rg g (l + 6) 0 1) (hQ : rg g (l + 7) 0 199) :
    ∃ g'', (∀ h, ¬ h = l + 6 → ¬ h = l + 7 → g'' h = g h) ∧ rg g'' (l + 6) 0 1 ∧ rg g'' (l + 7) 0 199 ∧ (∀ c, 0 ≤ c → c < 200 → (g'' (l + 6) c = 1 ↔ Rc (Eg g l true) s c)) ∧ ∀ Q, Cw X (d + 2) 108 [.ref l, .int (iI s)] (hp S g) Q = Q (.inl none) (hp S g'') := by
  have h0 := hS.1
  obtain ⟨g0, e0⟩ : ∃ g0, g0 = gr g (l + 6) (fun j => if 0 ≤ j ∧ j < 200 then 0 else g (l + 6) j) := ⟨_, rfl⟩
  have f0 : ∀ h, ¬ h = l + 6 → g0 h = g h := fun h hh => by rw [e0]; exact gr_row _ _ hh
  have f6 : ∀ c, 0 ≤ g0 (l + 6) c ∧ g0 (l + 6) c ≤ 1 := fun c => by
    have := hM c
    rw [e0, gr_hit]; split <;> omega
  have r1 : g0 (l + 1) = g (l + 1) := f0 _ (by omega)
  have r2 : g0 (l + 2) = g (l + 2) := f0 _ (by omega)
  have r7 : g0 (l + 7) = g (l + 7) := f0 _ (by omega)
  have rl : g0 l = g l := f0 _ (by omega)
  have hsum := sumf_rng (f := g0 (l + 6)) (lo := 0) (hi := 1) 200 0 (fun j _ _ => f6 j)
  obtain ⟨w', g1, k1, k2, k3⟩ := c_markStep (X := X) (d := d) (g := g0) (w := 0) true hS hs hs2 (show g0 l 2 = n by rw [rl]; exact hn) hn0 hn2 (show rg g0 (l + 2) 0 199 by unfold rg; rw [r2]; exact hF) f6 (show rg g0 (l + 7) 0 199 by unfold rg; rw [r7]; exact hQ) (by decide) (by omega)
  rw [if_pos rfl] at k3
  rw [r1, r2] at k2
  have hB := BF_start (E := Eg g l true) (s := s) (base := fun _ => False) k2 (fun c => by unfold Eg; rw [hn]) (fun c c1 c2 => by rw [e0, gr_hit, if_pos ⟨c1, c2⟩]; simp) (fun c h => h.elim) f6
  obtain ⟨g2, j1, j2, j3, j4, j5⟩ := l_usersOf (X := X) (d := d) hS hn hn0 hn2 hF (fun c h => h.elim) 200 0 w' g1 (by omega) (fun h a b => (k1 h a b).trans (f0 h a)) hB
  refine ⟨g2, j1, j2, j3, fun c c1 c2 => by rw [j4 c c1 c2, false_or], fun Q => ?_⟩
  rw [e108]
  simp (config := { decide := true }) only [w_aload_n0 (pc' := 1) q108 d108_0 rfl, w_invv0 (ci := 6) (pc' := 4) q108 d108_1 rfl n108_115 k108_115_6 m109.1, w_aload_n0 (pc' := 5) q108 d108_4 rfl, w_iload_n1 (pc' := 6) q108 d108_5 rfl, w_iconst (pc' := 7) q108 d108_6 rfl, w_iconst (pc' := 8) q108 d108_7 rfl, w_invv3 (ci := 6) (pc' := 11) q108 d108_8 rfl n108_118 k108_118_6 m110.1, w_istore_n2 (pc' := 12) q108 d108_11 rfl, w_iconst (pc' := 13) q108 d108_12 rfl, w_istore_n3 (pc' := 14) q108 d108_13 rfl, gs_off, gs_off0, gs_0off, gs_2, xN_0, xN_2, xN_3, xN_6, xN_7, xN_8, xN_9, xN_10, xN_11, xN_12, xN_13, xN_14, xN_15, xN_16, xN_17, xN_18, xN_19, xN_20, xN_21, xN_22, xN_23, xN_24, xN_25, xN_26, xN_27, xN_28, xN_29, xN_30, xN_31, xN_32, xN_33, xN_34, xN_35, xN_36, xN_37, xN_38, xN_39, xN_40, xN_41, xN_42, xN_43, xN_44, xN_45, xN_46, xN_47, xN_48, xN_49, xN_50, xN_51, xN_52, xN_53, xN_54, xN_55, ti_0, ti_1, ti_2, ti_3, ti_4, ti_5, ti_6, ti_7, ti_8, ti_9, ti_10, ti_16, ti_19, ti_20, ti_29, ti_30, ti_31, ti_32, ti_35, ti_36, ti_38, ti_39, ti_40, ti_41, ti_42, ti_43, ti_44, ti_45, ti_46, ti_47, ti_48, ti_49, ti_50, ti_51, ti_52, ti_53, ti_54, ti_55, ti_56, ti_57, ti_58, ti_59, ti_60, ti_61, ti_62, ti_63, ti_64, ti_65, ti_74, ti_77, ti_126, ti_200, ti_201, ti_202, ti_203, ti_204, ti_205, ti_210, ti_255, ti_256, ti_400, ti_512, ti_600, ti_601, ti_602, ti_1000, ti_1023, ti_1024, ti_2000, ti_10000, ti_12602, ti_999999, ti_m999999, ti_m1, ti_2000000, ti_3000000, xN_1, xN_4, xN_5, xN_60, xN_61, xN_64, xN_200, xN_800, xN_12000, xN_12602, eq_self, and_self, and_true, true_and, if_true, if_false, decide_true, Nat.reduceLeDiff, xc2_int, xc2_ref, xc2_ra, xc2_null, xc2_long, xc2_none, xisaT_ref, xisaT_ra, xisaT_null, xc1T_int, xc1T_ref, xc1T_ra, xc1T_null, xsum_nil, xsum_int, xsum_ref, xsum_ra, xsum_long, xsum_double, xsum_null, xfl_nil, xfl_int, xfl_ref, xfl_ra, xfl_null, xfl_long, xfl_double, List.length_cons, List.length_nil, h0, c_clearMarks hS, ← e0, k3, xfk, xfv, xak, xan, xcls, xsv', List.getElem?_cons_zero, List.getElem?_cons_succ, List.getD_cons_zero, List.getD_cons_succ, Option.getD_some, Option.isSome_some, if_true, if_pos, xcont, Option.toList_none, Option.toList_some, List.nil_append, List.cons_append]
  exact j5 Q
theorem l_neededBy {l : Nat} {s n : Int} {base : Int → Prop} (hS : LkS S l) (hn : g l 2 = n) (hn0 : 0 ≤ n) (hn2 : n ≤ 200) (hF : rg g (l + 2) 0 199) (hbs : ∀ c, base c → c = s) : ∀ (m : Nat) (dn w : Int) (g' : xGm), dn + m = 200 → (∀ h, ¬ h = l + 6 → ¬ h = l + 7 → g' h = g h) → BF (Eg g l false) s base (g' (l + 6)) (g' (l + 7)) w dn →
    ∃ g'', (∀ h, ¬ h = l + 6 → ¬ h = l + 7 → g'' h = g h) ∧ rg g'' (l + 6) 0 1 ∧ rg g'' (l + 7) 0 199 ∧ (∀ c, 0 ≤ c → c < 200 → (g'' (l + 6) c = 1 ↔ base c ∨ Rc (Eg g l false) s c)) ∧ ∀ Q, Wx X (d + 2) 113 21 [some (.ref l), some (.int (iI s)), some (.int (iI w)), some (.int (iI dn))] [] (hp S g') Q = Q (.inl none) (hp S g'') := by
  have hS' := hS
  obtain ⟨h0, h1, h2, h3, h4, h5, h6, h7, h8⟩ := hS'
  intro m
  induction m with
  | zero =>
    intro dn w g' hm hfr hB
    have hr := sumf_rng (f := g' (l + 6)) (lo := 0) (hi := 1) 200 0 (fun j _ _ => hB.1 j)
    have hw := hB.2.2.1
    have hdw := hB.2.2.2.2.2.2.2.2.2
    have e : dn = w := by omega
    have tw : ti w = w := ti_eq (by omega) (by omega)
    refine ⟨g', hfr, hB.1, hB.2.1, BF_end hB (by omega) (Eg_rng hF) hbs, fun Q => ?_⟩
    rw [w_iload_n3 (pc' := 22) q113 d113_21 rfl]
    simp (config := { decide := true }) only [w_iload_n2 (pc' := 23) q113 d113_22 rfl, w_icmp_ge (tg := 52) (pc' := 26) q113 d113_23 (by decide) rfl, w_iload_n3 (pc' := 27) q113 d113_26 rfl, w_sipush (z' := (200)) (pc' := 30) q113 d113_27 rfl (by decide), w_icmp_ge (tg := 52) (pc' := 33) q113 d113_30 (by decide) rfl, w_aload_n0 (pc' := 34) q113 d113_33 rfl, w_aload_n0 (pc' := 35) q113 d113_34 rfl, w_getV (pc' := 38) q113 d113_35 rfl f113_32, w_iload_n3 (pc' := 39) q113 d113_38 rfl, w_iaload (pc' := 40) q113 d113_39 rfl, w_iconst (pc' := 41) q113 d113_40 rfl, w_iload_n2 (pc' := 42) q113 d113_41 rfl, w_invv3 (ci := 6) (pc' := 45) q113 d113_42 rfl n113_118 k113_118_6 m110.1, w_istore_n2 (pc' := 46) q113 d113_45 rfl, w_iinc3 (z := (1)) (pc' := 49) q113 d113_46 rfl, w_goto (tg := 21) q113 d113_49 (by decide), w_return q113 d113_52 m113.2.1, gs_off, gs_off0, gs_0off, gs_2, xN_0, xN_2, xN_3, xN_6, xN_7, xN_8, xN_9, xN_10, xN_11, xN_12, xN_13, xN_14, xN_15, xN_16, xN_17, xN_18, xN_19, xN_20, xN_21, xN_22, xN_23, xN_24, xN_25, xN_26, xN_27, xN_28, xN_29, xN_30, xN_31, xN_32, xN_33, xN_34, xN_35, xN_36, xN_37, xN_38, xN_39, xN_40, xN_41, xN_42, xN_43, xN_44, xN_45, xN_46, xN_47, xN_48, xN_49, xN_50, xN_51, xN_52, xN_53, xN_54, xN_55, ti_0, ti_1, ti_2, ti_3, ti_4, ti_5, ti_6, ti_7, ti_8, ti_9, ti_10, ti_16, ti_19, ti_20, ti_29, ti_30, ti_31, ti_32, ti_35, ti_36, ti_38, ti_39, ti_40, ti_41, ti_42, ti_43, ti_44, ti_45, ti_46, ti_47, ti_48, ti_49, ti_50, ti_51, ti_52, ti_53, ti_54, ti_55, ti_56, ti_57, ti_58, ti_59, ti_60, ti_61, ti_62, ti_63, ti_64, ti_65, ti_74, ti_77, ti_126, ti_200, ti_201, ti_202, ti_203, ti_204, ti_205, ti_210, ti_255, ti_256, ti_400, ti_512, ti_600, ti_601, ti_602, ti_1000, ti_1023, ti_1024, ti_2000, ti_10000, ti_12602, ti_999999, ti_m999999, ti_m1, ti_2000000, ti_3000000, xN_1, xN_4, xN_5, xN_60, xN_61, xN_64, xN_200, xN_800, xN_12000, xN_12602, eq_self, and_self, and_true, true_and, if_true, if_false, decide_true, Nat.reduceLeDiff, xc2_int, xc2_ref, xc2_ra, xc2_null, xc2_long, xc2_none, xisaT_ref, xisaT_ra, xisaT_null, xc1T_int, xc1T_ref, xc1T_ra, xc1T_null, xsum_nil, xsum_int, xsum_ref, xsum_ra, xsum_long, xsum_double, xsum_null, xfl_nil, xfl_int, xfl_ref, xfl_ra, xfl_null, xfl_long, xfl_double, List.length_cons, List.length_nil, e, tw, Int.le_refl, xfk, xfv, xak, xan, xcls, xsv', List.getElem?_cons_zero, List.getElem?_cons_succ, List.getD_cons_zero, List.getD_cons_succ, Option.getD_some, Option.isSome_some, if_true, if_pos, xcont, Option.toList_none, Option.toList_some, List.nil_append, List.cons_append]
  | succ m ih =>
    intro dn w g' hm hfr hB
    have hr := sumf_rng (f := g' (l + 6)) (lo := 0) (hi := 1) 200 0 (fun j _ _ => hB.1 j)
    have hw := hB.2.2.1
    have hdw := hB.2.2.2.2.2.2.2.2.2
    have hd0 := hB.2.2.2.2.2.2.2.2.1
    have tw : ti w = w := ti_eq (by omega) (by omega)
    have td : ti dn = dn := ti_eq (by omega) (by omega)
    by_cases e : w ≤ dn
    · refine ⟨g', hfr, hB.1, hB.2.1, BF_end hB e (Eg_rng hF) hbs, fun Q => ?_⟩
      rw [w_iload_n3 (pc' := 22) q113 d113_21 rfl]
      simp (config := { decide := true }) only [w_iload_n2 (pc' := 23) q113 d113_22 rfl, w_icmp_ge (tg := 52) (pc' := 26) q113 d113_23 (by decide) rfl, w_iload_n3 (pc' := 27) q113 d113_26 rfl, w_sipush (z' := (200)) (pc' := 30) q113 d113_27 rfl (by decide), w_icmp_ge (tg := 52) (pc' := 33) q113 d113_30 (by decide) rfl, w_aload_n0 (pc' := 34) q113 d113_33 rfl, w_aload_n0 (pc' := 35) q113 d113_34 rfl, w_getV (pc' := 38) q113 d113_35 rfl f113_32, w_iload_n3 (pc' := 39) q113 d113_38 rfl, w_iaload (pc' := 40) q113 d113_39 rfl, w_iconst (pc' := 41) q113 d113_40 rfl, w_iload_n2 (pc' := 42) q113 d113_41 rfl, w_invv3 (ci := 6) (pc' := 45) q113 d113_42 rfl n113_118 k113_118_6 m110.1, w_istore_n2 (pc' := 46) q113 d113_45 rfl, w_iinc3 (z := (1)) (pc' := 49) q113 d113_46 rfl, w_goto (tg := 21) q113 d113_49 (by decide), w_return q113 d113_52 m113.2.1, gs_off, gs_off0, gs_0off, gs_2, xN_0, xN_2, xN_3, xN_6, xN_7, xN_8, xN_9, xN_10, xN_11, xN_12, xN_13, xN_14, xN_15, xN_16, xN_17, xN_18, xN_19, xN_20, xN_21, xN_22, xN_23, xN_24, xN_25, xN_26, xN_27, xN_28, xN_29, xN_30, xN_31, xN_32, xN_33, xN_34, xN_35, xN_36, xN_37, xN_38, xN_39, xN_40, xN_41, xN_42, xN_43, xN_44, xN_45, xN_46, xN_47, xN_48, xN_49, xN_50, xN_51, xN_52, xN_53, xN_54, xN_55, ti_0, ti_1, ti_2, ti_3, ti_4, ti_5, ti_6, ti_7, ti_8, ti_9, ti_10, ti_16, ti_19, ti_20, ti_29, ti_30, ti_31, ti_32, ti_35, ti_36, ti_38, ti_39, ti_40, ti_41, ti_42, ti_43, ti_44, ti_45, ti_46, ti_47, ti_48, ti_49, ti_50, ti_51, ti_52, ti_53, ti_54, ti_55, ti_56, ti_57, ti_58, ti_59, ti_60, ti_61, ti_62, ti_63, ti_64, ti_65, ti_74, ti_77, ti_126, ti_200, ti_201, ti_202, ti_203, ti_204, ti_205, ti_210, ti_255, ti_256, ti_400, ti_512, ti_600, ti_601, ti_602, ti_1000, ti_1023, ti_1024, ti_2000, ti_10000, ti_12602, ti_999999, ti_m999999, ti_m1, ti_2000000, ti_3000000, xN_1, xN_4, xN_5, xN_60, xN_61, xN_64, xN_200, xN_800, xN_12000, xN_12602, eq_self, and_self, and_true, true_and, if_true, if_false, decide_true, Nat.reduceLeDiff, xc2_int, xc2_ref, xc2_ra, xc2_null, xc2_long, xc2_none, xisaT_ref, xisaT_ra, xisaT_null, xc1T_int, xc1T_ref, xc1T_ra, xc1T_null, xsum_nil, xsum_int, xsum_ref, xsum_ra, xsum_long, xsum_double, xsum_null, xfl_nil, xfl_int, xfl_ref, xfl_ra, xfl_null, xfl_long, xfl_double, List.length_cons, List.length_nil, e, tw, td, xfk, xfv, xak, xan, xcls, xsv', List.getElem?_cons_zero, List.getElem?_cons_succ, List.getD_cons_zero, List.getD_cons_succ, Option.getD_some, Option.isSome_some, if_true, if_pos, xcont, Option.toList_none, Option.toList_some, List.nil_append, List.cons_append]
    · have e2 : ¬ 200 ≤ dn := by omega
      have e3 : dn < 200 := by omega
      have hq := hB.2.1 dn
      have r1 : g' (l + 1) = g (l + 1) := hfr _ (by omega) (by omega)
      have r2 : g' (l + 2) = g (l + 2) := hfr _ (by omega) (by omega)
      have r0 : g' l = g l := hfr _ (by omega) (by omega)
      obtain ⟨w', g1, k1, k2, k3⟩ := c_markStep (X := X) (d := d) (g := g') false hS hq.1 (show g' (l + 7) dn < 200 by omega) (show g' l 2 = n by rw [r0]; exact hn) hn0 hn2 (show rg g' (l + 2) 0 199 by unfold rg; rw [r2]; exact hF) hB.1 hB.2.1 (show 0 ≤ w by omega) hw
      rw [if_neg Bool.false_ne_true] at k3
      rw [r1, r2] at k2
      have hB' := BF_step hB (by omega) k2 (fun c => by unfold Eg; rw [hn])
      obtain ⟨g2, j1, j2, j3, j4, j5⟩ := ih (dn + 1) w' g1 (by omega) (fun h a b => (k1 h a b).trans (hfr h a b)) hB'
      refine ⟨g2, j1, j2, j3, j4, fun Q => ?_⟩
      rw [w_iload_n3 (pc' := 22) q113 d113_21 rfl]
      simp (config := { decide := true }) only [w_iload_n2 (pc' := 23) q113 d113_22 rfl, w_icmp_ge (tg := 52) (pc' := 26) q113 d113_23 (by decide) rfl, w_iload_n3 (pc' := 27) q113 d113_26 rfl, w_sipush (z' := (200)) (pc' := 30) q113 d113_27 rfl (by decide), w_icmp_ge (tg := 52) (pc' := 33) q113 d113_30 (by decide) rfl, w_aload_n0 (pc' := 34) q113 d113_33 rfl, w_aload_n0 (pc' := 35) q113 d113_34 rfl, w_getV (pc' := 38) q113 d113_35 rfl f113_32, w_iload_n3 (pc' := 39) q113 d113_38 rfl, w_iaload (pc' := 40) q113 d113_39 rfl, w_iconst (pc' := 41) q113 d113_40 rfl, w_iload_n2 (pc' := 42) q113 d113_41 rfl, w_invv3 (ci := 6) (pc' := 45) q113 d113_42 rfl n113_118 k113_118_6 m110.1, w_istore_n2 (pc' := 46) q113 d113_45 rfl, w_iinc3 (z := (1)) (pc' := 49) q113 d113_46 rfl, w_goto (tg := 21) q113 d113_49 (by decide), gs_off, gs_off0, gs_0off, gs_2, xN_0, xN_2, xN_3, xN_6, xN_7, xN_8, xN_9, xN_10, xN_11, xN_12, xN_13, xN_14, xN_15, xN_16, xN_17, xN_18, xN_19, xN_20, xN_21, xN_22, xN_23, xN_24, xN_25, xN_26, xN_27, xN_28, xN_29, xN_30, xN_31, xN_32, xN_33, xN_34, xN_35, xN_36, xN_37, xN_38, xN_39, xN_40, xN_41, xN_42, xN_43, xN_44, xN_45, xN_46, xN_47, xN_48, xN_49, xN_50, xN_51, xN_52, xN_53, xN_54, xN_55, ti_0, ti_1, ti_2, ti_3, ti_4, ti_5, ti_6, ti_7, ti_8, ti_9, ti_10, ti_16, ti_19, ti_20, ti_29, ti_30, ti_31, ti_32, ti_35, ti_36, ti_38, ti_39, ti_40, ti_41, ti_42, ti_43, ti_44, ti_45, ti_46, ti_47, ti_48, ti_49, ti_50, ti_51, ti_52, ti_53, ti_54, ti_55, ti_56, ti_57, ti_58, ti_59, ti_60, ti_61, ti_62, ti_63, ti_64, ti_65, ti_74, ti_77, ti_126, ti_200, ti_201, ti_202, ti_203, ti_204, ti_205, ti_210, ti_255, ti_256, ti_400, ti_512, ti_600, ti_601, ti_602, ti_1000, ti_1023, ti_1024, ti_2000, ti_10000, ti_12602, ti_999999, ti_m999999, ti_m1, ti_2000000, ti_3000000, xN_1, xN_4, xN_5, xN_60, xN_61, xN_64, xN_200, xN_800, xN_12000, xN_12602, eq_self, and_self, and_true, true_and, if_true, if_false, decide_true, Nat.reduceLeDiff, xc2_int, xc2_ref, xc2_ra, xc2_null, xc2_long, xc2_none, xisaT_ref, xisaT_ra, xisaT_null, xc1T_int, xc1T_ref, xc1T_ra, xc1T_null, xsum_nil, xsum_int, xsum_ref, xsum_ra, xsum_long, xsum_double, xsum_null, xfl_nil, xfl_int, xfl_ref, xfl_ra, xfl_null, xfl_long, xfl_double, List.length_cons, List.length_nil, h0, h7, e, e2, e3, tw, td, hd0, k3, xfk, xfv, xak, xan, xcls, xsv', List.getElem?_cons_zero, List.getElem?_cons_succ, List.getD_cons_zero, List.getD_cons_succ, Option.getD_some, Option.isSome_some, if_true, if_pos, xcont, Option.toList_none, Option.toList_some, List.nil_append, List.cons_append]
      exact j5 Q
theorem c_neededBy {l : Nat} {s n : Int} (hS : LkS S l) (hs : 0 ≤ s) (hs2 : s < 200) (hn : g l 2 = n) (hn0 : 0 ≤ n) (hn2 : n ≤ 200) (hF : rg g (l + 2) 0 199) (hM : rg g (l + 6) 0 1) (hQ : rg g (l + 7) 0 199) :
    ∃ g'', (∀ h, ¬ h = l + 6 → ¬ h = l + 7 → g'' h = g h) ∧ rg g'' (l + 6) 0 1 ∧ rg g'' (l + 7) 0 199 ∧ (∀ c, 0 ≤ c → c < 200 → (g'' (l + 6) c = 1 ↔ c = s ∨ Rc (Eg g l false) s c)) ∧ ∀ Q, Cw X (d + 2) 113 [.ref l, .int (iI s)] (hp S g) Q = Q (.inl none) (hp S g'') := by
  have hS' := hS
  obtain ⟨h0, h1, h2, h3, h4, h5, h6, h7, h8⟩ := hS'
  obtain ⟨g9, e9⟩ : ∃ g9, g9 = gr g (l + 6) (fun j => if 0 ≤ j ∧ j < 200 then 0 else g (l + 6) j) := ⟨_, rfl⟩
  obtain ⟨g0, e0⟩ : ∃ g0, g0 = gs g9 (l + 6) s 1 := ⟨_, rfl⟩
  have f0 : ∀ h, ¬ h = l + 6 → g0 h = g h := fun h hh => by rw [e0, gs_row _ _ _ hh, e9]; exact gr_row _ _ hh
  have f6 : ∀ c, 0 ≤ g0 (l + 6) c ∧ g0 (l + 6) c ≤ 1 := fun c => by
    have := hM c
    rw [e0, gs_at]; split
    · omega
    · rw [e9, gr_hit]; split <;> omega
  have r1 : g0 (l + 1) = g (l + 1) := f0 _ (by omega)
  have r2 : g0 (l + 2) = g (l + 2) := f0 _ (by omega)
  have r7 : g0 (l + 7) = g (l + 7) := f0 _ (by omega)
  have rl : g0 l = g l := f0 _ (by omega)
  have ts : ti s = s := ti_eq (by omega) (by omega)
  have z1 : xnz 1 = 1 := by decide
  have hsum := sumf_rng (f := g0 (l + 6)) (lo := 0) (hi := 1) 200 0 (fun j _ _ => f6 j)
  obtain ⟨w', g1, k1, k2, k3⟩ := c_markStep (X := X) (d := d) (g := g0) (w := 0) false hS hs hs2 (show g0 l 2 = n by rw [rl]; exact hn) hn0 hn2 (show rg g0 (l + 2) 0 199 by unfold rg; rw [r2]; exact hF) f6 (show rg g0 (l + 7) 0 199 by unfold rg; rw [r7]; exact hQ) (by decide) (by omega)
  rw [if_neg Bool.false_ne_true] at k3
  rw [r1, r2] at k2
  have hB := BF_start (E := Eg g l false) (s := s) (base := fun c => c = s) k2 (fun c => by unfold Eg; rw [hn]) (fun c c1 c2 => by
    by_cases e : c = s
    · rw [e0, gs_at, if_pos e]; simp [e]
    · rw [e0, gs_at, if_neg e, e9, gr_hit, if_pos ⟨c1, c2⟩]; simp [e]) (fun c h => by omega) f6
  obtain ⟨g2, j1, j2, j3, j4, j5⟩ := l_neededBy (X := X) (d := d) hS hn hn0 hn2 hF (fun c h => h) 200 0 w' g1 (by omega) (fun h a b => (k1 h a b).trans (f0 h a)) hB
  refine ⟨g2, j1, j2, j3, j4, fun Q => ?_⟩
  rw [e113]
  simp (config := { decide := true }) only [w_aload_n0 (pc' := 1) q113 d113_0 rfl, w_invv0 (ci := 6) (pc' := 4) q113 d113_1 rfl n113_115 k113_115_6 m109.1, w_aload_n0 (pc' := 5) q113 d113_4 rfl, w_getV (pc' := 8) q113 d113_5 rfl f113_28, w_iload_n1 (pc' := 9) q113 d113_8 rfl, w_iconst (pc' := 10) q113 d113_9 rfl, w_zastore (pc' := 11) q113 d113_10 rfl, w_bastore (pc' := 11) q113 d113_10 rfl, w_aload_n0 (pc' := 12) q113 d113_11 rfl, w_iload_n1 (pc' := 13) q113 d113_12 rfl, w_iconst (pc' := 14) q113 d113_13 rfl, w_iconst (pc' := 15) q113 d113_14 rfl, w_invv3 (ci := 6) (pc' := 18) q113 d113_15 rfl n113_118 k113_118_6 m110.1, w_istore_n2 (pc' := 19) q113 d113_18 rfl, w_iconst (pc' := 20) q113 d113_19 rfl, w_istore_n3 (pc' := 21) q113 d113_20 rfl, gs_off, gs_off0, gs_0off, gs_2, xN_0, xN_2, xN_3, xN_6, xN_7, xN_8, xN_9, xN_10, xN_11, xN_12, xN_13, xN_14, xN_15, xN_16, xN_17, xN_18, xN_19, xN_20, xN_21, xN_22, xN_23, xN_24, xN_25, xN_26, xN_27, xN_28, xN_29, xN_30, xN_31, xN_32, xN_33, xN_34, xN_35, xN_36, xN_37, xN_38, xN_39, xN_40, xN_41, xN_42, xN_43, xN_44, xN_45, xN_46, xN_47, xN_48, xN_49, xN_50, xN_51, xN_52, xN_53, xN_54, xN_55, ti_0, ti_1, ti_2, ti_3, ti_4, ti_5, ti_6, ti_7, ti_8, ti_9, ti_10, ti_16, ti_19, ti_20, ti_29, ti_30, ti_31, ti_32, ti_35, ti_36, ti_38, ti_39, ti_40, ti_41, ti_42, ti_43, ti_44, ti_45, ti_46, ti_47, ti_48, ti_49, ti_50, ti_51, ti_52, ti_53, ti_54, ti_55, ti_56, ti_57, ti_58, ti_59, ti_60, ti_61, ti_62, ti_63, ti_64, ti_65, ti_74, ti_77, ti_126, ti_200, ti_201, ti_202, ti_203, ti_204, ti_205, ti_210, ti_255, ti_256, ti_400, ti_512, ti_600, ti_601, ti_602, ti_1000, ti_1023, ti_1024, ti_2000, ti_10000, ti_12602, ti_999999, ti_m999999, ti_m1, ti_2000000, ti_3000000, xN_1, xN_4, xN_5, xN_60, xN_61, xN_64, xN_200, xN_800, xN_12000, xN_12602, eq_self, and_self, and_true, true_and, if_true, if_false, decide_true, Nat.reduceLeDiff, xc2_int, xc2_ref, xc2_ra, xc2_null, xc2_long, xc2_none, xisaT_ref, xisaT_ra, xisaT_null, xc1T_int, xc1T_ref, xc1T_ra, xc1T_null, xsum_nil, xsum_int, xsum_ref, xsum_ra, xsum_long, xsum_double, xsum_null, xfl_nil, xfl_int, xfl_ref, xfl_ra, xfl_null, xfl_long, xfl_double, List.length_cons, List.length_nil, h0, h6, c_clearMarks hS, ← e9, ts, hs, hs2, z1, ← e0, k3, xfk, xfv, xak, xan, xcls, xsv', List.getElem?_cons_zero, List.getElem?_cons_succ, List.getD_cons_zero, List.getD_cons_succ, Option.getD_some, Option.isSome_some, if_true, if_pos, xcont, Option.toList_none, Option.toList_some, List.nil_append, List.cons_append]
  exact j5 Q
end
