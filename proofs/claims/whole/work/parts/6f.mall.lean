/-! The model: all formulas are computed -/
section
def FxC (g g' : xGm) (m : Nat) : Prop := Fx [8, 9, 10, 12, 13, 14, 15, 16, 17, 18, 19, 20] [22, 23, 24, 25, 26, 30] g g' m
theorem okE_M {g : xGm} {m : Nat} (h : MoR g m) : okE (g (m + 13)) (g (m + 12)) := fun c => by
  have h1 := h.1 c
  have h2 := h.2.1 c
  by_cases e : g (m + 13) c = 0
  · exact .inl ⟨e, h1⟩
  · exact .inr (by omega)
/-- computed so far: p formulas -/
def CaI (g0 g : xGm) (m : Nat) (T : Int → List Int) (p : Int) : Prop :=
  (FxC g0 g m ∧ MoR g m ∧ g m 30 = p ∧ 0 ≤ p) ∧ (OdF (FmA (g0 (m + 1))) (RfA (g0 (m + 1)) T) (g (m + 18)) p ∧ ChS (RfA (g0 (m + 1)) T) (g (m + 18)) (g (m + 20)) p) ∧
  ((∀ i, 0 ≤ i → i < p → g (m + 19) (g (m + 18) i) = i) ∧ ∀ c, 0 ≤ c → c < 200 → ¬ oin (g (m + 18)) p c → g (m + 19) c = -1 ∧ g (m + 20) c = 0) ∧
  ((∀ c o, 0 ≤ c → c < 200 → 0 ≤ o → o < 256 → (bt (g (m + 8)) c o = true ↔ RfA (g0 (m + 1)) T c o)) ∧ (∀ o, 0 ≤ o → o < 256 → (bt (g (m + 10)) 0 o = true ↔ o < 200 ∧ g0 (m + 1) o = 2)) ∧ ∀ o, 0 ≤ o → o < 256 → (bt (g (m + 9)) 0 o = true ↔ oin (g (m + 18)) p o)) ∧
  (∀ c, 0 ≤ c → c < 200 → (¬ g0 (m + 1) c = 2 → g (m + 13) c = 0 ∧ g (m + 12) c = nvM g0 m c) ∧ (g0 (m + 1) c = 2 → ¬ oin (g (m + 18)) p c → g (m + 13) c = 5 ∧ g (m + 12) c = 0) ∧
    (oin (g (m + 18)) p c → g (m + 13) c = (evT (T c) (g0 (m + 1)) (g (m + 13)) (g (m + 12)) 0 0).1 ∧ g (m + 12) c = (evT (T c) (g0 (m + 1)) (g (m + 13)) (g (m + 12)) 0 0).2))
variable {X : xX} {S : xLm} {g : xGm} {d : Nat} {w : xH} {Q : xO → xH → Prop}
theorem CaI_next {m : Nat} {T : Int → List Int} {g0 : xGm} {p : Int} (hS : MdS S m) (hC : CeM g0 m T) (h : CaI g0 g m T p) : ∀ Q, Cw X (d + 2) 272 [.ref m] (hp S g) Q = Q (.inl (some (.int (iI (onx (FmA (g0 (m + 1))) (RfA (g0 (m + 1)) T) (g (m + 18)) p))))) (hp S g) := by
  obtain ⟨⟨f1, mr, h30, hp0⟩, ⟨hO, hCh⟩, ⟨hp1, hp2⟩, ⟨hb1, hb2, hb3⟩, -⟩ := h
  have eK : g (m + 1) = g0 (m + 1) := Fx_at f1 (by decide) (by decide)
  unfold onx
  refine m_nextInOrder (X := X) (d := d) hS (rg_off eK hC.1) mr.2.2.2.1 (fun c c1 c2 => ?_)
  rw [cb_iff, eK]
  unfold FmA
  rw [decide_eq_true_eq]
  constructor
  · rintro ⟨h1, h2, h3⟩
    refine ⟨⟨h1, by rw [(hp2 c c1 c2 h2).1]; decide⟩, fun o o1 o2 k1 k2 => ?_⟩
    obtain ⟨k3, k4⟩ := (hb2 o o1 o2).mp k2
    exact (hb3 o o1 o2).mpr (h3 o o1 k3 (decide_eq_true k4) ((hb1 c o c1 c2 o1 o2).mp k1))
  · rintro ⟨⟨h1, h2⟩, h3⟩
    refine ⟨h1, ?_, fun o o1 o2 k1 k2 => ?_⟩
    · rintro ⟨i, i1, i2, i3⟩
      have := hp1 i i1 i2
      rw [i3] at this
      omega
    · exact (hb3 o o1 (by omega)).mp (h3 o o1 (by omega) ((hb1 c o c1 c2 o1 (by omega)).mpr k2) ((hb2 o o1 (by omega)).mpr ⟨o2, of_decide_eq_true k1⟩))
theorem OdF_ext {F : Int → Bool} {R : Int → Int → Prop} {r r' : Int → Int} {p c : Int} (hp : 0 ≤ p) (h : OdF F R r p) (hc : c = onx F R r p) (hc0 : 0 ≤ c) (hr : ∀ j, r' j = if j = p then c else r j) : OdF F R r' (p + 1) := by
  intro i i1 i2
  have e : ∀ j, j < p → r j = r' j := fun j hj => by rw [hr, if_neg (by omega)]
  have eo : ∀ q, q ≤ p → onx F R r q = onx F R r' q := fun q hq => onx_congr (fun _ _ _ => rfl) (fun _ _ _ _ _ _ => Iff.rfl) (fun j _ j2 => e j (by omega))
  by_cases hi : i = p
  · subst hi
    rw [hr, if_pos rfl, ← eo i (Int.le_refl _)]
    exact ⟨hc, hc0⟩
  · have := h i i1 (by omega)
    rw [hr, if_neg hi, ← eo i (by omega)]
    exact this
theorem oin_ext {r r' : Int → Int} {p c : Int} (hp : 0 ≤ p) (hr : ∀ j, r' j = if j = p then c else r j) (x : Int) : oin r' (p + 1) x ↔ oin r p x ∨ x = c := by
  constructor
  · rintro ⟨i, i1, i2, i3⟩
    rw [hr] at i3
    by_cases e : i = p
    · rw [if_pos e] at i3; exact .inr i3.symm
    · rw [if_neg e] at i3; exact .inl ⟨i, i1, by omega, i3⟩
  · rintro (⟨i, i1, i2, i3⟩ | h)
    · exact ⟨i, i1, by omega, by rw [hr, if_neg (by omega)]; exact i3⟩
    · exact ⟨p, hp, by omega, by rw [hr, if_pos rfl, h]⟩
theorem ChS_ext {R : Int → Int → Prop} {r r' ln ln' : Int → Int} {p c z : Int} (hp : 0 ≤ p) (h : ChS R r ln p) (hr : ∀ j, r' j = if j = p then c else r j) (hl : ∀ j, ln' j = if j = c then z + 1 else ln j) (hn : ¬ oin r p c) (hz0 : 0 ≤ z) (hz : z = 0 ∨ ∃ q, 0 ≤ q ∧ q < p ∧ R c (r q) ∧ ln (r q) = z) (hz2 : ∀ q, 0 ≤ q → q < p → R c (r q) → ln (r q) ≤ z) : ChS R r' ln' (p + 1) := by
  have e : ∀ j, 0 ≤ j → j < p → r' j = r j ∧ ln' (r j) = ln (r j) := fun j h1 h2 => ⟨by rw [hr, if_neg (by omega)], by rw [hl, if_neg (fun e => hn ⟨j, h1, h2, e⟩)]⟩
  intro i i1 i2
  by_cases hi : i = p
  · subst hi
    have e1 : r' i = c := by rw [hr, if_pos rfl]
    have e2 : ln' c = z + 1 := by rw [hl, if_pos rfl]
    rw [e1, e2]
    refine ⟨by omega, ?_, ?_, fun q q1 q2 hR => ?_⟩
    · rcases hz with rfl | ⟨q, q1, q2, q3, q4⟩
      · omega
      · have := (h q q1 q2).2.1; omega
    · rcases hz with rfl | ⟨q, q1, q2, q3, q4⟩
      · exact .inl (by omega)
      · refine .inr ⟨q, q1, q2, ?_, ?_⟩
        · rw [(e q q1 q2).1]; exact q3
        · rw [(e q q1 q2).1, (e q q1 q2).2]; omega
    · rw [(e q q1 q2).1] at hR ⊢
      rw [(e q q1 q2).2]
      have := hz2 q q1 q2 hR
      omega
  · obtain ⟨a1, a2, a3, a4⟩ := h i i1 (by omega)
    obtain ⟨b1, b2⟩ := e i i1 (by omega)
    rw [b1, b2]
    refine ⟨a1, a2, ?_, fun q q1 q2 hR => ?_⟩
    · rcases a3 with a3 | ⟨q, q1, q2, q3, q4⟩
      · exact .inl a3
      · refine .inr ⟨q, q1, q2, ?_, ?_⟩
        · rw [(e q q1 (by omega)).1]; exact q3
        · rw [(e q q1 (by omega)).1, (e q q1 (by omega)).2]; exact q4
    · rw [(e q q1 (by omega)).1] at hR ⊢
      rw [(e q q1 (by omega)).2]
      exact a4 q q1 q2 hR
theorem l_cAll {m : Nat} {T : Int → List Int} {g0 : xGm} (hS : MdS S m) (hC : CeM g0 m T) : ∀ (n : Nat) (p : Int) (g : xGm), CaI g0 g m T p → p + n = 201 →
    ∃ g' p', CaI g0 g' m T p' ∧ onx (FmA (g0 (m + 1))) (RfA (g0 (m + 1)) T) (g' (m + 18)) p' < 0 ∧ ∀ Q, Wx X (d + 6) 271 9 [some (.ref m), some (.int (iI (onx (FmA (g0 (m + 1))) (RfA (g0 (m + 1)) T) (g (m + 18)) p)))] [] (hp S g) Q = Q (.inl none) (hp S g') := by
  have s0 := hS.1
  have s9 := MdS_9 hS
  have s18 := MdS_18 hS
  have s19 := MdS_19 hS
  have s20 := MdS_20 hS
  intro n
  induction n with
  | zero =>
    intro p g h hn
    have := OdF_rm h.1.2.2.2 h.2.1.1
    have := (ind_rng (FmA (g0 (m + 1))) 200 0).2
    omega
  | succ n ih =>
    intro p g h hn
    obtain ⟨c, ec⟩ : ∃ c, c = onx (FmA (g0 (m + 1))) (RfA (g0 (m + 1)) T) (g (m + 18)) p := ⟨_, rfl⟩
    rw [← ec]
    have hcr : c = -1 ∨ (0 ≤ c ∧ c < 200) := by
      rw [ec]
      rcases low_spec (p := fun c => cb (FmA (g0 (m + 1)) c = true ∧ ¬ oin (g (m + 18)) p c ∧ ∀ o, 0 ≤ o → o < 200 → FmA (g0 (m + 1)) o = true → RfA (g0 (m + 1)) T c o → oin (g (m + 18)) p o)) 200 0 with ⟨e, -⟩ | ⟨e1, e2, -⟩
      · exact .inl e
      · exact .inr ⟨e1, e2⟩
    have tc : ti c = c := ti_eq (by omega) (by omega)
    by_cases hneg : c < 0
    · refine ⟨g, p, h, by rw [← ec]; exact hneg, fun Q => ?_⟩
      rw [w_iload_n1 (pc' := 10) q271 d271_9 rfl]
      simp (config := { decide := true }) only [w_if_lt (tg := 75) (pc' := 13) q271 d271_10 (by decide) rfl, w_return q271 d271_75 m271.2.1, gs_off, gs_off0, gs_0off, gs_2, xN_0, xN_2, xN_3, xN_6, xN_7, xN_8, xN_9, xN_10, xN_11, xN_12, xN_13, xN_14, xN_15, xN_16, xN_17, xN_18, xN_19, xN_20, xN_21, xN_22, xN_23, xN_24, xN_25, xN_26, xN_27, xN_28, xN_29, xN_30, xN_31, xN_32, xN_33, xN_34, xN_35, xN_36, xN_37, xN_38, xN_39, xN_40, xN_41, xN_42, xN_43, xN_44, xN_45, xN_46, xN_47, xN_48, xN_49, xN_50, xN_51, xN_52, xN_53, xN_54, xN_55, ti_0, ti_1, ti_2, ti_3, ti_4, ti_5, ti_6, ti_7, ti_8, ti_9, ti_10, ti_16, ti_19, ti_20, ti_29, ti_30, ti_31, ti_32, ti_35, ti_36, ti_38, ti_39, ti_40, ti_41, ti_42, ti_43, ti_44, ti_45, ti_46, ti_47, ti_48, ti_49, ti_50, ti_51, ti_52, ti_53, ti_54, ti_55, ti_56, ti_57, ti_58, ti_59, ti_60, ti_61, ti_62, ti_63, ti_64, ti_65, ti_74, ti_77, ti_126, ti_200, ti_201, ti_202, ti_203, ti_204, ti_205, ti_210, ti_255, ti_256, ti_400, ti_512, ti_600, ti_601, ti_602, ti_1000, ti_1023, ti_1024, ti_2000, ti_10000, ti_12602, ti_999999, ti_m999999, ti_m1, ti_2000000, ti_3000000, xN_1, xN_4, xN_5, xN_60, xN_61, xN_64, xN_200, xN_800, xN_12000, xN_12602, eq_self, and_self, and_true, true_and, if_true, if_false, decide_true, Nat.reduceLeDiff, xc2_int, xc2_ref, xc2_ra, xc2_null, xc2_long, xc2_none, xisaT_ref, xisaT_ra, xisaT_null, xc1T_int, xc1T_ref, xc1T_ra, xc1T_null, xsum_nil, xsum_int, xsum_ref, xsum_ra, xsum_long, xsum_double, xsum_null, xfl_nil, xfl_int, xfl_ref, xfl_ra, xfl_null, xfl_long, xfl_double, List.length_cons, List.length_nil, tc, hneg, xfk, xfv, xak, xan, xcls, xsv', List.getElem?_cons_zero, List.getElem?_cons_succ, List.getD_cons_zero, List.getD_cons_succ, Option.getD_some, Option.isSome_some, if_true, if_pos, xcont, Option.toList_none, Option.toList_some, List.nil_append, List.cons_append]
    · obtain ⟨⟨f1, mr, h30, hp0⟩, ⟨hO, hCh⟩, ⟨hp1, hp2⟩, ⟨hb1, hb2, hb3⟩, hv⟩ := h
      obtain ⟨hc2, hF, hno, hall⟩ := onx_at (F := FmA (g0 (m + 1))) (R := RfA (g0 (m + 1)) T) (r := g (m + 18)) (n := p) (by rw [← ec]; omega)
      rw [← ec] at hc2 hF hno hall
      have hc : 0 ≤ c := by omega
      have eK : g (m + 1) = g0 (m + 1) := Fx_at f1 (by decide) (by decide)
      have hK2 : g0 (m + 1) c = 2 := of_decide_eq_true hF
      have hp200 : p < 200 := by
        have := OdF_rm (F := FmA (g0 (m + 1))) (R := RfA (g0 (m + 1)) T) (r := fun j => if j = p then c else g (m + 18) j) (n := p + 1) (by omega) (OdF_ext hp0 hO ec hc (fun j => rfl))
        have := (ind_rng (FmA (g0 (m + 1))) 200 0).2
        omega
      have tp : ti p = p := ti_eq (by omega) (by omega)
      -- the writes
      obtain ⟨G1, eG1⟩ : ∃ G1, G1 = gB (gs (gs (gs g (m + 18) p c) (m + 19) c p) m 30 (p + 1)) (m + 9) 0 c := ⟨_, rfl⟩
      have r1 : ∀ h, ¬ h = m → ¬ h = m + 9 → ¬ h = m + 18 → ¬ h = m + 19 → G1 h = g h := fun h a b e f => by rw [eG1, gB_row b, gs_row _ _ _ a, gs_row _ _ _ f, gs_row _ _ _ e]
      have a18 : ∀ j, G1 (m + 18) j = if j = p then c else g (m + 18) j := fun j => by rw [eG1, gB_row (by omega), gs_row _ _ _ (by omega), gs_row _ _ _ (by omega), gs_at]
      have a19 : ∀ j, G1 (m + 19) j = if j = c then p else g (m + 19) j := fun j => by rw [eG1, gB_row (by omega), gs_row _ _ _ (by omega), gs_at, gs_row _ _ _ (by omega)]
      have a9 : ∀ o, 0 ≤ o → o < 256 → bt (G1 (m + 9)) 0 o = (bt (g (m + 9)) 0 o || decide ((0 : Int) = 0 ∧ o = c)) := fun o o1 o2 => by
        rw [eG1, gB_bt hc (by omega) o1 o2, gs_row _ _ _ (by omega), gs_row _ _ _ (by omega), gs_row _ _ _ (by omega)]
      have f2 : FxC g G1 m := by rw [eG1]; exact Fx_trans (Fx_row (by decide) (by decide)) (Fx_trans (Fx_row (by decide) (by decide)) (Fx_trans (Fx_slot (by decide)) (Fx_row (by decide) (by decide))))
      have e1 : G1 (m + 1) = g0 (m + 1) := (r1 _ (by omega) (by omega) (by omega) (by omega)).trans eK
      have e8 : G1 (m + 8) = g (m + 8) := r1 _ (by omega) (by omega) (by omega) (by omega)
      have e20 : G1 (m + 20) = g (m + 20) := r1 _ (by omega) (by omega) (by omega) (by omega)
      have e12 : G1 (m + 12) = g (m + 12) := r1 _ (by omega) (by omega) (by omega) (by omega)
      have e13 : G1 (m + 13) = g (m + 13) := r1 _ (by omega) (by omega) (by omega) (by omega)
      obtain ⟨z, z1, z2, z3, z4, z5⟩ := m_chainOf (X := X) (d := d + 4) (g := G1) (c := c) hS (rg_off e1 hC.1) hc hc2 (rg_off e20 mr.2.2.2.2)
      rw [e8, e20, e1] at z3 z4
      have hin : ∀ q, 0 ≤ q → q < 200 → bt (g (m + 8)) c q = true → g0 (m + 1) q = 2 → oin (g (m + 18)) p q := fun q q1 q2 k1 k2 => hall q q1 q2 (decide_eq_true k2) ((hb1 c q hc hc2 q1 (by omega)).mp k1)
      have hz3 : z = 0 ∨ ∃ q, 0 ≤ q ∧ q < p ∧ RfA (g0 (m + 1)) T c (g (m + 18) q) ∧ g (m + 20) (g (m + 18) q) = z := by
        rcases z3 with e | ⟨q, q1, q2, q3, q4, q5⟩
        · exact .inl e
        · obtain ⟨i, i1, i2, i3⟩ := hin q q1 q2 q3 q4
          exact .inr ⟨i, i1, i2, by rw [i3]; exact (hb1 c q hc hc2 q1 (by omega)).mp q3, by rw [i3]; exact q5⟩
      have hz4 : ∀ q, 0 ≤ q → q < p → RfA (g0 (m + 1)) T c (g (m + 18) q) → g (m + 20) (g (m + 18) q) ≤ z := fun q q1 q2 hR => by
        obtain ⟨b1, b2, b3, -⟩ := OdF_at hO q1 q2
        exact z4 _ b1 b2 ((hb1 c _ hc hc2 b1 (by omega)).mpr hR) (of_decide_eq_true b3)
      have hzp : z ≤ p := by
        rcases hz3 with e | ⟨q, q1, q2, q3, q4⟩
        · omega
        · have := (hCh q q1 q2).2.1; omega
      obtain ⟨G2, eG2⟩ : ∃ G2, G2 = gs G1 (m + 20) c (z + 1) := ⟨_, rfl⟩
      have b20 : ∀ j, G2 (m + 20) j = if j = c then z + 1 else g (m + 20) j := fun j => by rw [eG2, gs_at, e20]
      have r2 : ∀ h, ¬ h = m + 20 → G2 h = G1 h := fun h hh => by rw [eG2, gs_row _ _ _ hh]
      have f3 : FxC g G2 m := by rw [eG2]; exact Fx_trans f2 (Fx_row (by decide) (by decide))
      have e1' : G2 (m + 1) = g0 (m + 1) := (r2 _ (by omega)).trans e1
      obtain ⟨hM, hV⟩ := (hC.2 c hc hc2).2.1 hK2
      obtain ⟨rr, nn, hT⟩ := evT_spec hV
      obtain ⟨g3, k1, k2, k3, k4⟩ := m_computes (X := X) (d := d) (g := G2) (c := c) (K := g0 (m + 1)) (Er := g (m + 13)) (R := g (m + 12)) hS ⟨e1', (r2 _ (by omega)).trans e13, (r2 _ (by omega)).trans e12, rg_off e1' hC.1⟩ (okE_M mr) ⟨hc, hc2⟩ hT (by unfold MrS at *; rw [e1']; exact hM)
      have f4 : FxC g g3 m := Fx_trans f3 (Fx_mono k1 (by decide) (by decide))
      have c18 : ∀ j, g3 (m + 18) j = if j = p then c else g (m + 18) j := fun j => by rw [Fx_at k1 (by decide) (by decide), r2 _ (by omega)]; exact a18 j
      have c19 : ∀ j, g3 (m + 19) j = if j = c then p else g (m + 19) j := fun j => by rw [Fx_at k1 (by decide) (by decide), r2 _ (by omega)]; exact a19 j
      have c20 : ∀ j, g3 (m + 20) j = if j = c then z + 1 else g (m + 20) j := fun j => by rw [Fx_at k1 (by decide) (by decide)]; exact b20 j
      have c8 : g3 (m + 8) = g (m + 8) := by rw [Fx_at k1 (by decide) (by decide), r2 _ (by omega), e8]
      have c10 : g3 (m + 10) = g (m + 10) := by rw [Fx_at k1 (by decide) (by decide), r2 _ (by omega), r1 _ (by omega) (by omega) (by omega) (by omega)]
      have c9 : g3 (m + 9) = G1 (m + 9) := by rw [Fx_at k1 (by decide) (by decide), r2 _ (by omega)]
      have c30 : g3 m 30 = p + 1 := by
        rw [Fx_sl k1 (by decide), r2 m (by omega), eG1, gB_row (by omega), gs_at, if_pos rfl]
      have hgd := evT_good (K := g0 (m + 1)) (okE_M mr) hV (by have := mks_len (T c); have := hM.2.1; omega)
      have hgr : (0 ≤ (evT (T c) (g0 (m + 1)) (g (m + 13)) (g (m + 12)) 0 0).1 ∧ (evT (T c) (g0 (m + 1)) (g (m + 13)) (g (m + 12)) 0 0).1 ≤ 5) ∧ (-999999999 ≤ (evT (T c) (g0 (m + 1)) (g (m + 13)) (g (m + 12)) 0 0).2 ∧ (evT (T c) (g0 (m + 1)) (g (m + 13)) (g (m + 12)) 0 0).2 ≤ 999999999) := by
        rcases hgd with h | h <;> omega
      have oe := oin_ext (c := c) hp0 c18
      have hnew : CaI g0 g3 m T (p + 1) := by
        refine ⟨⟨Fx_trans f1 f4, ⟨fun j => ?_, fun j => ?_, fun j => ?_, fun j => ?_, fun j => ?_⟩, c30, by omega⟩, ⟨OdF_ext hp0 hO ec hc c18, ChS_ext hp0 hCh c18 c20 hno z1 hz3 hz4⟩, ⟨fun i i1 i2 => ?_, fun x x1 x2 hx => ?_⟩, ⟨by rw [c8]; exact hb1, by rw [c10]; exact hb2, fun o o1 o2 => ?_⟩, fun x x1 x2 => ?_⟩
        · rw [k3]; split
          · exact hgr.2
          · exact mr.1 j
        · rw [k2]; split
          · exact hgr.1
          · exact mr.2.1 j
        · rw [c18]; split
          · omega
          · exact mr.2.2.1 j
        · rw [c19]; split
          · omega
          · exact mr.2.2.2.1 j
        · rw [c20]; split
          · omega
          · exact mr.2.2.2.2 j
        · rw [c18, c19]
          by_cases e : i = p
          · rw [if_pos e, if_pos rfl]; exact e.symm
          · rw [if_neg e, if_neg (fun e' => hno ⟨i, i1, by omega, e'⟩)]
            exact hp1 i i1 (by omega)
        · rw [oe] at hx
          have hx1 : ¬ x = c := fun e => hx (.inr e)
          rw [c19, c20, if_neg hx1, if_neg hx1]
          exact hp2 x x1 x2 (fun e => hx (.inl e))
        · rw [c9, a9 o o1 o2, oe, Bool.or_eq_true, decide_eq_true_eq, hb3 o o1 o2]
          constructor
          · rintro (h | ⟨-, h⟩)
            · exact .inl h
            · exact .inr h
          · rintro (h | h)
            · exact .inl h
            · exact .inr ⟨rfl, h⟩
        · obtain ⟨v1, v2, v3⟩ := hv x x1 x2
          refine ⟨fun hk => ?_, fun hk hx => ?_, fun hx => ?_⟩
          · have hx1 : ¬ x = c := fun e => hk (by rw [e]; exact hK2)
            rw [k2, k3, if_neg hx1, if_neg hx1]
            exact v1 hk
          · rw [oe] at hx
            have hx1 : ¬ x = c := fun e => hx (.inr e)
            rw [k2, k3, if_neg hx1, if_neg hx1]
            exact v2 hk (fun e => hx (.inl e))
          · rw [oe] at hx
            have hfar : ∀ y, 0 ≤ y → y < 200 → g0 (m + 1) y = 2 → (oin (g (m + 18)) p y ∨ y = c) → (∃ v : Ev, ∃ r n, Tr 0 r n (T y) v) → evT (T y) (g0 (m + 1)) (g3 (m + 13)) (g3 (m + 12)) 0 0 = evT (T y) (g0 (m + 1)) (g (m + 13)) (g (m + 12)) 0 0 := fun y y1 y2 hy hy2 hVy => by
              refine evT_loc hVy (fun o o1 o2 ho => ?_)
              have hoc : ¬ o = c := by
                rintro rfl
                rcases hy2 with ⟨i, i1, i2, i3⟩ | e
                · obtain ⟨-, -, -, -, b5⟩ := OdF_at hO i1 i2
                  rw [i3] at b5
                  obtain ⟨j, j1, j2, j3⟩ := b5 o o1 o2 hF ⟨hy, ho⟩
                  exact hno ⟨j, j1, by omega, j3⟩
                · subst e
                  exact hno (hall y o1 o2 hF ⟨hy, ho⟩)
              rw [k2, k3, if_neg hoc, if_neg hoc]
              exact ⟨rfl, rfl, rfl⟩
            have hx2 : g0 (m + 1) x = 2 := by
              rcases hx with ⟨i, i1, i2, i3⟩ | e
              · obtain ⟨-, -, b3, -, -⟩ := OdF_at hO i1 i2
                rw [i3] at b3
                exact of_decide_eq_true b3
              · rw [e]; exact hK2
            rw [hfar x x1 x2 hx2 hx ((hC.2 x x1 x2).2.1 hx2).2]
            by_cases e : x = c
            · subst e
              rw [k2, k3, if_pos rfl, if_pos rfl]
              exact ⟨rfl, rfl⟩
            · rw [k2, k3, if_neg e, if_neg e]
              exact v3 (hx.resolve_right e)
      obtain ⟨g', p', h1, h2, h3⟩ := ih (p + 1) g3 hnew (by omega)
      refine ⟨g', p', h1, h2, fun Q => ?_⟩
      have hnx := CaI_next (X := X) (d := d + 3) hS hC hnew
      have hpu := fun Q => m_puts (X := X) (d := d + 5) (g := gs (gs (gs g (m + 18) p c) (m + 19) c p) m 30 (p + 1)) (Q := Q) s9 hc hc2
      rw [← eG1] at hpu
      rw [eG2] at k4
      have e30 : gs (gs g (m + 18) p c) (m + 19) c p m 30 = p := by rw [gs_row _ _ _ (by omega), gs_row _ _ _ (by omega)]; exact h30
      rw [← h3 Q, w_iload_n1 (pc' := 10) q271 d271_9 rfl]
      have hge : 0 ≤ c := hc
      simp (config := { decide := true }) only [w_if_lt (tg := 75) (pc' := 13) q271 d271_10 (by decide) rfl, w_aload_n0 (pc' := 14) q271 d271_13 rfl, w_getV (pc' := 17) q271 d271_14 rfl f271_62, w_aload_n0 (pc' := 18) q271 d271_17 rfl, w_getI (pc' := 21) q271 d271_18 rfl f271_237, w_iload_n1 (pc' := 22) q271 d271_21 rfl, w_iastore (pc' := 23) q271 d271_22 rfl, w_aload_n0 (pc' := 24) q271 d271_23 rfl, w_getV (pc' := 27) q271 d271_24 rfl f271_65, w_iload_n1 (pc' := 28) q271 d271_27 rfl, w_aload_n0 (pc' := 29) q271 d271_28 rfl, w_getI (pc' := 32) q271 d271_29 rfl f271_237, w_iastore (pc' := 33) q271 d271_32 rfl, w_aload_n0 (pc' := 34) q271 d271_33 rfl, w_dup (pc' := 35) q271 d271_34 rfl, w_getI (pc' := 38) q271 d271_35 rfl f271_237, w_iconst (pc' := 39) q271 d271_38 rfl, w_iadd (pc' := 40) q271 d271_39 rfl, w_putI (pc' := 43) q271 d271_40 rfl f271_237 rfl (by decide +kernel), w_aload_n0 (pc' := 44) q271 d271_43 rfl, w_getV (pc' := 47) q271 d271_44 rfl f271_35, w_iload_n1 (pc' := 48) q271 d271_47 rfl, w_invs2 (pc' := 51) q271 d271_48 rfl (by decide +kernel) k271_243_99 m229.1, w_aload_n0 (pc' := 52) q271 d271_51 rfl, w_getV (pc' := 55) q271 d271_52 rfl f271_68, w_iload_n1 (pc' := 56) q271 d271_55 rfl, w_aload_n0 (pc' := 57) q271 d271_56 rfl, w_iload_n1 (pc' := 58) q271 d271_57 rfl, w_invv1 (ci := 11) (pc' := 61) q271 d271_58 rfl n271_251 k271_251_11 m274.1, w_iastore (pc' := 62) q271 d271_61 rfl, w_aload_n0 (pc' := 63) q271 d271_62 rfl, w_iload_n1 (pc' := 64) q271 d271_63 rfl, w_invv1 (ci := 11) (pc' := 67) q271 d271_64 rfl n271_254 k271_254_11 m276.1, w_aload_n0 (pc' := 68) q271 d271_67 rfl, w_invv0 (ci := 11) (pc' := 71) q271 d271_68 rfl n271_247 k271_247_11 m272.1, w_istore_n1 (pc' := 72) q271 d271_71 rfl, w_goto (tg := 9) q271 d271_72 (by decide), gs_off, gs_off0, gs_0off, gs_2, xN_0, xN_2, xN_3, xN_6, xN_7, xN_8, xN_9, xN_10, xN_11, xN_12, xN_13, xN_14, xN_15, xN_16, xN_17, xN_18, xN_19, xN_20, xN_21, xN_22, xN_23, xN_24, xN_25, xN_26, xN_27, xN_28, xN_29, xN_30, xN_31, xN_32, xN_33, xN_34, xN_35, xN_36, xN_37, xN_38, xN_39, xN_40, xN_41, xN_42, xN_43, xN_44, xN_45, xN_46, xN_47, xN_48, xN_49, xN_50, xN_51, xN_52, xN_53, xN_54, xN_55, ti_0, ti_1, ti_2, ti_3, ti_4, ti_5, ti_6, ti_7, ti_8, ti_9, ti_10, ti_16, ti_19, ti_20, ti_29, ti_30, ti_31, ti_32, ti_35, ti_36, ti_38, ti_39, ti_40, ti_41, ti_42, ti_43, ti_44, ti_45, ti_46, ti_47, ti_48, ti_49, ti_50, ti_51, ti_52, ti_53, ti_54, ti_55, ti_56, ti_57, ti_58, ti_59, ti_60, ti_61, ti_62, ti_63, ti_64, ti_65, ti_74, ti_77, ti_126, ti_200, ti_201, ti_202, ti_203, ti_204, ti_205, ti_210, ti_255, ti_256, ti_400, ti_512, ti_600, ti_601, ti_602, ti_1000, ti_1023, ti_1024, ti_2000, ti_10000, ti_12602, ti_999999, ti_m999999, ti_m1, ti_2000000, ti_3000000, xN_1, xN_4, xN_5, xN_60, xN_61, xN_64, xN_200, xN_800, xN_12000, xN_12602, eq_self, and_self, and_true, true_and, if_true, if_false, decide_true, Nat.reduceLeDiff, xc2_int, xc2_ref, xc2_ra, xc2_null, xc2_long, xc2_none, xisaT_ref, xisaT_ra, xisaT_null, xc1T_int, xc1T_ref, xc1T_ra, xc1T_null, xsum_nil, xsum_int, xsum_ref, xsum_ra, xsum_long, xsum_double, xsum_null, xfl_nil, xfl_int, xfl_ref, xfl_ra, xfl_null, xfl_long, xfl_double, List.length_cons, List.length_nil, s0, s9, s18, s19, s20, tc, hneg, hc, hc2, h30, tp, hp0, hp200, gs_0off, gs_off0, e30, hpu, z5, k4, hnx, xfk, xfv, xak, xan, xcls, xsv', List.getElem?_cons_zero, List.getElem?_cons_succ, List.getD_cons_zero, List.getD_cons_succ, Option.getD_some, Option.isSome_some, if_true, if_pos, xcont, Option.toList_none, Option.toList_some, List.nil_append, List.cons_append]
end
