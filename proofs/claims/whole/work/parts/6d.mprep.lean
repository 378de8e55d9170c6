/-! The model: prepares -/
section
/-- the cells of the model: their kinds, words, numbers -/
def CeM (g : xGm) (m : Nat) (T : Int → List Int) : Prop := GrS g m ∧ ∀ c, 0 ≤ c → c < 200 → (g (m + 1) c = 0 ∨ g (m + 1) c = 1 ∨ g (m + 1) c = 2) ∧ (g (m + 1) c = 2 → MrS g m c (mks (T c)) ∧ ∃ v : Ev, ∃ r n, Tr 0 r n (T c) v) ∧ (g (m + 1) c = 1 → -999999 ≤ g (m + 1) (200 + c) ∧ g (m + 1) (200 + c) ≤ 999999)
theorem CeM_congr {g g' : xGm} {m : Nat} {T : Int → List Int} (h : g' (m + 1) = g (m + 1)) (hC : CeM g m T) : CeM g' m T := by
  unfold CeM GrS MrS rg at *
  rw [h]
  exact hC
def nvM (g : xGm) (m : Nat) (c : Int) : Int := if g (m + 1) c = 1 then g (m + 1) (200 + c) else 0
def nfM (g : xGm) (m : Nat) (c : Int) : Int := if g (m + 1) c = 2 then 5 else 0
/-- the rows of the model are in their ranges -/
def MoR (g : xGm) (m : Nat) : Prop := rg g (m + 12) (-999999999) 999999999 ∧ rg g (m + 13) 0 5 ∧ rg g (m + 18) 0 199 ∧ rg g (m + 19) (-1) 199 ∧ rg g (m + 20) 0 200
theorem rg_off {g g' : xGm} {h : Nat} {lo hi : Int} (e : g' h = g h) (hr : rg g h lo hi) : rg g' h lo hi := by unfold rg at *; rw [e]; exact hr
variable {X : xX} {S : xLm} {g : xGm} {d : Nat} {w : xH} {Q : xO → xH → Prop}
theorem l_prep0 {m : Nat} (hS : MdS S m) : ∀ (n : Nat) (p : Int) (g : xGm), p + n = 4 → 0 ≤ p →
    ∃ g', (∀ h, ¬ h = m + 9 → ¬ h = m + 10 → g' h = g h) ∧ (∀ j, p ≤ j → j < 4 → g' (m + 9) j = 0 ∧ g' (m + 10) j = 0) ∧ (∀ j, j < p → g' (m + 9) j = g (m + 9) j ∧ g' (m + 10) j = g (m + 10) j) ∧ ∀ Q, Wx X d 218 7 [some (.ref m), some (.int (iI p))] [] (hp S g) Q = Wx X d 218 32 [some (.ref m), some (.int (iI 4))] [] (hp S g') Q := by
  have s0 := hS.1
  have s9 := MdS_9 hS
  have s10 := MdS_10 hS
  intro n
  induction n with
  | zero =>
    intro p g hn hp0
    obtain rfl : p = 4 := by omega
    refine ⟨g, fun _ _ _ => rfl, fun j h1 h2 => by omega, fun _ _ => ⟨rfl, rfl⟩, fun Q => ?_⟩
    rw [w_iload_n1 (pc' := 8) q218 d218_7 rfl]
    simp (config := { decide := true }) only [w_iconst (pc' := 9) q218 d218_8 rfl, w_icmp_ge (tg := 32) (pc' := 12) q218 d218_9 (by decide) rfl, gs_off, gs_off0, gs_0off, gs_2, xN_0, xN_2, xN_3, xN_6, xN_7, xN_8, xN_9, xN_10, xN_11, xN_12, xN_13, xN_14, xN_15, xN_16, xN_17, xN_18, xN_19, xN_20, xN_21, xN_22, xN_23, xN_24, xN_25, xN_26, xN_27, xN_28, xN_29, xN_30, xN_31, xN_32, xN_33, xN_34, xN_35, xN_36, xN_37, xN_38, xN_39, xN_40, xN_41, xN_42, xN_43, xN_44, xN_45, xN_46, xN_47, xN_48, xN_49, xN_50, xN_51, xN_52, xN_53, xN_54, xN_55, ti_0, ti_1, ti_2, ti_3, ti_4, ti_5, ti_6, ti_7, ti_8, ti_9, ti_10, ti_16, ti_19, ti_20, ti_29, ti_30, ti_31, ti_32, ti_35, ti_36, ti_38, ti_39, ti_40, ti_41, ti_42, ti_43, ti_44, ti_45, ti_46, ti_47, ti_48, ti_49, ti_50, ti_51, ti_52, ti_53, ti_54, ti_55, ti_56, ti_57, ti_58, ti_59, ti_60, ti_61, ti_62, ti_63, ti_64, ti_65, ti_74, ti_77, ti_126, ti_200, ti_201, ti_202, ti_203, ti_204, ti_205, ti_210, ti_255, ti_256, ti_400, ti_512, ti_600, ti_601, ti_602, ti_1000, ti_1023, ti_1024, ti_2000, ti_10000, ti_12602, ti_999999, ti_m999999, ti_m1, ti_2000000, ti_3000000, xN_1, xN_4, xN_5, xN_60, xN_61, xN_64, xN_200, xN_800, xN_12000, xN_12602, eq_self, and_self, and_true, true_and, if_true, if_false, decide_true, Nat.reduceLeDiff, xc2_int, xc2_ref, xc2_ra, xc2_null, xc2_long, xc2_none, xisaT_ref, xisaT_ra, xisaT_null, xc1T_int, xc1T_ref, xc1T_ra, xc1T_null, xsum_nil, xsum_int, xsum_ref, xsum_ra, xsum_long, xsum_double, xsum_null, xfl_nil, xfl_int, xfl_ref, xfl_ra, xfl_null, xfl_long, xfl_double, List.length_cons, List.length_nil, xfk, xfv, xak, xan, xcls, xsv', List.getElem?_cons_zero, List.getElem?_cons_succ, List.getD_cons_zero, List.getD_cons_succ, Option.getD_some, Option.isSome_some, if_true, if_pos, xcont, Option.toList_none, Option.toList_some, List.nil_append, List.cons_append]
  | succ n ih =>
    intro p g hn hp0
    have tp : ti p = p := ti_eq (by omega) (by omega)
    have hlt : ¬ 4 ≤ p := by omega
    have b2 : p < 4 := by omega
    obtain ⟨g', h1, h2, h3, h4⟩ := ih (p + 1) (gs (gs g (m + 9) p 0) (m + 10) p 0) (by omega) (by omega)
    refine ⟨g', fun h a b => ?_, fun j j1 j2 => ?_, fun j j1 => ?_, fun Q => ?_⟩
    · rw [h1 h a b, gs_row _ _ _ b, gs_row _ _ _ a]
    · by_cases e : j = p
      · subst e
        obtain ⟨a, b⟩ := h3 j (by omega)
        rw [a, b, gs_row _ _ _ (by omega), gs_at, if_pos rfl, gs_at, if_pos rfl]
        exact ⟨rfl, rfl⟩
      · exact h2 j (by omega) j2
    · obtain ⟨a, b⟩ := h3 j (by omega)
      rw [a, b, gs_row _ _ _ (by omega), gs_at, if_neg (by omega), gs_at, if_neg (by omega), gs_row _ _ _ (by omega)]
      exact ⟨rfl, rfl⟩
    · rw [← h4 Q, w_iload_n1 (pc' := 8) q218 d218_7 rfl]
      simp (config := { decide := true }) only [w_iconst (pc' := 9) q218 d218_8 rfl, w_icmp_ge (tg := 32) (pc' := 12) q218 d218_9 (by decide) rfl, w_aload_n0 (pc' := 13) q218 d218_12 rfl, w_getV (pc' := 16) q218 d218_13 rfl f218_35, w_iload_n1 (pc' := 17) q218 d218_16 rfl, w_lconst0 (pc' := 18) q218 d218_17 rfl, w_lastore (pc' := 19) q218 d218_18 rfl, w_aload_n0 (pc' := 20) q218 d218_19 rfl, w_getV (pc' := 23) q218 d218_20 rfl f218_38, w_iload_n1 (pc' := 24) q218 d218_23 rfl, w_lconst0 (pc' := 25) q218 d218_24 rfl, w_lastore (pc' := 26) q218 d218_25 rfl, w_iinc1 (z := (1)) (pc' := 29) q218 d218_26 rfl, w_goto (tg := 7) q218 d218_29 (by decide), gs_off, gs_off0, gs_0off, gs_2, xN_0, xN_2, xN_3, xN_6, xN_7, xN_8, xN_9, xN_10, xN_11, xN_12, xN_13, xN_14, xN_15, xN_16, xN_17, xN_18, xN_19, xN_20, xN_21, xN_22, xN_23, xN_24, xN_25, xN_26, xN_27, xN_28, xN_29, xN_30, xN_31, xN_32, xN_33, xN_34, xN_35, xN_36, xN_37, xN_38, xN_39, xN_40, xN_41, xN_42, xN_43, xN_44, xN_45, xN_46, xN_47, xN_48, xN_49, xN_50, xN_51, xN_52, xN_53, xN_54, xN_55, ti_0, ti_1, ti_2, ti_3, ti_4, ti_5, ti_6, ti_7, ti_8, ti_9, ti_10, ti_16, ti_19, ti_20, ti_29, ti_30, ti_31, ti_32, ti_35, ti_36, ti_38, ti_39, ti_40, ti_41, ti_42, ti_43, ti_44, ti_45, ti_46, ti_47, ti_48, ti_49, ti_50, ti_51, ti_52, ti_53, ti_54, ti_55, ti_56, ti_57, ti_58, ti_59, ti_60, ti_61, ti_62, ti_63, ti_64, ti_65, ti_74, ti_77, ti_126, ti_200, ti_201, ti_202, ti_203, ti_204, ti_205, ti_210, ti_255, ti_256, ti_400, ti_512, ti_600, ti_601, ti_602, ti_1000, ti_1023, ti_1024, ti_2000, ti_10000, ti_12602, ti_999999, ti_m999999, ti_m1, ti_2000000, ti_3000000, xN_1, xN_4, xN_5, xN_60, xN_61, xN_64, xN_200, xN_800, xN_12000, xN_12602, eq_self, and_self, and_true, true_and, if_true, if_false, decide_true, Nat.reduceLeDiff, xc2_int, xc2_ref, xc2_ra, xc2_null, xc2_long, xc2_none, xisaT_ref, xisaT_ra, xisaT_null, xc1T_int, xc1T_ref, xc1T_ra, xc1T_null, xsum_nil, xsum_int, xsum_ref, xsum_ra, xsum_long, xsum_double, xsum_null, xfl_nil, xfl_int, xfl_ref, xfl_ra, xfl_null, xfl_long, xfl_double, List.length_cons, List.length_nil, s0, s9, s10, tp, hlt, hp0, b2, xfk, xfv, xak, xan, xcls, xsv', List.getElem?_cons_zero, List.getElem?_cons_succ, List.getD_cons_zero, List.getD_cons_succ, Option.getD_some, Option.isSome_some, if_true, if_pos, xcont, Option.toList_none, Option.toList_some, List.nil_append, List.cons_append]
/-- prepared so far -/
def PrI (g0 g : xGm) (m : Nat) (T : Int → List Int) (c : Int) : Prop :=
  Fx [8, 10, 12, 13, 19, 20] [] g0 g m ∧ MoR g m ∧ (∀ j, 0 ≤ j → j < c → g (m + 19) j = -1 ∧ g (m + 20) j = 0 ∧ g (m + 12) j = nvM g0 m j ∧ g (m + 13) j = nfM g0 m j) ∧
  (∀ j o, 0 ≤ j → j < c → 0 ≤ o → o < 256 → (bt (g (m + 8)) j o = true ↔ RfA (g0 (m + 1)) T j o)) ∧ ∀ o, 0 ≤ o → o < 256 → (bt (g (m + 10)) 0 o = true ↔ o < c ∧ g0 (m + 1) o = 2)
theorem l_prep {m : Nat} {T : Int → List Int} (hS : MdS S m) {g0 : xGm} (hC : CeM g0 m T) : ∀ (n : Nat) (c : Int) (g : xGm), PrI g0 g m T c → c + n = 200 → 0 ≤ c →
    ∃ g', PrI g0 g' m T 200 ∧ ∀ Q, Wx X (d + 3) 218 34 [some (.ref m), some (.int (iI c))] [] (hp S g) Q = Q (.inl none) (hp S g') := by
  have s0 := hS.1
  have s1 := MdS_1 hS
  have s10 := MdS_10 hS
  have s12 := MdS_12 hS
  have s13 := MdS_13 hS
  have s19 := MdS_19 hS
  have s20 := MdS_20 hS
  intro n
  induction n with
  | zero =>
    intro c g hP hn hc
    obtain rfl : c = 200 := by omega
    refine ⟨g, hP, fun Q => ?_⟩
    rw [w_iload_n1 (pc' := 35) q218 d218_34 rfl]
    simp (config := { decide := true }) only [w_sipush (z' := (200)) (pc' := 38) q218 d218_35 rfl (by decide), w_icmp_ge (tg := 132) (pc' := 41) q218 d218_38 (by decide) rfl, w_return q218 d218_132 m218.2.1, gs_off, gs_off0, gs_0off, gs_2, xN_0, xN_2, xN_3, xN_6, xN_7, xN_8, xN_9, xN_10, xN_11, xN_12, xN_13, xN_14, xN_15, xN_16, xN_17, xN_18, xN_19, xN_20, xN_21, xN_22, xN_23, xN_24, xN_25, xN_26, xN_27, xN_28, xN_29, xN_30, xN_31, xN_32, xN_33, xN_34, xN_35, xN_36, xN_37, xN_38, xN_39, xN_40, xN_41, xN_42, xN_43, xN_44, xN_45, xN_46, xN_47, xN_48, xN_49, xN_50, xN_51, xN_52, xN_53, xN_54, xN_55, ti_0, ti_1, ti_2, ti_3, ti_4, ti_5, ti_6, ti_7, ti_8, ti_9, ti_10, ti_16, ti_19, ti_20, ti_29, ti_30, ti_31, ti_32, ti_35, ti_36, ti_38, ti_39, ti_40, ti_41, ti_42, ti_43, ti_44, ti_45, ti_46, ti_47, ti_48, ti_49, ti_50, ti_51, ti_52, ti_53, ti_54, ti_55, ti_56, ti_57, ti_58, ti_59, ti_60, ti_61, ti_62, ti_63, ti_64, ti_65, ti_74, ti_77, ti_126, ti_200, ti_201, ti_202, ti_203, ti_204, ti_205, ti_210, ti_255, ti_256, ti_400, ti_512, ti_600, ti_601, ti_602, ti_1000, ti_1023, ti_1024, ti_2000, ti_10000, ti_12602, ti_999999, ti_m999999, ti_m1, ti_2000000, ti_3000000, xN_1, xN_4, xN_5, xN_60, xN_61, xN_64, xN_200, xN_800, xN_12000, xN_12602, eq_self, and_self, and_true, true_and, if_true, if_false, decide_true, Nat.reduceLeDiff, xc2_int, xc2_ref, xc2_ra, xc2_null, xc2_long, xc2_none, xisaT_ref, xisaT_ra, xisaT_null, xc1T_int, xc1T_ref, xc1T_ra, xc1T_null, xsum_nil, xsum_int, xsum_ref, xsum_ra, xsum_long, xsum_double, xsum_null, xfl_nil, xfl_int, xfl_ref, xfl_ra, xfl_null, xfl_long, xfl_double, List.length_cons, List.length_nil, xfk, xfv, xak, xan, xcls, xsv', List.getElem?_cons_zero, List.getElem?_cons_succ, List.getD_cons_zero, List.getD_cons_succ, Option.getD_some, Option.isSome_some, if_true, if_pos, xcont, Option.toList_none, Option.toList_some, List.nil_append, List.cons_append]
  | succ n ih =>
    intro c g hP hn hc
    have tc : ti c = c := ti_eq (by omega) (by omega)
    have hlt : ¬ 200 ≤ c := by omega
    have hc2 : c < 200 := by omega
    have t200c : ti (200 + c) = 200 + c := ti_eq (by omega) (by omega)
    have b200 : 0 ≤ 200 + c := by omega
    have b200' : 200 + c < 12602 := by omega
    have t5 : ti 5 = 5 := by decide
    obtain ⟨p1, p2, p3, p4, p5⟩ := hP
    have eK : g (m + 1) = g0 (m + 1) := Fx_at p1 (by decide) (by decide)
    obtain ⟨hG, hcs⟩ := hC
    obtain ⟨k1, k2, k3⟩ := hcs c hc hc2
    have hik : ∀ (k : Int) (G : xGm), 0 ≤ k ∧ k ≤ 9 → G (m + 1) = g0 (m + 1) → ∀ Q, Cw X (d + 2) 219 [.ref m, .int (iI c), .int (iI k)] (hp S G) Q = Q (.inl (some (.int (iI (if g0 (m + 1) c = k then 1 else 0))))) (hp S G) := fun k G hk e Q => by
      rw [← e]
      exact m_isKind (X := X) (d := d + 2) (k := k) (Q := Q) hS (rg_off e hG) ⟨hc, hc2⟩ hk
    obtain ⟨nv, env⟩ : ∃ nv, nv = nvM g0 m c := ⟨_, rfl⟩
    obtain ⟨nf, enf⟩ : ∃ nf, nf = nfM g0 m c := ⟨_, rfl⟩
    have hnv : -999999999 ≤ nv ∧ nv ≤ 999999999 := by
      rw [env]; unfold nvM
      split
      · next e => have := k3 e; omega
      · omega
    have hnf : 0 ≤ nf ∧ nf ≤ 5 := by rw [enf]; unfold nfM; split <;> omega
    obtain ⟨G1, eG1⟩ : ∃ G1, G1 = gs (gs (gs (gs g (m + 19) c (-1)) (m + 20) c 0) (m + 12) c nv) (m + 13) c nf := ⟨_, rfl⟩
    have eK1 : G1 (m + 1) = g0 (m + 1) := by rw [eG1, gs_row _ _ _ (by omega), gs_row _ _ _ (by omega), gs_row _ _ _ (by omega), gs_row _ _ _ (by omega), eK]
    have f1 : Fx [8, 10, 12, 13, 19, 20] [] g G1 m := by rw [eG1]; exact Fx_trans (Fx_row (by decide) (by decide)) (Fx_trans (Fx_row (by decide) (by decide)) (Fx_trans (Fx_row (by decide) (by decide)) (Fx_row (by decide) (by decide))))
    obtain ⟨g2, q1, q2, q3⟩ := m_finds (X := X) (d := d) (g := G1) (c := c) (L := T c) hS hc hc2 (rg_off eK1 hG) (fun h => by
      rw [eK1] at h
      obtain ⟨h1, v, r, nn, h2⟩ := k2 h
      refine ⟨?_, Tr_okG _ _ _ _ _ h2⟩
      unfold MrS at *
      rw [eK1]; exact h1)
    have f2 : Fx [8, 10, 12, 13, 19, 20] [] g g2 m := Fx_trans f1 ⟨fun h _ hh => q1 h (hh 8 (by decide)), fun i _ => by rw [q1 m (by omega)]⟩
    obtain ⟨g3, eg3⟩ : ∃ g3, g3 = if g0 (m + 1) c = 2 then gB g2 (m + 10) 0 c else g2 := ⟨_, rfl⟩
    have f3 : Fx [8, 10, 12, 13, 19, 20] [] g g3 m := by
      rw [eg3]
      split
      · exact Fx_trans f2 (Fx_row (by decide) (by decide))
      · exact f2
    have r3 : ∀ h, ¬ h = m + 10 → g3 h = g2 h := fun h hh => by
      rw [eg3]
      split
      · exact gB_row hh
      · rfl
    have n3 : ∀ h, ¬ h = m + 10 → ¬ h = m + 8 → g3 h = G1 h := fun h a b => (r3 h a).trans (q1 h b)
    have e19 : ∀ j, g3 (m + 19) j = if j = c then -1 else g (m + 19) j := fun j => by
      rw [n3 _ (by omega) (by omega), eG1, gs_row _ _ _ (by omega), gs_row _ _ _ (by omega), gs_row _ _ _ (by omega), gs_at]
    have e20 : ∀ j, g3 (m + 20) j = if j = c then 0 else g (m + 20) j := fun j => by
      rw [n3 _ (by omega) (by omega), eG1, gs_row _ _ _ (by omega), gs_row _ _ _ (by omega), gs_at, gs_row _ _ _ (by omega)]
    have e12 : ∀ j, g3 (m + 12) j = if j = c then nv else g (m + 12) j := fun j => by
      rw [n3 _ (by omega) (by omega), eG1, gs_row _ _ _ (by omega), gs_at, gs_row _ _ _ (by omega), gs_row _ _ _ (by omega)]
    have e13 : ∀ j, g3 (m + 13) j = if j = c then nf else g (m + 13) j := fun j => by
      rw [n3 _ (by omega) (by omega), eG1, gs_at, gs_row _ _ _ (by omega), gs_row _ _ _ (by omega), gs_row _ _ _ (by omega)]
    have e18 : g3 (m + 18) = g (m + 18) := Fx_at f3 (by decide) (by decide)
    have hN : PrI g0 g3 m T (c + 1) := by
      obtain ⟨r1, r2, r4, r5, r6⟩ := p2
      refine ⟨Fx_trans p1 f3, ⟨fun j => ?_, fun j => ?_, rg_off e18 r4, fun j => ?_, fun j => ?_⟩, fun j j1 j2 => ?_, fun j o j1 j2 o1 o2 => ?_, fun o o1 o2 => ?_⟩
      · rw [e12]; split
        · exact hnv
        · exact r1 j
      · rw [e13]; split
        · exact hnf
        · exact r2 j
      · rw [e19]; split
        · decide
        · exact r5 j
      · rw [e20]; split
        · decide
        · exact r6 j
      · rw [e19, e20, e12, e13]
        by_cases e : j = c
        · subst e
          rw [if_pos rfl, if_pos rfl, if_pos rfl, if_pos rfl]
          exact ⟨rfl, rfl, env, enf⟩
        · rw [if_neg e, if_neg e, if_neg e, if_neg e]
          exact p3 j j1 (by omega)
      · rw [r3 _ (by omega), q2 j o o1 o2]
        by_cases e : j = c
        · subst e
          rw [if_pos rfl, eK1]
          exact Iff.rfl
        · rw [if_neg e, eG1, gs_row _ _ _ (by omega), gs_row _ _ _ (by omega), gs_row _ _ _ (by omega), gs_row _ _ _ (by omega)]
          exact p4 j o j1 (by omega) o1 o2
      · have e10 : g2 (m + 10) = g (m + 10) := by rw [q1 _ (by omega), eG1, gs_row _ _ _ (by omega), gs_row _ _ _ (by omega), gs_row _ _ _ (by omega), gs_row _ _ _ (by omega)]
        rw [eg3]
        by_cases e : g0 (m + 1) c = 2
        · rw [if_pos e, gB_bt hc (by omega) o1 o2, e10, Bool.or_eq_true, decide_eq_true_eq, p5 o o1 o2]
          constructor
          · rintro (⟨h1, h2⟩ | ⟨-, h2⟩)
            · exact ⟨by omega, h2⟩
            · exact ⟨by omega, by rw [h2]; exact e⟩
          · rintro ⟨h1, h2⟩
            by_cases h3 : o = c
            · exact .inr ⟨rfl, h3⟩
            · exact .inl ⟨by omega, h2⟩
        · rw [if_neg e, e10, p5 o o1 o2]
          constructor
          · rintro ⟨h1, h2⟩; exact ⟨by omega, h2⟩
          · rintro ⟨h1, h2⟩
            refine ⟨?_, h2⟩
            rcases Int.lt_or_eq_of_le (show o ≤ c by omega) with h3 | h3
            · exact h3
            · subst h3; exact absurd h2 e
    obtain ⟨g', h1, h2⟩ := ih (c + 1) g3 hN (by omega) (by omega)
    refine ⟨g', h1, fun Q => ?_⟩
    rw [← h2 Q, w_iload_n1 (pc' := 35) q218 d218_34 rfl]
    have k1' := fun G => hik 1 G
    have k2' := fun G => hik 2 G
    have eK2 : g2 (m + 1) = g0 (m + 1) := by rw [q1 _ (by omega), eK1]
    rw [eG1] at q3
    rcases k1 with e | e | e
    · rw [if_neg (by omega)] at eg3
      rw [eg3]
      have v1 : nv = 0 := by rw [env]; unfold nvM; rw [if_neg (by omega)]
      have v2 : nf = 0 := by rw [enf]; unfold nfM; rw [if_neg (by omega)]
      rw [v1, v2] at q3
      rw [if_neg (by omega)] at k1' k2'
      simp (config := { decide := true }) only [w_sipush (z' := (200)) (pc' := 38) q218 d218_35 rfl (by decide), w_icmp_ge (tg := 132) (pc' := 41) q218 d218_38 (by decide) rfl, w_aload_n0 (pc' := 42) q218 d218_41 rfl, w_getV (pc' := 45) q218 d218_42 rfl f218_65, w_iload_n1 (pc' := 46) q218 d218_45 rfl, w_iconst (pc' := 47) q218 d218_46 rfl, w_iastore (pc' := 48) q218 d218_47 rfl, w_aload_n0 (pc' := 49) q218 d218_48 rfl, w_getV (pc' := 52) q218 d218_49 rfl f218_68, w_iload_n1 (pc' := 53) q218 d218_52 rfl, w_iconst (pc' := 54) q218 d218_53 rfl, w_iastore (pc' := 55) q218 d218_54 rfl, w_aload_n0 (pc' := 56) q218 d218_55 rfl, w_getV (pc' := 59) q218 d218_56 rfl f218_44, w_iload_n1 (pc' := 60) q218 d218_59 rfl, w_aload_n0 (pc' := 61) q218 d218_60 rfl, w_iload_n1 (pc' := 62) q218 d218_61 rfl, w_iconst (pc' := 63) q218 d218_62 rfl, w_invv2 (ci := 11) (pc' := 66) q218 d218_63 rfl n218_133 k218_133_11 m219.1, w_if_eq (tg := 82) (pc' := 69) q218 d218_66 (by decide) rfl, w_aload_n0 (pc' := 70) q218 d218_69 rfl, w_getV (pc' := 73) q218 d218_70 rfl f218_7, w_sipush (z' := (200)) (pc' := 76) q218 d218_73 rfl (by decide), w_iload_n1 (pc' := 77) q218 d218_76 rfl, w_iadd (pc' := 78) q218 d218_77 rfl, w_iaload (pc' := 79) q218 d218_78 rfl, w_goto (tg := 83) q218 d218_79 (by decide), w_iconst (pc' := 83) q218 d218_82 rfl, w_iastore (pc' := 84) q218 d218_83 rfl, w_aload_n0 (pc' := 85) q218 d218_84 rfl, w_getV (pc' := 88) q218 d218_85 rfl f218_47, w_iload_n1 (pc' := 89) q218 d218_88 rfl, w_aload_n0 (pc' := 90) q218 d218_89 rfl, w_iload_n1 (pc' := 91) q218 d218_90 rfl, w_iconst (pc' := 92) q218 d218_91 rfl, w_invv2 (ci := 11) (pc' := 95) q218 d218_92 rfl n218_133 k218_133_11 m219.1, w_if_eq (tg := 102) (pc' := 98) q218 d218_95 (by decide) rfl, w_iconst (pc' := 99) q218 d218_98 rfl, w_goto (tg := 103) q218 d218_99 (by decide), w_iconst (pc' := 103) q218 d218_102 rfl, w_iastore (pc' := 104) q218 d218_103 rfl, w_aload_n0 (pc' := 105) q218 d218_104 rfl, w_iload_n1 (pc' := 106) q218 d218_105 rfl, w_invv1 (ci := 11) (pc' := 109) q218 d218_106 rfl n218_240 k218_240_11 m220.1, w_aload_n0 (pc' := 110) q218 d218_109 rfl, w_iload_n1 (pc' := 111) q218 d218_110 rfl, w_iconst (pc' := 112) q218 d218_111 rfl, w_invv2 (ci := 11) (pc' := 115) q218 d218_112 rfl n218_133 k218_133_11 m219.1, w_if_eq (tg := 126) (pc' := 118) q218 d218_115 (by decide) rfl, w_aload_n0 (pc' := 119) q218 d218_118 rfl, w_getV (pc' := 122) q218 d218_119 rfl f218_38, w_iload_n1 (pc' := 123) q218 d218_122 rfl, w_invs2 (pc' := 126) q218 d218_123 rfl (by decide +kernel) k218_243_99 m229.1, w_iinc1 (z := (1)) (pc' := 129) q218 d218_126 rfl, w_goto (tg := 34) q218 d218_129 (by decide), gs_off, gs_off0, gs_0off, gs_2, xN_0, xN_2, xN_3, xN_6, xN_7, xN_8, xN_9, xN_10, xN_11, xN_12, xN_13, xN_14, xN_15, xN_16, xN_17, xN_18, xN_19, xN_20, xN_21, xN_22, xN_23, xN_24, xN_25, xN_26, xN_27, xN_28, xN_29, xN_30, xN_31, xN_32, xN_33, xN_34, xN_35, xN_36, xN_37, xN_38, xN_39, xN_40, xN_41, xN_42, xN_43, xN_44, xN_45, xN_46, xN_47, xN_48, xN_49, xN_50, xN_51, xN_52, xN_53, xN_54, xN_55, ti_0, ti_1, ti_2, ti_3, ti_4, ti_5, ti_6, ti_7, ti_8, ti_9, ti_10, ti_16, ti_19, ti_20, ti_29, ti_30, ti_31, ti_32, ti_35, ti_36, ti_38, ti_39, ti_40, ti_41, ti_42, ti_43, ti_44, ti_45, ti_46, ti_47, ti_48, ti_49, ti_50, ti_51, ti_52, ti_53, ti_54, ti_55, ti_56, ti_57, ti_58, ti_59, ti_60, ti_61, ti_62, ti_63, ti_64, ti_65, ti_74, ti_77, ti_126, ti_200, ti_201, ti_202, ti_203, ti_204, ti_205, ti_210, ti_255, ti_256, ti_400, ti_512, ti_600, ti_601, ti_602, ti_1000, ti_1023, ti_1024, ti_2000, ti_10000, ti_12602, ti_999999, ti_m999999, ti_m1, ti_2000000, ti_3000000, xN_1, xN_4, xN_5, xN_60, xN_61, xN_64, xN_200, xN_800, xN_12000, xN_12602, eq_self, and_self, and_true, true_and, if_true, if_false, decide_true, Nat.reduceLeDiff, xc2_int, xc2_ref, xc2_ra, xc2_null, xc2_long, xc2_none, xisaT_ref, xisaT_ra, xisaT_null, xc1T_int, xc1T_ref, xc1T_ra, xc1T_null, xsum_nil, xsum_int, xsum_ref, xsum_ra, xsum_long, xsum_double, xsum_null, xfl_nil, xfl_int, xfl_ref, xfl_ra, xfl_null, xfl_long, xfl_double, List.length_cons, List.length_nil, s0, s12, s13, s19, s20, tc, hlt, hc, hc2, k1' _ (show (0 : Int) ≤ 1 ∧ (1 : Int) ≤ 9 by decide), k2' _ (show (0 : Int) ≤ 2 ∧ (2 : Int) ≤ 9 by decide), eK, eK2, q3, xfk, xfv, xak, xan, xcls, xsv', List.getElem?_cons_zero, List.getElem?_cons_succ, List.getD_cons_zero, List.getD_cons_succ, Option.getD_some, Option.isSome_some, if_true, if_pos, xcont, Option.toList_none, Option.toList_some, List.nil_append, List.cons_append]
    · rw [if_neg (by omega)] at eg3
      rw [eg3]
      have v1 : nv = g0 (m + 1) (200 + c) := by rw [env]; unfold nvM; rw [if_pos e]
      have v2 : nf = 0 := by rw [enf]; unfold nfM; rw [if_neg (by omega)]
      rw [v1, v2] at q3
      rw [if_pos (by omega)] at k1'
      rw [if_neg (by omega)] at k2'
      simp (config := { decide := true }) only [w_sipush (z' := (200)) (pc' := 38) q218 d218_35 rfl (by decide), w_icmp_ge (tg := 132) (pc' := 41) q218 d218_38 (by decide) rfl, w_aload_n0 (pc' := 42) q218 d218_41 rfl, w_getV (pc' := 45) q218 d218_42 rfl f218_65, w_iload_n1 (pc' := 46) q218 d218_45 rfl, w_iconst (pc' := 47) q218 d218_46 rfl, w_iastore (pc' := 48) q218 d218_47 rfl, w_aload_n0 (pc' := 49) q218 d218_48 rfl, w_getV (pc' := 52) q218 d218_49 rfl f218_68, w_iload_n1 (pc' := 53) q218 d218_52 rfl, w_iconst (pc' := 54) q218 d218_53 rfl, w_iastore (pc' := 55) q218 d218_54 rfl, w_aload_n0 (pc' := 56) q218 d218_55 rfl, w_getV (pc' := 59) q218 d218_56 rfl f218_44, w_iload_n1 (pc' := 60) q218 d218_59 rfl, w_aload_n0 (pc' := 61) q218 d218_60 rfl, w_iload_n1 (pc' := 62) q218 d218_61 rfl, w_iconst (pc' := 63) q218 d218_62 rfl, w_invv2 (ci := 11) (pc' := 66) q218 d218_63 rfl n218_133 k218_133_11 m219.1, w_if_eq (tg := 82) (pc' := 69) q218 d218_66 (by decide) rfl, w_aload_n0 (pc' := 70) q218 d218_69 rfl, w_getV (pc' := 73) q218 d218_70 rfl f218_7, w_sipush (z' := (200)) (pc' := 76) q218 d218_73 rfl (by decide), w_iload_n1 (pc' := 77) q218 d218_76 rfl, w_iadd (pc' := 78) q218 d218_77 rfl, w_iaload (pc' := 79) q218 d218_78 rfl, w_goto (tg := 83) q218 d218_79 (by decide), w_iconst (pc' := 83) q218 d218_82 rfl, w_iastore (pc' := 84) q218 d218_83 rfl, w_aload_n0 (pc' := 85) q218 d218_84 rfl, w_getV (pc' := 88) q218 d218_85 rfl f218_47, w_iload_n1 (pc' := 89) q218 d218_88 rfl, w_aload_n0 (pc' := 90) q218 d218_89 rfl, w_iload_n1 (pc' := 91) q218 d218_90 rfl, w_iconst (pc' := 92) q218 d218_91 rfl, w_invv2 (ci := 11) (pc' := 95) q218 d218_92 rfl n218_133 k218_133_11 m219.1, w_if_eq (tg := 102) (pc' := 98) q218 d218_95 (by decide) rfl, w_iconst (pc' := 99) q218 d218_98 rfl, w_goto (tg := 103) q218 d218_99 (by decide), w_iconst (pc' := 103) q218 d218_102 rfl, w_iastore (pc' := 104) q218 d218_103 rfl, w_aload_n0 (pc' := 105) q218 d218_104 rfl, w_iload_n1 (pc' := 106) q218 d218_105 rfl, w_invv1 (ci := 11) (pc' := 109) q218 d218_106 rfl n218_240 k218_240_11 m220.1, w_aload_n0 (pc' := 110) q218 d218_109 rfl, w_iload_n1 (pc' := 111) q218 d218_110 rfl, w_iconst (pc' := 112) q218 d218_111 rfl, w_invv2 (ci := 11) (pc' := 115) q218 d218_112 rfl n218_133 k218_133_11 m219.1, w_if_eq (tg := 126) (pc' := 118) q218 d218_115 (by decide) rfl, w_aload_n0 (pc' := 119) q218 d218_118 rfl, w_getV (pc' := 122) q218 d218_119 rfl f218_38, w_iload_n1 (pc' := 123) q218 d218_122 rfl, w_invs2 (pc' := 126) q218 d218_123 rfl (by decide +kernel) k218_243_99 m229.1, w_iinc1 (z := (1)) (pc' := 129) q218 d218_126 rfl, w_goto (tg := 34) q218 d218_129 (by decide), gs_off, gs_off0, gs_0off, gs_2, xN_0, xN_2, xN_3, xN_6, xN_7, xN_8, xN_9, xN_10, xN_11, xN_12, xN_13, xN_14, xN_15, xN_16, xN_17, xN_18, xN_19, xN_20, xN_21, xN_22, xN_23, xN_24, xN_25, xN_26, xN_27, xN_28, xN_29, xN_30, xN_31, xN_32, xN_33, xN_34, xN_35, xN_36, xN_37, xN_38, xN_39, xN_40, xN_41, xN_42, xN_43, xN_44, xN_45, xN_46, xN_47, xN_48, xN_49, xN_50, xN_51, xN_52, xN_53, xN_54, xN_55, ti_0, ti_1, ti_2, ti_3, ti_4, ti_5, ti_6, ti_7, ti_8, ti_9, ti_10, ti_16, ti_19, ti_20, ti_29, ti_30, ti_31, ti_32, ti_35, ti_36, ti_38, ti_39, ti_40, ti_41, ti_42, ti_43, ti_44, ti_45, ti_46, ti_47, ti_48, ti_49, ti_50, ti_51, ti_52, ti_53, ti_54, ti_55, ti_56, ti_57, ti_58, ti_59, ti_60, ti_61, ti_62, ti_63, ti_64, ti_65, ti_74, ti_77, ti_126, ti_200, ti_201, ti_202, ti_203, ti_204, ti_205, ti_210, ti_255, ti_256, ti_400, ti_512, ti_600, ti_601, ti_602, ti_1000, ti_1023, ti_1024, ti_2000, ti_10000, ti_12602, ti_999999, ti_m999999, ti_m1, ti_2000000, ti_3000000, xN_1, xN_4, xN_5, xN_60, xN_61, xN_64, xN_200, xN_800, xN_12000, xN_12602, eq_self, and_self, and_true, true_and, if_true, if_false, decide_true, Nat.reduceLeDiff, xc2_int, xc2_ref, xc2_ra, xc2_null, xc2_long, xc2_none, xisaT_ref, xisaT_ra, xisaT_null, xc1T_int, xc1T_ref, xc1T_ra, xc1T_null, xsum_nil, xsum_int, xsum_ref, xsum_ra, xsum_long, xsum_double, xsum_null, xfl_nil, xfl_int, xfl_ref, xfl_ra, xfl_null, xfl_long, xfl_double, List.length_cons, List.length_nil, s0, s1, s12, s13, s19, s20, tc, hlt, hc, hc2, t200c, b200, b200', k1' _ (show (0 : Int) ≤ 1 ∧ (1 : Int) ≤ 9 by decide), k2' _ (show (0 : Int) ≤ 2 ∧ (2 : Int) ≤ 9 by decide), eK, eK2, q3, xfk, xfv, xak, xan, xcls, xsv', List.getElem?_cons_zero, List.getElem?_cons_succ, List.getD_cons_zero, List.getD_cons_succ, Option.getD_some, Option.isSome_some, if_true, if_pos, xcont, Option.toList_none, Option.toList_some, List.nil_append, List.cons_append]
    · rw [if_pos e] at eg3
      rw [eg3]
      have v1 : nv = 0 := by rw [env]; unfold nvM; rw [if_neg (by omega)]
      have v2 : nf = 5 := by rw [enf]; unfold nfM; rw [if_pos e]
      rw [v1, v2] at q3
      rw [if_neg (by omega)] at k1'
      rw [if_pos (by omega)] at k2'
      have hpu := fun Q => m_puts (X := X) (d := d + 2) (g := g2) (Q := Q) s10 hc hc2
      simp (config := { decide := true }) only [w_sipush (z' := (200)) (pc' := 38) q218 d218_35 rfl (by decide), w_icmp_ge (tg := 132) (pc' := 41) q218 d218_38 (by decide) rfl, w_aload_n0 (pc' := 42) q218 d218_41 rfl, w_getV (pc' := 45) q218 d218_42 rfl f218_65, w_iload_n1 (pc' := 46) q218 d218_45 rfl, w_iconst (pc' := 47) q218 d218_46 rfl, w_iastore (pc' := 48) q218 d218_47 rfl, w_aload_n0 (pc' := 49) q218 d218_48 rfl, w_getV (pc' := 52) q218 d218_49 rfl f218_68, w_iload_n1 (pc' := 53) q218 d218_52 rfl, w_iconst (pc' := 54) q218 d218_53 rfl, w_iastore (pc' := 55) q218 d218_54 rfl, w_aload_n0 (pc' := 56) q218 d218_55 rfl, w_getV (pc' := 59) q218 d218_56 rfl f218_44, w_iload_n1 (pc' := 60) q218 d218_59 rfl, w_aload_n0 (pc' := 61) q218 d218_60 rfl, w_iload_n1 (pc' := 62) q218 d218_61 rfl, w_iconst (pc' := 63) q218 d218_62 rfl, w_invv2 (ci := 11) (pc' := 66) q218 d218_63 rfl n218_133 k218_133_11 m219.1, w_if_eq (tg := 82) (pc' := 69) q218 d218_66 (by decide) rfl, w_aload_n0 (pc' := 70) q218 d218_69 rfl, w_getV (pc' := 73) q218 d218_70 rfl f218_7, w_sipush (z' := (200)) (pc' := 76) q218 d218_73 rfl (by decide), w_iload_n1 (pc' := 77) q218 d218_76 rfl, w_iadd (pc' := 78) q218 d218_77 rfl, w_iaload (pc' := 79) q218 d218_78 rfl, w_goto (tg := 83) q218 d218_79 (by decide), w_iconst (pc' := 83) q218 d218_82 rfl, w_iastore (pc' := 84) q218 d218_83 rfl, w_aload_n0 (pc' := 85) q218 d218_84 rfl, w_getV (pc' := 88) q218 d218_85 rfl f218_47, w_iload_n1 (pc' := 89) q218 d218_88 rfl, w_aload_n0 (pc' := 90) q218 d218_89 rfl, w_iload_n1 (pc' := 91) q218 d218_90 rfl, w_iconst (pc' := 92) q218 d218_91 rfl, w_invv2 (ci := 11) (pc' := 95) q218 d218_92 rfl n218_133 k218_133_11 m219.1, w_if_eq (tg := 102) (pc' := 98) q218 d218_95 (by decide) rfl, w_iconst (pc' := 99) q218 d218_98 rfl, w_goto (tg := 103) q218 d218_99 (by decide), w_iconst (pc' := 103) q218 d218_102 rfl, w_iastore (pc' := 104) q218 d218_103 rfl, w_aload_n0 (pc' := 105) q218 d218_104 rfl, w_iload_n1 (pc' := 106) q218 d218_105 rfl, w_invv1 (ci := 11) (pc' := 109) q218 d218_106 rfl n218_240 k218_240_11 m220.1, w_aload_n0 (pc' := 110) q218 d218_109 rfl, w_iload_n1 (pc' := 111) q218 d218_110 rfl, w_iconst (pc' := 112) q218 d218_111 rfl, w_invv2 (ci := 11) (pc' := 115) q218 d218_112 rfl n218_133 k218_133_11 m219.1, w_if_eq (tg := 126) (pc' := 118) q218 d218_115 (by decide) rfl, w_aload_n0 (pc' := 119) q218 d218_118 rfl, w_getV (pc' := 122) q218 d218_119 rfl f218_38, w_iload_n1 (pc' := 123) q218 d218_122 rfl, w_invs2 (pc' := 126) q218 d218_123 rfl (by decide +kernel) k218_243_99 m229.1, w_iinc1 (z := (1)) (pc' := 129) q218 d218_126 rfl, w_goto (tg := 34) q218 d218_129 (by decide), gs_off, gs_off0, gs_0off, gs_2, xN_0, xN_2, xN_3, xN_6, xN_7, xN_8, xN_9, xN_10, xN_11, xN_12, xN_13, xN_14, xN_15, xN_16, xN_17, xN_18, xN_19, xN_20, xN_21, xN_22, xN_23, xN_24, xN_25, xN_26, xN_27, xN_28, xN_29, xN_30, xN_31, xN_32, xN_33, xN_34, xN_35, xN_36, xN_37, xN_38, xN_39, xN_40, xN_41, xN_42, xN_43, xN_44, xN_45, xN_46, xN_47, xN_48, xN_49, xN_50, xN_51, xN_52, xN_53, xN_54, xN_55, ti_0, ti_1, ti_2, ti_3, ti_4, ti_5, ti_6, ti_7, ti_8, ti_9, ti_10, ti_16, ti_19, ti_20, ti_29, ti_30, ti_31, ti_32, ti_35, ti_36, ti_38, ti_39, ti_40, ti_41, ti_42, ti_43, ti_44, ti_45, ti_46, ti_47, ti_48, ti_49, ti_50, ti_51, ti_52, ti_53, ti_54, ti_55, ti_56, ti_57, ti_58, ti_59, ti_60, ti_61, ti_62, ti_63, ti_64, ti_65, ti_74, ti_77, ti_126, ti_200, ti_201, ti_202, ti_203, ti_204, ti_205, ti_210, ti_255, ti_256, ti_400, ti_512, ti_600, ti_601, ti_602, ti_1000, ti_1023, ti_1024, ti_2000, ti_10000, ti_12602, ti_999999, ti_m999999, ti_m1, ti_2000000, ti_3000000, xN_1, xN_4, xN_5, xN_60, xN_61, xN_64, xN_200, xN_800, xN_12000, xN_12602, eq_self, and_self, and_true, true_and, if_true, if_false, decide_true, Nat.reduceLeDiff, xc2_int, xc2_ref, xc2_ra, xc2_null, xc2_long, xc2_none, xisaT_ref, xisaT_ra, xisaT_null, xc1T_int, xc1T_ref, xc1T_ra, xc1T_null, xsum_nil, xsum_int, xsum_ref, xsum_ra, xsum_long, xsum_double, xsum_null, xfl_nil, xfl_int, xfl_ref, xfl_ra, xfl_null, xfl_long, xfl_double, List.length_cons, List.length_nil, s0, s12, s13, s19, s20, tc, hlt, hc, hc2, k1' _ (show (0 : Int) ≤ 1 ∧ (1 : Int) ≤ 9 by decide), k2' _ (show (0 : Int) ≤ 2 ∧ (2 : Int) ≤ 9 by decide), eK, eK2, q3, hpu, xfk, xfv, xak, xan, xcls, xsv', List.getElem?_cons_zero, List.getElem?_cons_succ, List.getD_cons_zero, List.getD_cons_succ, Option.getD_some, Option.isSome_some, if_true, if_pos, xcont, Option.toList_none, Option.toList_some, List.nil_append, List.cons_append]
/-- the cells are prepared -/
theorem m_prepares {m : Nat} {T : Int → List Int} (hS : MdS S m) (hC : CeM g m T) (hR : MoR g m) :
    ∃ g', Fx [8, 9, 10, 12, 13, 19, 20] [30] g g' m ∧ MoR g' m ∧ g' m 30 = 0 ∧ (∀ j, 0 ≤ j → j < 200 → g' (m + 19) j = -1 ∧ g' (m + 20) j = 0 ∧ g' (m + 12) j = nvM g m j ∧ g' (m + 13) j = nfM g m j) ∧
      (∀ j o, 0 ≤ j → j < 200 → 0 ≤ o → o < 256 → (bt (g' (m + 8)) j o = true ↔ RfA (g (m + 1)) T j o)) ∧ (∀ o, 0 ≤ o → o < 256 → (bt (g' (m + 10)) 0 o = true ↔ o < 200 ∧ g (m + 1) o = 2)) ∧ (∀ o, 0 ≤ o → o < 256 → bt (g' (m + 9)) 0 o = false) ∧
      ∀ Q, Cw X (d + 3) 218 [.ref m] (hp S g) Q = Q (.inl none) (hp S g') := by
  have s0 := hS.1
  obtain ⟨g1, h1, h2, -, h4⟩ := l_prep0 (X := X) (d := d + 3) hS 4 0 (gs g m 30 0) (by decide) (by decide)
  have r1 : ∀ h, ¬ h = m → ¬ h = m + 9 → ¬ h = m + 10 → g1 h = g h := fun h a b c => by rw [h1 h b c, gs_row _ _ _ a]
  have m1 : ∀ i, g1 m i = gs g m 30 0 m i := fun i => by rw [h1 m (by omega) (by omega)]
  have eK : g1 (m + 1) = g (m + 1) := r1 _ (by omega) (by omega) (by omega)
  have hC1 : CeM g1 m T := CeM_congr eK hC
  have z9 : ∀ o, 0 ≤ o → o < 256 → bt (g1 (m + 9)) 0 o = false := fun o o1 o2 => bt_0 (h2 _ (by omega) (by omega)).1
  have z10 : ∀ o, 0 ≤ o → o < 256 → bt (g1 (m + 10)) 0 o = false := fun o o1 o2 => bt_0 (h2 _ (by omega) (by omega)).2
  obtain ⟨g2, ⟨p1, p2, p3, p4, p5⟩, q2⟩ := l_prep (X := X) (d := d) hS hC1 200 0 g1 ⟨Fx_refl, ⟨rg_off (r1 _ (by omega) (by omega) (by omega)) hR.1, rg_off (r1 _ (by omega) (by omega) (by omega)) hR.2.1, rg_off (r1 _ (by omega) (by omega) (by omega)) hR.2.2.1, rg_off (r1 _ (by omega) (by omega) (by omega)) hR.2.2.2.1, rg_off (r1 _ (by omega) (by omega) (by omega)) hR.2.2.2.2⟩, fun j j1 j2 => by omega, fun j o j1 j2 => by omega, fun o o1 o2 => by rw [z10 o o1 o2]; exact ⟨fun h => absurd h (by decide), fun h => by omega⟩⟩ (by decide) (by decide)
  have e9 : g2 (m + 9) = g1 (m + 9) := Fx_at p1 (by decide) (by decide)
  refine ⟨g2, ?_, p2, ?_, fun j j1 j2 => ?_, ?_, ?_, ?_, fun Q => ?_⟩
  · refine Fx_trans (g1 := g1) ⟨fun h a b => r1 h a (b 9 (by decide)) (b 10 (by decide)), fun i hi => ?_⟩ (Fx_mono p1 (by decide) (by decide))
    rw [m1 i, gs_at, if_neg (fun e => hi (by rw [e]; decide))]
  · rw [Fx_sl p1 (by decide), m1, gs_at, if_pos rfl]
  · have := p3 j j1 j2
    unfold nvM nfM at *
    rw [eK] at this
    exact this
  · rw [eK] at p4; exact p4
  · rw [eK] at p5; exact p5
  · rw [e9]; exact z9
  · rw [← q2 Q, e218]
    have := h4 Q
    simp (config := { decide := true }) only [w_aload_n0 (pc' := 1) q218 d218_0 rfl, w_iconst (pc' := 2) q218 d218_1 rfl, w_putI (pc' := 5) q218 d218_2 rfl f218_237 rfl (by decide +kernel), w_iconst (pc' := 6) q218 d218_5 rfl, w_istore_n1 (pc' := 7) q218 d218_6 rfl, gs_off, gs_off0, gs_0off, gs_2, xN_0, xN_2, xN_3, xN_6, xN_7, xN_8, xN_9, xN_10, xN_11, xN_12, xN_13, xN_14, xN_15, xN_16, xN_17, xN_18, xN_19, xN_20, xN_21, xN_22, xN_23, xN_24, xN_25, xN_26, xN_27, xN_28, xN_29, xN_30, xN_31, xN_32, xN_33, xN_34, xN_35, xN_36, xN_37, xN_38, xN_39, xN_40, xN_41, xN_42, xN_43, xN_44, xN_45, xN_46, xN_47, xN_48, xN_49, xN_50, xN_51, xN_52, xN_53, xN_54, xN_55, ti_0, ti_1, ti_2, ti_3, ti_4, ti_5, ti_6, ti_7, ti_8, ti_9, ti_10, ti_16, ti_19, ti_20, ti_29, ti_30, ti_31, ti_32, ti_35, ti_36, ti_38, ti_39, ti_40, ti_41, ti_42, ti_43, ti_44, ti_45, ti_46, ti_47, ti_48, ti_49, ti_50, ti_51, ti_52, ti_53, ti_54, ti_55, ti_56, ti_57, ti_58, ti_59, ti_60, ti_61, ti_62, ti_63, ti_64, ti_65, ti_74, ti_77, ti_126, ti_200, ti_201, ti_202, ti_203, ti_204, ti_205, ti_210, ti_255, ti_256, ti_400, ti_512, ti_600, ti_601, ti_602, ti_1000, ti_1023, ti_1024, ti_2000, ti_10000, ti_12602, ti_999999, ti_m999999, ti_m1, ti_2000000, ti_3000000, xN_1, xN_4, xN_5, xN_60, xN_61, xN_64, xN_200, xN_800, xN_12000, xN_12602, eq_self, and_self, and_true, true_and, if_true, if_false, decide_true, Nat.reduceLeDiff, xc2_int, xc2_ref, xc2_ra, xc2_null, xc2_long, xc2_none, xisaT_ref, xisaT_ra, xisaT_null, xc1T_int, xc1T_ref, xc1T_ra, xc1T_null, xsum_nil, xsum_int, xsum_ref, xsum_ra, xsum_long, xsum_double, xsum_null, xfl_nil, xfl_int, xfl_ref, xfl_ra, xfl_null, xfl_long, xfl_double, List.length_cons, List.length_nil, s0, xfk, xfv, xak, xan, xcls, xsv', List.getElem?_cons_zero, List.getElem?_cons_succ, List.getD_cons_zero, List.getD_cons_succ, Option.getD_some, Option.isSome_some, if_true, if_pos, xcont, Option.toList_none, Option.toList_some, List.nil_append, List.cons_append]
    rw [h4]
    simp (config := { decide := true }) only [w_iconst (pc' := 33) q218 d218_32 rfl, w_istore_n1 (pc' := 34) q218 d218_33 rfl, gs_off, gs_off0, gs_0off, gs_2, xN_0, xN_2, xN_3, xN_6, xN_7, xN_8, xN_9, xN_10, xN_11, xN_12, xN_13, xN_14, xN_15, xN_16, xN_17, xN_18, xN_19, xN_20, xN_21, xN_22, xN_23, xN_24, xN_25, xN_26, xN_27, xN_28, xN_29, xN_30, xN_31, xN_32, xN_33, xN_34, xN_35, xN_36, xN_37, xN_38, xN_39, xN_40, xN_41, xN_42, xN_43, xN_44, xN_45, xN_46, xN_47, xN_48, xN_49, xN_50, xN_51, xN_52, xN_53, xN_54, xN_55, ti_0, ti_1, ti_2, ti_3, ti_4, ti_5, ti_6, ti_7, ti_8, ti_9, ti_10, ti_16, ti_19, ti_20, ti_29, ti_30, ti_31, ti_32, ti_35, ti_36, ti_38, ti_39, ti_40, ti_41, ti_42, ti_43, ti_44, ti_45, ti_46, ti_47, ti_48, ti_49, ti_50, ti_51, ti_52, ti_53, ti_54, ti_55, ti_56, ti_57, ti_58, ti_59, ti_60, ti_61, ti_62, ti_63, ti_64, ti_65, ti_74, ti_77, ti_126, ti_200, ti_201, ti_202, ti_203, ti_204, ti_205, ti_210, ti_255, ti_256, ti_400, ti_512, ti_600, ti_601, ti_602, ti_1000, ti_1023, ti_1024, ti_2000, ti_10000, ti_12602, ti_999999, ti_m999999, ti_m1, ti_2000000, ti_3000000, xN_1, xN_4, xN_5, xN_60, xN_61, xN_64, xN_200, xN_800, xN_12000, xN_12602, eq_self, and_self, and_true, true_and, if_true, if_false, decide_true, Nat.reduceLeDiff, xc2_int, xc2_ref, xc2_ra, xc2_null, xc2_long, xc2_none, xisaT_ref, xisaT_ra, xisaT_null, xc1T_int, xc1T_ref, xc1T_ra, xc1T_null, xsum_nil, xsum_int, xsum_ref, xsum_ra, xsum_long, xsum_double, xsum_null, xfl_nil, xfl_int, xfl_ref, xfl_ra, xfl_null, xfl_long, xfl_double, List.length_cons, List.length_nil, xfk, xfv, xak, xan, xcls, xsv', List.getElem?_cons_zero, List.getElem?_cons_succ, List.getD_cons_zero, List.getD_cons_succ, Option.getD_some, Option.isSome_some, if_true, if_pos, xcont, Option.toList_none, Option.toList_some, List.nil_append, List.cons_append]
end
