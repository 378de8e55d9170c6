/-! The model: contents are carried -/
section
variable {X : xX} {S : xLm} {g : xGm} {d m : Nat} {w : xH} {Q : xO → xH → Prop}
theorem m_rebuilds {how c : Int} {sp : Int → Int} {co : Int → Int → Int} {tch cf : Int → Int} {L : List Int} (hS : MdS S m) (hH : HwM X S m (d + 3) how sp co tch cf) (hc : 0 ≤ c ∧ c < 200) (hG : GrS g m) (hM : MrS g m c (mks L)) (hL : ∀ t ∈ L, okG t) (hcf : ∀ i, 46 ≤ i → i ≤ 52 → g m i = cf i) :
    ∃ G' : xGm, (∀ h, ¬ h = m → ¬ h = m + 21 → G' h = g h) ∧ (∀ i, ¬ i = 32 → ¬ i = 36 → ¬ i = 53 → G' m i = g m i) ∧ G' m 32 = (mks (L.map (tkF sp co))).length ∧ TL (G' (m + 21)) 0 (mks (L.map (tkF sp co))) ∧ G' m 53 = g m 53 + tcS tch L ∧ (mks (L.map (tkF sp co))).length ≤ (mks L).length ∧ ∀ Q, Cw X (d + 4) 307 [.ref m, .int (iI c), .int (iI how)] (hp S g) Q = Q (.inl none) (hp S G') := by
  have s0 := hS.1
  obtain ⟨G0, eG0⟩ : ∃ G0, G0 = gs (gs g m 32 0) m 36 1 := ⟨_, rfl⟩
  have r0 : ∀ h, ¬ h = m → G0 h = g h := fun h hh => by rw [eG0, gs_row _ _ _ hh, gs_row _ _ _ hh]
  have e0 : ∀ i, ¬ i = 32 → ¬ i = 36 → G0 m i = g m i := fun i a b => by rw [eG0, gs_o b, gs_o a]
  have e1 : G0 (m + 1) = g (m + 1) := r0 _ (by omega)
  have z1 : xnz 1 = 1 := by decide
  obtain ⟨G', ⟨k1, k2, k3, k4, k5⟩, k6, k7⟩ := l_rebuilds (X := X) (g := G0) (how := how) (c := c) hS hH (by omega) hc (rg_off e1 hG) (by unfold MrS at *; rw [e1]; exact hM) (fun i a b => (e0 i (by omega) (by omega)).trans (hcf i a b)) (by rw [eG0, gs_at, if_pos rfl]) L 0 [] 0 G0 none none none none hL (AtM_self _) (by omega) (by decide) (by decide) ⟨fun _ _ _ => rfl, fun _ _ _ => rfl, by rw [eG0, gs_o (by decide), gs_at, if_pos rfl]; rfl, trivial, by omega⟩
  rw [List.nil_append] at k3 k4 k6
  refine ⟨G', fun h a b => (k1 h a b).trans (r0 h a), fun i a b c => (k2 i a c).trans (e0 i a b), k3, k4, by rw [k5, e0 53 (by decide) (by decide)]; omega, k6, fun Q => ?_⟩
  rw [← k7 Q, eG0, e307]
  simp (config := { decide := true }) only [w_aload_n0 (pc' := 1) q307 d307_0 rfl, w_iconst (pc' := 2) q307 d307_1 rfl, w_putI (pc' := 5) q307 d307_2 rfl f307_285 rfl (by decide +kernel), w_aload_n0 (pc' := 6) q307 d307_5 rfl, w_iconst (pc' := 7) q307 d307_6 rfl, w_putZ (pc' := 10) q307 d307_7 rfl f307_282 rfl (by decide +kernel), w_iconst (pc' := 11) q307 d307_10 rfl, w_istore_n3 (pc' := 12) q307 d307_11 rfl, gs_off, gs_off0, gs_0off, gs_2, xN_0, xN_2, xN_3, xN_6, xN_7, xN_8, xN_9, xN_10, xN_11, xN_12, xN_13, xN_14, xN_15, xN_16, xN_17, xN_18, xN_19, xN_20, xN_21, xN_22, xN_23, xN_24, xN_25, xN_26, xN_27, xN_28, xN_29, xN_30, xN_31, xN_32, xN_33, xN_34, xN_35, xN_36, xN_37, xN_38, xN_39, xN_40, xN_41, xN_42, xN_43, xN_44, xN_45, xN_46, xN_47, xN_48, xN_49, xN_50, xN_51, xN_52, xN_53, xN_54, xN_55, ti_0, ti_1, ti_2, ti_3, ti_4, ti_5, ti_6, ti_7, ti_8, ti_9, ti_10, ti_16, ti_19, ti_20, ti_29, ti_30, ti_31, ti_32, ti_35, ti_36, ti_38, ti_39, ti_40, ti_41, ti_42, ti_43, ti_44, ti_45, ti_46, ti_47, ti_48, ti_49, ti_50, ti_51, ti_52, ti_53, ti_54, ti_55, ti_56, ti_57, ti_58, ti_59, ti_60, ti_61, ti_62, ti_63, ti_64, ti_65, ti_74, ti_77, ti_126, ti_200, ti_201, ti_202, ti_203, ti_204, ti_205, ti_210, ti_255, ti_256, ti_400, ti_512, ti_600, ti_601, ti_602, ti_1000, ti_1023, ti_1024, ti_2000, ti_10000, ti_12602, ti_999999, ti_m999999, ti_m1, ti_2000000, ti_3000000, xN_1, xN_4, xN_5, xN_60, xN_61, xN_64, xN_200, xN_800, xN_12000, xN_12602, eq_self, and_self, and_true, true_and, if_true, if_false, decide_true, Nat.reduceLeDiff, xc2_int, xc2_ref, xc2_ra, xc2_null, xc2_long, xc2_none, xisaT_ref, xisaT_ra, xisaT_null, xc1T_int, xc1T_ref, xc1T_ra, xc1T_null, xsum_nil, xsum_int, xsum_ref, xsum_ra, xsum_long, xsum_double, xsum_null, xfl_nil, xfl_int, xfl_ref, xfl_ra, xfl_null, xfl_long, xfl_double, List.length_cons, List.length_nil, s0, z1, xfk, xfv, xak, xan, xcls, xsv', List.getElem?_cons_zero, List.getElem?_cons_succ, List.getD_cons_zero, List.getD_cons_succ, Option.getD_some, Option.isSome_some, if_true, if_pos, xcont, Option.toList_none, Option.toList_some, List.nil_append, List.cons_append]
def FxR (g g' : xGm) (m : Nat) : Prop := Fx [1, 21] [32, 33, 34, 36, 53] g g' m
theorem MrS_cel {c kd nu : Int} {L : List Int} (h : CelR (g (m + 1)) c kd nu (mks L)) : (kd = 2 → MrS g m c (mks L)) ∧ (¬ kd = 2 → MrS g m c (mks [])) := ⟨fun e => h.2.2.1 e, fun e => ⟨h.2.2.2 e, by decide, fun k a b => by simp only [mks, List.length_nil] at b; omega⟩⟩
theorem tkF_okG {sp : Int → Int} {co : Int → Int → Int} {t : Int} (ok1 : ∀ s, okS s → okM (sp s)) (ok2 : ∀ s o, okS s → okS o → okM (co s o)) (h : okG t) : okG (tkF sp co t) := by
  have id8 : ¬ t % 8 = 2 → ¬ t % 8 = 3 → tkF sp co t = t := fun a b => by unfold tkF; rw [if_neg a, if_neg b]
  have h' := h
  rcases h with h | h | h | h | h | h
  · rw [id8 (by omega) (by omega)]; exact h'
  · unfold tkF
    rw [if_pos h.1]
    rcases ok1 _ h.2 with e | e
    · rw [if_pos (by omega)]; exact .inr (.inr (.inl rfl))
    · have e' := e
      unfold okS at e'
      rw [if_neg (by omega)]
      exact .inr (.inl ⟨by omega, by rw [show (sp (t / 8) * 8 + 2) / 8 = sp (t / 8) by omega]; exact e⟩)
  · rw [id8 (by omega) (by omega)]; exact h'
  · have h3 := h.1
    unfold tkF
    rw [if_neg (by omega), if_pos h3]
    split
    · exact .inr (.inr (.inl rfl))
    · next hn =>
      have e10 : t / 8 / 1024 % 1024 = t / 8 / 1024 := by have := h.2.2; unfold okS at this; omega
      rw [e10] at hn ⊢
      have o1 := (ok2 _ _ h.2.1 h.2.2).resolve_left (by omega)
      have o2 := (ok2 _ _ h.2.2 h.2.1).resolve_left (by omega)
      have o1' := o1
      have o2' := o2
      unfold okS at o1' o2'
      refine .inr (.inr (.inr (.inl ⟨by omega, ?_, ?_⟩)))
      · rw [show ((co (t / 8 % 1024) (t / 8 / 1024) + 1024 * co (t / 8 / 1024) (t / 8 % 1024)) * 8 + 3) / 8 % 1024 = co (t / 8 % 1024) (t / 8 / 1024) by omega]; exact o1
      · rw [show ((co (t / 8 % 1024) (t / 8 / 1024) + 1024 * co (t / 8 / 1024) (t / 8 % 1024)) * 8 + 3) / 8 / 1024 = co (t / 8 / 1024) (t / 8 % 1024) by omega]; exact o2
  · rw [id8 (by omega) (by omega)]; exact h'
  · rw [id8 (by omega) (by omega)]; exact h'
theorem m_carries {how f t kd nu : Int} {sp : Int → Int} {co : Int → Int → Int} {tch cf : Int → Int} {L : List Int} (hS : MdS S m) (hH : HwM X S m (d + 3) how sp co tch cf) (hf : 0 ≤ f ∧ f < 200) (ht : 0 ≤ t ∧ t < 200) (hG : rgR (g (m + 1))) (hC : CelR (g (m + 1)) f kd nu (mks L)) (hkd : kd = 0 ∨ kd = 1 ∨ kd = 2) (hL : kd = 2 → ∀ t ∈ L, okG t) (hcf : ∀ i, 46 ≤ i → i ≤ 52 → g m i = cf i) :
    ∃ g', FxR g g' m ∧ CelR (g' (m + 1)) t kd nu (mks (L.map (tkF sp co))) ∧ (∀ i, ¬ celI t i → g' (m + 1) i = g (m + 1) i) ∧ rgR (g' (m + 1)) ∧ g' m 53 = g m 53 + (if kd = 2 then tcS tch L else 0) ∧ ∀ Q, Cw X (d + 5) 306 [.ref m, .int (iI f), .int (iI t), .int (iI how)] (hp S g) Q = Q (.inl none) (hp S g') := by
  have s0 := hS.1
  have s1 := MdS_1 hS
  have tf : ti f = f := ti_eq (by omega) (by omega)
  have tf2 : ti (200 + f) = 200 + f := ti_eq (by omega) (by omega)
  have b1 : 0 ≤ f := hf.1
  have b2 : f < 12602 := by omega
  have b3 : 0 ≤ 200 + f := by omega
  have b4 : 200 + f < 12602 := by omega
  obtain ⟨L', eL', hL', hM'⟩ : ∃ L' : List Int, L' = (if kd = 2 then L else []) ∧ (∀ t ∈ L', okG t) ∧ MrS g m f (mks L') := by
    obtain ⟨m1, m2⟩ := MrS_cel hC
    by_cases e : kd = 2
    · exact ⟨_, rfl, by rw [if_pos e]; exact hL e, by rw [if_pos e]; exact m1 e⟩
    · exact ⟨_, rfl, by rw [if_neg e]; simp, by rw [if_neg e]; exact m2 e⟩
  obtain ⟨G1, k1, k2, k3, k4, k5, k6, k7⟩ := m_rebuilds (X := X) (d := d) (g := g) hS hH hf hG hM' hL' hcf
  have e1 : G1 (m + 1) = g (m + 1) := k1 _ (by omega) (by omega)
  obtain ⟨nv, env⟩ : ∃ nv, nv = g (m + 1) (200 + f) := ⟨_, rfl⟩
  obtain ⟨G2, eG2⟩ : ∃ G2, G2 = gs (gs G1 m 33 kd) m 34 nv := ⟨_, rfl⟩
  have r2 : ∀ h, ¬ h = m → G2 h = G1 h := fun h hh => by rw [eG2, gs_row _ _ _ hh, gs_row _ _ _ hh]
  have e2 : ∀ i, ¬ i = 33 → ¬ i = 34 → G2 m i = G1 m i := fun i a b => by rw [eG2, gs_o b, gs_o a]
  have e33 : G2 m 33 = kd := by rw [eG2, gs_o (by decide), gs_at, if_pos rfl]
  have e34 : G2 m 34 = nv := by rw [eG2, gs_at, if_pos rfl]
  have eK : G2 (m + 1) = g (m + 1) := (r2 _ (by omega)).trans e1
  have hms : kd = 2 → mks (L'.map (tkF sp co)) = mks (L.map (tkF sp co)) := fun e => by rw [eL', if_pos e]
  have hnv := hG (200 + f)
  rw [← env] at hnv
  obtain ⟨r', c1, c2, c3, k8⟩ := m_lands (X := X) (d := d + 2) (g := G2) (c := t) (kd := kd) (nu := nv) (ms := mks (L.map (tkF sp co))) hS ht e33 e34 (by omega) hnv (fun e => ⟨by rw [e2 32 (by decide) (by decide), k3, hms e], by have := hM'.2.1; rw [← hms e]; omega, by rw [r2 _ (by omega), ← hms e]; exact k4, mks_big _ (fun x hx => by
    rw [List.mem_map] at hx
    obtain ⟨y, y1, y2⟩ := hx
    rw [← y2]
    exact tkF_okG hH.1.1 hH.1.2 (hL e y y1))⟩) (by rw [eK]; exact hG)
  have fx : FxR g (gr G2 (m + 1) r') m := by
    refine ⟨fun h a b => ?_, fun i hi => ?_⟩
    · rw [gr_row _ _ (b 1 (by decide)), r2 h a, k1 h a (b 21 (by decide))]
    · simp only [List.mem_cons, List.not_mem_nil, or_false, not_or] at hi
      rw [gr_row _ _ (by omega), e2 i hi.2.1 hi.2.2.1, k2 i hi.1 hi.2.2.2.1 hi.2.2.2.2]
  refine ⟨gr G2 (m + 1) r', fx, ?_, fun i hi => ?_, by rw [gr_hit]; exact c3, ?_, fun Q => ?_⟩
  · rw [gr_hit]
    exact ⟨c1.1, fun e => by rw [c1.2.1 e, env]; exact hC.2.1 e, c1.2.2⟩
  · rw [gr_hit, c2 i hi, eK]
  · rw [gr_row _ _ (by omega), e2 53 (by decide) (by decide), k5, eL']
    split <;> rfl
  · have hk := hC.1
    rw [eG2] at k8 ⊢
    have q1 : G1 (m + 1) f = kd := by rw [e1]; exact hk
    have q2 : G1 (m + 1) (200 + f) = nv := by rw [e1, env]
    rw [e306]
    simp (config := { decide := true }) only [w_aload_n0 (pc' := 1) q306 d306_0 rfl, w_iload_n1 (pc' := 2) q306 d306_1 rfl, w_iload_n3 (pc' := 3) q306 d306_2 rfl, w_invv2 (ci := 11) (pc' := 6) q306 d306_3 rfl n306_465 k306_465_11 m307.1, w_aload_n0 (pc' := 7) q306 d306_6 rfl, w_aload_n0 (pc' := 8) q306 d306_7 rfl, w_getV (pc' := 11) q306 d306_8 rfl f306_7, w_iload_n1 (pc' := 12) q306 d306_11 rfl, w_iaload (pc' := 13) q306 d306_12 rfl, w_putI (pc' := 16) q306 d306_13 rfl f306_358 rfl (by decide +kernel), w_aload_n0 (pc' := 17) q306 d306_16 rfl, w_aload_n0 (pc' := 18) q306 d306_17 rfl, w_getV (pc' := 21) q306 d306_18 rfl f306_7, w_sipush (z' := (200)) (pc' := 24) q306 d306_21 rfl (by decide), w_iload_n1 (pc' := 25) q306 d306_24 rfl, w_iadd (pc' := 26) q306 d306_25 rfl, w_iaload (pc' := 27) q306 d306_26 rfl, w_putI (pc' := 30) q306 d306_27 rfl f306_364 rfl (by decide +kernel), w_aload_n0 (pc' := 31) q306 d306_30 rfl, w_iload_n2 (pc' := 32) q306 d306_31 rfl, w_invv1 (ci := 11) (pc' := 35) q306 d306_32 rfl n306_402 k306_402_11 m267.1, w_return q306 d306_35 m306.2.1, gs_off, gs_off0, gs_0off, gs_2, xN_0, xN_2, xN_3, xN_6, xN_7, xN_8, xN_9, xN_10, xN_11, xN_12, xN_13, xN_14, xN_15, xN_16, xN_17, xN_18, xN_19, xN_20, xN_21, xN_22, xN_23, xN_24, xN_25, xN_26, xN_27, xN_28, xN_29, xN_30, xN_31, xN_32, xN_33, xN_34, xN_35, xN_36, xN_37, xN_38, xN_39, xN_40, xN_41, xN_42, xN_43, xN_44, xN_45, xN_46, xN_47, xN_48, xN_49, xN_50, xN_51, xN_52, xN_53, xN_54, xN_55, ti_0, ti_1, ti_2, ti_3, ti_4, ti_5, ti_6, ti_7, ti_8, ti_9, ti_10, ti_16, ti_19, ti_20, ti_29, ti_30, ti_31, ti_32, ti_35, ti_36, ti_38, ti_39, ti_40, ti_41, ti_42, ti_43, ti_44, ti_45, ti_46, ti_47, ti_48, ti_49, ti_50, ti_51, ti_52, ti_53, ti_54, ti_55, ti_56, ti_57, ti_58, ti_59, ti_60, ti_61, ti_62, ti_63, ti_64, ti_65, ti_74, ti_77, ti_126, ti_200, ti_201, ti_202, ti_203, ti_204, ti_205, ti_210, ti_255, ti_256, ti_400, ti_512, ti_600, ti_601, ti_602, ti_1000, ti_1023, ti_1024, ti_2000, ti_10000, ti_12602, ti_999999, ti_m999999, ti_m1, ti_2000000, ti_3000000, xN_1, xN_4, xN_5, xN_60, xN_61, xN_64, xN_200, xN_800, xN_12000, xN_12602, eq_self, and_self, and_true, true_and, if_true, if_false, decide_true, Nat.reduceLeDiff, xc2_int, xc2_ref, xc2_ra, xc2_null, xc2_long, xc2_none, xisaT_ref, xisaT_ra, xisaT_null, xc1T_int, xc1T_ref, xc1T_ra, xc1T_null, xsum_nil, xsum_int, xsum_ref, xsum_ra, xsum_long, xsum_double, xsum_null, xfl_nil, xfl_int, xfl_ref, xfl_ra, xfl_null, xfl_long, xfl_double, List.length_cons, List.length_nil, s0, s1, k7, tf, tf2, b1, b2, b3, b4, q1, q2, k8, xfk, xfv, xak, xan, xcls, xsv', List.getElem?_cons_zero, List.getElem?_cons_succ, List.getD_cons_zero, List.getD_cons_succ, Option.getD_some, Option.isSome_some, if_true, if_pos, xcont, Option.toList_none, Option.toList_some, List.nil_append, List.cons_append]
theorem FxR_cf {g' : xGm} {cf : Int → Int} (h : FxR g g' m) (hcf : ∀ i, 46 ≤ i → i ≤ 52 → g m i = cf i) : ∀ i, 46 ≤ i → i ≤ 52 → g' m i = cf i := fun i a b => (Fx_sl h (by simp only [List.mem_cons, List.not_mem_nil, or_false]; omega)).trans (hcf i a b)
/-- the cells below n with other words -/
def shWn (A : Sh) (f : Int → Int) (n : Int) : Sh := (A.1, A.2.1, fun x => if x < n then (A.2.2.1 x).map f else A.2.2.1 x, A.2.2.2)
def shW (A : Sh) (f : Int → Int) : Sh := (A.1, A.2.1, fun x => (A.2.2.1 x).map f, A.2.2.2)
def okGA (A : Sh) : Prop := ∀ c, 0 ≤ c → c < 200 → A.1 c = 2 → ∀ t ∈ A.2.2.1 c, okG t
theorem okGA_of {A : Sh} (h : ShOK A) : okGA A := fun c c1 c2 e => by
  obtain ⟨v, r, n, hT⟩ := ((h c c1 c2).2.1 e).1
  exact Tr_okG _ _ _ _ _ hT
theorem l_rebuildsAll {how : Int} {sp : Int → Int} {co : Int → Int → Int} {tch cf : Int → Int} {A : Sh} (hS : MdS S m) (hH : HwM X S m (d + 3) how sp co tch cf) (hk : ∀ c, 0 ≤ c → c < 200 → A.1 c = 0 ∨ A.1 c = 1 ∨ A.1 c = 2) (hok : okGA A) : ∀ (n : Nat) (c : Int) (g : xGm), c + n = 200 → 0 ≤ c → rgR (g (m + 1)) → ShM (g (m + 1)) (shWn A (tkF sp co) c) → (∀ i, 46 ≤ i → i ≤ 52 → g m i = cf i) →
    ∃ g', FxR g g' m ∧ ShM (g' (m + 1)) (shWn A (tkF sp co) 200) ∧ rgR (g' (m + 1)) ∧ g' m 53 = g m 53 + sumf (fun x => if A.1 x = 2 then tcS tch (A.2.2.1 x) else 0) c n ∧ ∀ Q, Wx X (d + 6) 319 2 [some (.ref m), some (.int (iI how)), some (.int (iI c))] [] (hp S g) Q = Q (.inl none) (hp S g') := by
  have s0 := hS.1
  intro n
  induction n with
  | zero =>
    intro c g hn hc hG hM hcf
    obtain rfl : c = 200 := by omega
    refine ⟨g, Fx_refl, hM, hG, by rw [sumf, Int.add_zero], fun Q => ?_⟩
    rw [w_iload_n2 (pc' := 3) q319 d319_2 rfl]
    simp (config := { decide := true }) only [w_sipush (z' := (200)) (pc' := 6) q319 d319_3 rfl (by decide), w_icmp_ge (tg := 31) (pc' := 9) q319 d319_6 (by decide) rfl, w_return q319 d319_31 m319.2.1, gs_off, gs_off0, gs_0off, gs_2, xN_0, xN_2, xN_3, xN_6, xN_7, xN_8, xN_9, xN_10, xN_11, xN_12, xN_13, xN_14, xN_15, xN_16, xN_17, xN_18, xN_19, xN_20, xN_21, xN_22, xN_23, xN_24, xN_25, xN_26, xN_27, xN_28, xN_29, xN_30, xN_31, xN_32, xN_33, xN_34, xN_35, xN_36, xN_37, xN_38, xN_39, xN_40, xN_41, xN_42, xN_43, xN_44, xN_45, xN_46, xN_47, xN_48, xN_49, xN_50, xN_51, xN_52, xN_53, xN_54, xN_55, ti_0, ti_1, ti_2, ti_3, ti_4, ti_5, ti_6, ti_7, ti_8, ti_9, ti_10, ti_16, ti_19, ti_20, ti_29, ti_30, ti_31, ti_32, ti_35, ti_36, ti_38, ti_39, ti_40, ti_41, ti_42, ti_43, ti_44, ti_45, ti_46, ti_47, ti_48, ti_49, ti_50, ti_51, ti_52, ti_53, ti_54, ti_55, ti_56, ti_57, ti_58, ti_59, ti_60, ti_61, ti_62, ti_63, ti_64, ti_65, ti_74, ti_77, ti_126, ti_200, ti_201, ti_202, ti_203, ti_204, ti_205, ti_210, ti_255, ti_256, ti_400, ti_512, ti_600, ti_601, ti_602, ti_1000, ti_1023, ti_1024, ti_2000, ti_10000, ti_12602, ti_999999, ti_m999999, ti_m1, ti_2000000, ti_3000000, xN_1, xN_4, xN_5, xN_60, xN_61, xN_64, xN_200, xN_800, xN_12000, xN_12602, eq_self, and_self, and_true, true_and, if_true, if_false, decide_true, Nat.reduceLeDiff, xc2_int, xc2_ref, xc2_ra, xc2_null, xc2_long, xc2_none, xisaT_ref, xisaT_ra, xisaT_null, xc1T_int, xc1T_ref, xc1T_ra, xc1T_null, xsum_nil, xsum_int, xsum_ref, xsum_ra, xsum_long, xsum_double, xsum_null, xfl_nil, xfl_int, xfl_ref, xfl_ra, xfl_null, xfl_long, xfl_double, List.length_cons, List.length_nil, xfk, xfv, xak, xan, xcls, xsv', List.getElem?_cons_zero, List.getElem?_cons_succ, List.getD_cons_zero, List.getD_cons_succ, Option.getD_some, Option.isSome_some, if_true, if_pos, xcont, Option.toList_none, Option.toList_some, List.nil_append, List.cons_append]
  | succ n ih =>
    intro c g hn hc hG hM hcf
    have tc : ti c = c := ti_eq (by omega) (by omega)
    have hlt : ¬ 200 ≤ c := by omega
    have hc2 : c < 200 := by omega
    have hcel := ShM_cel hM hc hc2
    have eT : (shWn A (tkF sp co) c).2.2.1 c = A.2.2.1 c := by unfold shWn; dsimp only; rw [if_neg (by omega)]
    rw [eT] at hcel
    have hk2 := fun Q => m_isKind (X := X) (d := d + 5) (g := g) (c := c) (k := 2) (Q := Q) hS hG ⟨hc, hc2⟩ (by decide)
    have ek : g (m + 1) c = A.1 c := hcel.1
    rw [ek] at hk2
    have hnext : ∀ (g1 : xGm), CelR (g1 (m + 1)) c (A.1 c) (A.2.1 c) (mks ((A.2.2.1 c).map (tkF sp co))) → (∀ i, ¬ celI c i → g1 (m + 1) i = g (m + 1) i) → ShM (g1 (m + 1)) (shWn A (tkF sp co) (c + 1)) := by
      intro g1 h1 h2
      refine ⟨⟨?_, ?_⟩, fun x x1 x2 => ?_⟩
      · rw [h2 _ (by unfold celI; omega)]; exact hM.1.1
      · rw [h2 _ (by unfold celI; omega)]; exact hM.1.2
      · by_cases e : x = c
        · subst e
          have := h1
          unfold shWn
          dsimp only
          rw [if_pos (by omega)]
          exact this
        · have := CelR_congr x1 x2 (fun i hi => h2 i (celI_ne x1 x2 hc hc2 e hi)) (ShM_cel hM x1 x2)
          unfold shWn at this ⊢
          dsimp only at this ⊢
          by_cases e2 : x < c
          · rw [if_pos e2] at this; rw [if_pos (by omega)]; exact this
          · rw [if_neg e2] at this; rw [if_neg (by omega)]; exact this
    by_cases h2 : A.1 c = 2
    · obtain ⟨g1, f1, j1, j2, j3, j4, j5⟩ := m_carries (X := X) (d := d) (g := g) (f := c) (t := c) (kd := A.1 c) (nu := A.2.1 c) (L := A.2.2.1 c) hS hH ⟨hc, hc2⟩ ⟨hc, hc2⟩ hG hcel (hk c hc hc2) (fun e => hok c hc hc2 e) hcf
      obtain ⟨g', f2, i1, i2, i3, i4⟩ := ih (c + 1) g1 (by omega) (by omega) j3 (hnext g1 j1 j2) (FxR_cf f1 hcf)
      refine ⟨g', Fx_trans f1 f2, i1, i2, ?_, fun Q => ?_⟩
      · rw [i3, j4, sumf]; omega
      · rw [if_pos h2] at hk2
        rw [← i4 Q, w_iload_n2 (pc' := 3) q319 d319_2 rfl]
        simp (config := { decide := true }) only [w_sipush (z' := (200)) (pc' := 6) q319 d319_3 rfl (by decide), w_icmp_ge (tg := 31) (pc' := 9) q319 d319_6 (by decide) rfl, w_aload_n0 (pc' := 10) q319 d319_9 rfl, w_iload_n2 (pc' := 11) q319 d319_10 rfl, w_iconst (pc' := 12) q319 d319_11 rfl, w_invv2 (ci := 11) (pc' := 15) q319 d319_12 rfl n319_133 k319_133_11 m219.1, w_if_eq (tg := 25) (pc' := 18) q319 d319_15 (by decide) rfl, w_aload_n0 (pc' := 19) q319 d319_18 rfl, w_iload_n2 (pc' := 20) q319 d319_19 rfl, w_iload_n2 (pc' := 21) q319 d319_20 rfl, w_iload_n1 (pc' := 22) q319 d319_21 rfl, w_invv3 (ci := 11) (pc' := 25) q319 d319_22 rfl n319_468 k319_468_11 m306.1, w_iinc2 (z := (1)) (pc' := 28) q319 d319_25 rfl, w_goto (tg := 2) q319 d319_28 (by decide), gs_off, gs_off0, gs_0off, gs_2, xN_0, xN_2, xN_3, xN_6, xN_7, xN_8, xN_9, xN_10, xN_11, xN_12, xN_13, xN_14, xN_15, xN_16, xN_17, xN_18, xN_19, xN_20, xN_21, xN_22, xN_23, xN_24, xN_25, xN_26, xN_27, xN_28, xN_29, xN_30, xN_31, xN_32, xN_33, xN_34, xN_35, xN_36, xN_37, xN_38, xN_39, xN_40, xN_41, xN_42, xN_43, xN_44, xN_45, xN_46, xN_47, xN_48, xN_49, xN_50, xN_51, xN_52, xN_53, xN_54, xN_55, ti_0, ti_1, ti_2, ti_3, ti_4, ti_5, ti_6, ti_7, ti_8, ti_9, ti_10, ti_16, ti_19, ti_20, ti_29, ti_30, ti_31, ti_32, ti_35, ti_36, ti_38, ti_39, ti_40, ti_41, ti_42, ti_43, ti_44, ti_45, ti_46, ti_47, ti_48, ti_49, ti_50, ti_51, ti_52, ti_53, ti_54, ti_55, ti_56, ti_57, ti_58, ti_59, ti_60, ti_61, ti_62, ti_63, ti_64, ti_65, ti_74, ti_77, ti_126, ti_200, ti_201, ti_202, ti_203, ti_204, ti_205, ti_210, ti_255, ti_256, ti_400, ti_512, ti_600, ti_601, ti_602, ti_1000, ti_1023, ti_1024, ti_2000, ti_10000, ti_12602, ti_999999, ti_m999999, ti_m1, ti_2000000, ti_3000000, xN_1, xN_4, xN_5, xN_60, xN_61, xN_64, xN_200, xN_800, xN_12000, xN_12602, eq_self, and_self, and_true, true_and, if_true, if_false, decide_true, Nat.reduceLeDiff, xc2_int, xc2_ref, xc2_ra, xc2_null, xc2_long, xc2_none, xisaT_ref, xisaT_ra, xisaT_null, xc1T_int, xc1T_ref, xc1T_ra, xc1T_null, xsum_nil, xsum_int, xsum_ref, xsum_ra, xsum_long, xsum_double, xsum_null, xfl_nil, xfl_int, xfl_ref, xfl_ra, xfl_null, xfl_long, xfl_double, List.length_cons, List.length_nil, s0, tc, hlt, hk2, j5, xfk, xfv, xak, xan, xcls, xsv', List.getElem?_cons_zero, List.getElem?_cons_succ, List.getD_cons_zero, List.getD_cons_succ, Option.getD_some, Option.isSome_some, if_true, if_pos, xcont, Option.toList_none, Option.toList_some, List.nil_append, List.cons_append]
    · obtain ⟨g', f2, i1, i2, i3, i4⟩ := ih (c + 1) g (by omega) (by omega) hG (hnext g ⟨hcel.1, hcel.2.1, fun e => absurd e h2, hcel.2.2.2⟩ (fun _ _ => rfl)) hcf
      refine ⟨g', f2, i1, i2, ?_, fun Q => ?_⟩
      · rw [i3, sumf, if_neg h2]; omega
      · rw [if_neg h2] at hk2
        rw [← i4 Q, w_iload_n2 (pc' := 3) q319 d319_2 rfl]
        simp (config := { decide := true }) only [w_sipush (z' := (200)) (pc' := 6) q319 d319_3 rfl (by decide), w_icmp_ge (tg := 31) (pc' := 9) q319 d319_6 (by decide) rfl, w_aload_n0 (pc' := 10) q319 d319_9 rfl, w_iload_n2 (pc' := 11) q319 d319_10 rfl, w_iconst (pc' := 12) q319 d319_11 rfl, w_invv2 (ci := 11) (pc' := 15) q319 d319_12 rfl n319_133 k319_133_11 m219.1, w_if_eq (tg := 25) (pc' := 18) q319 d319_15 (by decide) rfl, w_aload_n0 (pc' := 19) q319 d319_18 rfl, w_iload_n2 (pc' := 20) q319 d319_19 rfl, w_iload_n2 (pc' := 21) q319 d319_20 rfl, w_iload_n1 (pc' := 22) q319 d319_21 rfl, w_invv3 (ci := 11) (pc' := 25) q319 d319_22 rfl n319_468 k319_468_11 m306.1, w_iinc2 (z := (1)) (pc' := 28) q319 d319_25 rfl, w_goto (tg := 2) q319 d319_28 (by decide), gs_off, gs_off0, gs_0off, gs_2, xN_0, xN_2, xN_3, xN_6, xN_7, xN_8, xN_9, xN_10, xN_11, xN_12, xN_13, xN_14, xN_15, xN_16, xN_17, xN_18, xN_19, xN_20, xN_21, xN_22, xN_23, xN_24, xN_25, xN_26, xN_27, xN_28, xN_29, xN_30, xN_31, xN_32, xN_33, xN_34, xN_35, xN_36, xN_37, xN_38, xN_39, xN_40, xN_41, xN_42, xN_43, xN_44, xN_45, xN_46, xN_47, xN_48, xN_49, xN_50, xN_51, xN_52, xN_53, xN_54, xN_55, ti_0, ti_1, ti_2, ti_3, ti_4, ti_5, ti_6, ti_7, ti_8, ti_9, ti_10, ti_16, ti_19, ti_20, ti_29, ti_30, ti_31, ti_32, ti_35, ti_36, ti_38, ti_39, ti_40, ti_41, ti_42, ti_43, ti_44, ti_45, ti_46, ti_47, ti_48, ti_49, ti_50, ti_51, ti_52, ti_53, ti_54, ti_55, ti_56, ti_57, ti_58, ti_59, ti_60, ti_61, ti_62, ti_63, ti_64, ti_65, ti_74, ti_77, ti_126, ti_200, ti_201, ti_202, ti_203, ti_204, ti_205, ti_210, ti_255, ti_256, ti_400, ti_512, ti_600, ti_601, ti_602, ti_1000, ti_1023, ti_1024, ti_2000, ti_10000, ti_12602, ti_999999, ti_m999999, ti_m1, ti_2000000, ti_3000000, xN_1, xN_4, xN_5, xN_60, xN_61, xN_64, xN_200, xN_800, xN_12000, xN_12602, eq_self, and_self, and_true, true_and, if_true, if_false, decide_true, Nat.reduceLeDiff, xc2_int, xc2_ref, xc2_ra, xc2_null, xc2_long, xc2_none, xisaT_ref, xisaT_ra, xisaT_null, xc1T_int, xc1T_ref, xc1T_ra, xc1T_null, xsum_nil, xsum_int, xsum_ref, xsum_ra, xsum_long, xsum_double, xsum_null, xfl_nil, xfl_int, xfl_ref, xfl_ra, xfl_null, xfl_long, xfl_double, List.length_cons, List.length_nil, s0, tc, hlt, hk2, xfk, xfv, xak, xan, xcls, xsv', List.getElem?_cons_zero, List.getElem?_cons_succ, List.getD_cons_zero, List.getD_cons_succ, Option.getD_some, Option.isSome_some, if_true, if_pos, xcont, Option.toList_none, Option.toList_some, List.nil_append, List.cons_append]
theorem shWn_0 {A : Sh} {f : Int → Int} : ShE A (shWn A f 0) := ⟨⟨rfl, rfl⟩, fun c c1 _ => ⟨rfl, fun _ => rfl, fun _ => by unfold shWn; dsimp only; rw [if_neg (by omega)]⟩⟩
theorem shWn_200 {A : Sh} {f : Int → Int} : ShE (shWn A f 200) (shW A f) := ⟨⟨rfl, rfl⟩, fun c _ c2 => ⟨rfl, fun _ => rfl, fun _ => by unfold shWn shW; dsimp only; rw [if_pos c2]⟩⟩
theorem m_rebuildsAll {how : Int} {sp : Int → Int} {co : Int → Int → Int} {tch cf : Int → Int} {A : Sh} (hS : MdS S m) (hH : HwM X S m (d + 3) how sp co tch cf) (hA : ShOK A) (hG : rgR (g (m + 1))) (hM : ShM (g (m + 1)) A) (hcf : ∀ i, 46 ≤ i → i ≤ 52 → g m i = cf i) :
    ∃ g', FxR g g' m ∧ ShM (g' (m + 1)) (shW A (tkF sp co)) ∧ rgR (g' (m + 1)) ∧ g' m 53 = g m 53 + sumf (fun x => if A.1 x = 2 then tcS tch (A.2.2.1 x) else 0) 0 200 ∧ ∀ Q, Cw X (d + 6) 319 [.ref m, .int (iI how)] (hp S g) Q = Q (.inl none) (hp S g') := by
  obtain ⟨g', f1, k1, k2, k3, k4⟩ := l_rebuildsAll (X := X) (d := d) (A := A) hS hH (fun c c1 c2 => (hA c c1 c2).1) (okGA_of hA) 200 0 g (by decide) (by decide) hG (ShM_E shWn_0 hM) hcf
  refine ⟨g', f1, ShM_E shWn_200 k1, k2, k3, fun Q => ?_⟩
  rw [← k4 Q, e319]
  simp (config := { decide := true }) only [w_iconst (pc' := 1) q319 d319_0 rfl, w_istore_n2 (pc' := 2) q319 d319_1 rfl, gs_off, gs_off0, gs_0off, gs_2, xN_0, xN_2, xN_3, xN_6, xN_7, xN_8, xN_9, xN_10, xN_11, xN_12, xN_13, xN_14, xN_15, xN_16, xN_17, xN_18, xN_19, xN_20, xN_21, xN_22, xN_23, xN_24, xN_25, xN_26, xN_27, xN_28, xN_29, xN_30, xN_31, xN_32, xN_33, xN_34, xN_35, xN_36, xN_37, xN_38, xN_39, xN_40, xN_41, xN_42, xN_43, xN_44, xN_45, xN_46, xN_47, xN_48, xN_49, xN_50, xN_51, xN_52, xN_53, xN_54, xN_55, ti_0, ti_1, ti_2, ti_3, ti_4, ti_5, ti_6, ti_7, ti_8, ti_9, ti_10, ti_16, ti_19, ti_20, ti_29, ti_30, ti_31, ti_32, ti_35, ti_36, ti_38, ti_39, ti_40, ti_41, ti_42, ti_43, ti_44, ti_45, ti_46, ti_47, ti_48, ti_49, ti_50, ti_51, ti_52, ti_53, ti_54, ti_55, ti_56, ti_57, ti_58, ti_59, ti_60, ti_61, ti_62, ti_63, ti_64, ti_65, ti_74, ti_77, ti_126, ti_200, ti_201, ti_202, ti_203, ti_204, ti_205, ti_210, ti_255, ti_256, ti_400, ti_512, ti_600, ti_601, ti_602, ti_1000, ti_1023, ti_1024, ti_2000, ti_10000, ti_12602, ti_999999, ti_m999999, ti_m1, ti_2000000, ti_3000000, xN_1, xN_4, xN_5, xN_60, xN_61, xN_64, xN_200, xN_800, xN_12000, xN_12602, eq_self, and_self, and_true, true_and, if_true, if_false, decide_true, Nat.reduceLeDiff, xc2_int, xc2_ref, xc2_ra, xc2_null, xc2_long, xc2_none, xisaT_ref, xisaT_ra, xisaT_null, xc1T_int, xc1T_ref, xc1T_ra, xc1T_null, xsum_nil, xsum_int, xsum_ref, xsum_ra, xsum_long, xsum_double, xsum_null, xfl_nil, xfl_int, xfl_ref, xfl_ra, xfl_null, xfl_long, xfl_double, List.length_cons, List.length_nil, xfk, xfv, xak, xan, xcls, xsv', List.getElem?_cons_zero, List.getElem?_cons_succ, List.getD_cons_zero, List.getD_cons_succ, Option.getD_some, Option.isSome_some, if_true, if_pos, xcont, Option.toList_none, Option.toList_some, List.nil_append, List.cons_append]
end
