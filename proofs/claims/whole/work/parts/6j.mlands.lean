/-! The model: a content lands, a content goes -/
section
theorem TL_mk {r : Int → Int} : ∀ (ms : List Int) (i : Int), TL r i ms → ∀ k : Int, 0 ≤ k → k < ms.length → r (i + k) = mkat ms k
  | [], _, _, k, h1, h2 => by simp only [List.length_nil] at h2; omega
  | x :: ms, i, h, k, h1, h2 => by
    simp only [List.length_cons] at h2
    by_cases e : k = 0
    · subst e
      rw [Int.add_zero, mkat_0]
      exact h.1
    · rw [mkat_s _ _ (by omega), ← TL_mk ms (i + 1) h.2 (k - 1) (by omega) (by omega), show i + 1 + (k - 1) = i + k by omega]
theorem mk1_big {t : Int} (h : okG t) : ∀ x ∈ mk1 t, 0 ≤ x ∧ x ≤ 10000000 := by
  intro x hx
  have s1 : ∀ s, okS s → 0 ≤ spm s ∧ spm s ≤ 10000000 := fun s hs => by have := spm_rng hs; omega
  rcases h with h | h | h | h | h | h
  · unfold mk1 at hx; rw [if_pos h.1, List.mem_singleton] at hx; omega
  · unfold mk1 at hx; rw [if_neg (by omega), if_pos h.1, List.mem_singleton] at hx; rw [hx]; exact s1 _ h.2
  · subst h
    rw [show mk1 4 = [3000000] by decide, List.mem_singleton] at hx; omega
  · rw [mk1_rng h] at hx
    simp only [List.mem_cons, List.not_mem_nil, or_false] at hx
    rcases hx with rfl | rfl | rfl
    · exact s1 _ h.2.1
    · decide
    · exact s1 _ h.2.2
  · unfold mk1 at hx; rw [if_neg (by omega), if_neg (by omega), if_neg (by omega), if_neg (by omega), if_pos h.1, List.mem_singleton] at hx; omega
  · unfold mk1 at hx; rw [if_neg (by omega), if_neg (by omega), if_neg (by omega), if_neg (by omega), if_neg (by omega)] at hx
    simp only [List.mem_cons, List.not_mem_nil, or_false] at hx
    omega
theorem mks_big : ∀ (L : List Int), (∀ t ∈ L, okG t) → ∀ x ∈ mks L, 0 ≤ x ∧ x ≤ 10000000
  | [], _, x, hx => by simp [mks] at hx
  | t :: L, h, x, hx => by
    rw [mks_cons, List.mem_append] at hx
    rcases hx with hx | hx
    · exact mk1_big (h t (List.mem_cons_self ..)) x hx
    · exact mks_big L (fun y hy => h y (List.mem_cons_of_mem _ hy)) x hx
theorem mkat_mem {ms : List Int} {k : Int} (h1 : 0 ≤ k) (h2 : k < ms.length) : mkat ms k ∈ ms := by
  unfold mkat
  rw [List.getD_eq_getElem?_getD, List.getElem?_eq_getElem (show k.toNat < ms.length by omega)]
  exact List.getElem_mem _
variable {X : xX} {S : xLm} {g : xGm} {d : Nat} {w : xH} {Q : xO → xH → Prop}
theorem l_lands {m : Nat} {c n : Int} (hS : MdS S m) (hc : 0 ≤ c ∧ c < 200) (hn : n ≤ 60) : ∀ (k : Nat) (p : Int) (g : xGm), g (m + 1) (400 + c) = n → p + k = n → 0 ≤ p → ∀ Q,
    Wx X (d + 1) 267 69 [some (.ref m), some (.int (iI c)), some (.int (iI p))] [] (hp S g) Q = Q (.inl none) (hp S (gr g (m + 1) (fun i => if 602 + 60 * c + p ≤ i ∧ i < 602 + 60 * c + n then g (m + 21) (i - (602 + 60 * c)) else g (m + 1) i))) := by
  have s0 := hS.1
  have s1 := MdS_1 hS
  have s21 := MdS_21 hS
  have t4 : ti (400 + c) = 400 + c := ti_eq (by omega) (by omega)
  have b5 : 0 ≤ 400 + c := by omega
  have b6 : 400 + c < 12602 := by omega
  intro k
  induction k with
  | zero =>
    intro p g hg hp hp0 Q
    obtain rfl : p = n := by omega
    have tn : ti p = p := ti_eq (by omega) (by omega)
    have e : gr g (m + 1) (fun i => if 602 + 60 * c + p ≤ i ∧ i < 602 + 60 * c + p then g (m + 21) (i - (602 + 60 * c)) else g (m + 1) i) = g := by
      funext k i
      unfold gr
      split
      · next e => subst e; dsimp only; rw [if_neg (by omega)]
      · rfl
    rw [e, w_iload_n2 (pc' := 70) q267 d267_69 rfl]
    simp (config := { decide := true }) only [w_aload_n0 (pc' := 71) q267 d267_70 rfl, w_getV (pc' := 74) q267 d267_71 rfl f267_7, w_sipush (z' := (400)) (pc' := 77) q267 d267_74 rfl (by decide), w_iload_n1 (pc' := 78) q267 d267_77 rfl, w_iadd (pc' := 79) q267 d267_78 rfl, w_iaload (pc' := 80) q267 d267_79 rfl, w_icmp_ge (tg := 101) (pc' := 83) q267 d267_80 (by decide) rfl, w_return q267 d267_101 m267.2.1, gs_off, gs_off0, gs_0off, gs_2, xN_0, xN_2, xN_3, xN_6, xN_7, xN_8, xN_9, xN_10, xN_11, xN_12, xN_13, xN_14, xN_15, xN_16, xN_17, xN_18, xN_19, xN_20, xN_21, xN_22, xN_23, xN_24, xN_25, xN_26, xN_27, xN_28, xN_29, xN_30, xN_31, xN_32, xN_33, xN_34, xN_35, xN_36, xN_37, xN_38, xN_39, xN_40, xN_41, xN_42, xN_43, xN_44, xN_45, xN_46, xN_47, xN_48, xN_49, xN_50, xN_51, xN_52, xN_53, xN_54, xN_55, ti_0, ti_1, ti_2, ti_3, ti_4, ti_5, ti_6, ti_7, ti_8, ti_9, ti_10, ti_16, ti_19, ti_20, ti_29, ti_30, ti_31, ti_32, ti_35, ti_36, ti_38, ti_39, ti_40, ti_41, ti_42, ti_43, ti_44, ti_45, ti_46, ti_47, ti_48, ti_49, ti_50, ti_51, ti_52, ti_53, ti_54, ti_55, ti_56, ti_57, ti_58, ti_59, ti_60, ti_61, ti_62, ti_63, ti_64, ti_65, ti_74, ti_77, ti_126, ti_200, ti_201, ti_202, ti_203, ti_204, ti_205, ti_210, ti_255, ti_256, ti_400, ti_512, ti_600, ti_601, ti_602, ti_1000, ti_1023, ti_1024, ti_2000, ti_10000, ti_12602, ti_999999, ti_m999999, ti_m1, ti_2000000, ti_3000000, xN_1, xN_4, xN_5, xN_60, xN_61, xN_64, xN_200, xN_800, xN_12000, xN_12602, eq_self, and_self, and_true, true_and, if_true, if_false, decide_true, Nat.reduceLeDiff, xc2_int, xc2_ref, xc2_ra, xc2_null, xc2_long, xc2_none, xisaT_ref, xisaT_ra, xisaT_null, xc1T_int, xc1T_ref, xc1T_ra, xc1T_null, xsum_nil, xsum_int, xsum_ref, xsum_ra, xsum_long, xsum_double, xsum_null, xfl_nil, xfl_int, xfl_ref, xfl_ra, xfl_null, xfl_long, xfl_double, List.length_cons, List.length_nil, s0, s1, t4, b5, b6, hg, tn, Int.le_refl, xfk, xfv, xak, xan, xcls, xsv', List.getElem?_cons_zero, List.getElem?_cons_succ, List.getD_cons_zero, List.getD_cons_succ, Option.getD_some, Option.isSome_some, if_true, if_pos, xcont, Option.toList_none, Option.toList_some, List.nil_append, List.cons_append]
  | succ k ih =>
    intro p g hg hp hp0 Q
    have tn : ti n = n := ti_eq (by omega) (by omega)
    have tp : ti p = p := ti_eq (by omega) (by omega)
    have hlt : ¬ n ≤ p := by omega
    have bp : p < 60 := by omega
    have hsm := fun z => m_setMark (X := X) (d := d) (g := g) (z := z) hS hc (show 0 ≤ p ∧ p < 60 by omega)
    have e : gr g (m + 1) (fun i => if 602 + 60 * c + p ≤ i ∧ i < 602 + 60 * c + n then g (m + 21) (i - (602 + 60 * c)) else g (m + 1) i) = gr (gs g (m + 1) (602 + 60 * c + p) (g (m + 21) p)) (m + 1) (fun i => if 602 + 60 * c + (p + 1) ≤ i ∧ i < 602 + 60 * c + n then gs g (m + 1) (602 + 60 * c + p) (g (m + 21) p) (m + 21) (i - (602 + 60 * c)) else gs g (m + 1) (602 + 60 * c + p) (g (m + 21) p) (m + 1) i) := by
      funext k i
      unfold gr
      split
      · next e =>
        subst e
        dsimp only
        rw [gs_row _ _ _ (show ¬ m + 21 = m + 1 by omega), gs_at]
        by_cases e1 : i = 602 + 60 * c + p
        · rw [if_pos (by omega), if_neg (by omega), if_pos e1, e1, show 602 + 60 * c + p - (602 + 60 * c) = p by omega]
        · rw [if_neg e1]
          by_cases e2 : 602 + 60 * c + (p + 1) ≤ i ∧ i < 602 + 60 * c + n
          · rw [if_pos e2, if_pos (by omega)]
          · rw [if_neg e2, if_neg (by omega)]
      · next e => rw [gs_row _ _ _ e]
    rw [e, ← ih (p + 1) (gs g (m + 1) (602 + 60 * c + p) (g (m + 21) p)) (by rw [gs_at, if_neg (by omega)]; exact hg) (by omega) (by omega) Q, w_iload_n2 (pc' := 70) q267 d267_69 rfl]
    simp (config := { decide := true }) only [w_aload_n0 (pc' := 71) q267 d267_70 rfl, w_getV (pc' := 74) q267 d267_71 rfl f267_7, w_sipush (z' := (400)) (pc' := 77) q267 d267_74 rfl (by decide), w_iload_n1 (pc' := 78) q267 d267_77 rfl, w_iadd (pc' := 79) q267 d267_78 rfl, w_iaload (pc' := 80) q267 d267_79 rfl, w_icmp_ge (tg := 101) (pc' := 83) q267 d267_80 (by decide) rfl, w_aload_n0 (pc' := 84) q267 d267_83 rfl, w_iload_n1 (pc' := 85) q267 d267_84 rfl, w_iload_n2 (pc' := 86) q267 d267_85 rfl, w_aload_n0 (pc' := 87) q267 d267_86 rfl, w_getV (pc' := 90) q267 d267_87 rfl f267_71, w_iload_n2 (pc' := 91) q267 d267_90 rfl, w_iaload (pc' := 92) q267 d267_91 rfl, w_invv3 (ci := 11) (pc' := 95) q267 d267_92 rfl n267_119 k267_119_11 m269.1, w_iinc2 (z := (1)) (pc' := 98) q267 d267_95 rfl, w_goto (tg := 69) q267 d267_98 (by decide), gs_off, gs_off0, gs_0off, gs_2, xN_0, xN_2, xN_3, xN_6, xN_7, xN_8, xN_9, xN_10, xN_11, xN_12, xN_13, xN_14, xN_15, xN_16, xN_17, xN_18, xN_19, xN_20, xN_21, xN_22, xN_23, xN_24, xN_25, xN_26, xN_27, xN_28, xN_29, xN_30, xN_31, xN_32, xN_33, xN_34, xN_35, xN_36, xN_37, xN_38, xN_39, xN_40, xN_41, xN_42, xN_43, xN_44, xN_45, xN_46, xN_47, xN_48, xN_49, xN_50, xN_51, xN_52, xN_53, xN_54, xN_55, ti_0, ti_1, ti_2, ti_3, ti_4, ti_5, ti_6, ti_7, ti_8, ti_9, ti_10, ti_16, ti_19, ti_20, ti_29, ti_30, ti_31, ti_32, ti_35, ti_36, ti_38, ti_39, ti_40, ti_41, ti_42, ti_43, ti_44, ti_45, ti_46, ti_47, ti_48, ti_49, ti_50, ti_51, ti_52, ti_53, ti_54, ti_55, ti_56, ti_57, ti_58, ti_59, ti_60, ti_61, ti_62, ti_63, ti_64, ti_65, ti_74, ti_77, ti_126, ti_200, ti_201, ti_202, ti_203, ti_204, ti_205, ti_210, ti_255, ti_256, ti_400, ti_512, ti_600, ti_601, ti_602, ti_1000, ti_1023, ti_1024, ti_2000, ti_10000, ti_12602, ti_999999, ti_m999999, ti_m1, ti_2000000, ti_3000000, xN_1, xN_4, xN_5, xN_60, xN_61, xN_64, xN_200, xN_800, xN_12000, xN_12602, eq_self, and_self, and_true, true_and, if_true, if_false, decide_true, Nat.reduceLeDiff, xc2_int, xc2_ref, xc2_ra, xc2_null, xc2_long, xc2_none, xisaT_ref, xisaT_ra, xisaT_null, xc1T_int, xc1T_ref, xc1T_ra, xc1T_null, xsum_nil, xsum_int, xsum_ref, xsum_ra, xsum_long, xsum_double, xsum_null, xfl_nil, xfl_int, xfl_ref, xfl_ra, xfl_null, xfl_long, xfl_double, List.length_cons, List.length_nil, s0, s1, s21, t4, b5, b6, hg, tn, tp, hlt, hp0, bp, hsm, xfk, xfv, xak, xan, xcls, xsv', List.getElem?_cons_zero, List.getElem?_cons_succ, List.getD_cons_zero, List.getD_cons_succ, Option.getD_some, Option.isSome_some, if_true, if_pos, xcont, Option.toList_none, Option.toList_some, List.nil_append, List.cons_append]
theorem m_lands {m : Nat} {c kd nu : Int} {ms : List Int} (hS : MdS S m) (hc : 0 ≤ c ∧ c < 200) (h33 : g m 33 = kd) (h34 : g m 34 = nu) (hkd : 0 ≤ kd ∧ kd ≤ 2) (hnu : -1000000000 ≤ nu ∧ nu ≤ 1000000000) (h2 : kd = 2 → g m 32 = ms.length ∧ ms.length ≤ 60 ∧ TL (g (m + 21)) 0 ms ∧ ∀ x ∈ ms, 0 ≤ x ∧ x ≤ 10000000) (hG : rgR (g (m + 1))) :
    ∃ r', CelR r' c kd nu ms ∧ (∀ i, ¬ celI c i → r' i = g (m + 1) i) ∧ rgR r' ∧ ∀ Q, Cw X (d + 2) 267 [.ref m, .int (iI c)] (hp S g) Q = Q (.inl none) (hp S (gr g (m + 1) r')) := by
  have s0 := hS.1
  have s1 := MdS_1 hS
  have tc : ti c = c := ti_eq (by omega) (by omega)
  have t2 : ti (200 + c) = 200 + c := ti_eq (by omega) (by omega)
  have t4 : ti (400 + c) = 400 + c := ti_eq (by omega) (by omega)
  have b1 : 0 ≤ c := hc.1
  have b2 : c < 12602 := by omega
  have b3 : 0 ≤ 200 + c := by omega
  have b4 : 200 + c < 12602 := by omega
  have b5 : 0 ≤ 400 + c := by omega
  have b6 : 400 + c < 12602 := by omega
  have tk : ti kd = kd := ti_eq (by omega) (by omega)
  have hem := m_empties (X := X) (d := d) (g := g) hS hc
  obtain ⟨nv, env⟩ : ∃ nv : Int, nv = if kd = 1 then nu else 0 := ⟨_, rfl⟩
  obtain ⟨n, en⟩ : ∃ n : Int, n = if kd = 2 then (ms.length : Int) else 0 := ⟨_, rfl⟩
  have hn : 0 ≤ n ∧ n ≤ 60 := by
    rw [en]; split
    · next e => have := (h2 e).2.1; omega
    · omega
  have hnv : -1000000000 ≤ nv ∧ nv ≤ 1000000000 := by rw [env]; split <;> omega
  obtain ⟨G, eG⟩ : ∃ G, G = gs (gs (gs (gr g (m + 1) (emR (g (m + 1)) c)) (m + 1) c kd) (m + 1) (200 + c) nv) (m + 1) (400 + c) n := ⟨_, rfl⟩
  have r1 : ∀ i, G (m + 1) i = if i = 400 + c then n else if i = 200 + c then nv else if i = c then kd else emR (g (m + 1)) c i := fun i => by
    rw [eG, gs_at, gs_at, gs_at, gr_hit]
  have r2 : ∀ h, ¬ h = m + 1 → G h = g h := fun h hh => by rw [eG, gs_row _ _ _ hh, gs_row _ _ _ hh, gs_row _ _ _ hh, gr_row _ _ hh]
  have hl := l_lands (X := X) (d := d + 1) (c := c) (n := n) hS hc hn.2 n.toNat 0 G (by rw [r1, if_pos rfl]) (by omega) (by decide)
  obtain ⟨r', er'⟩ : ∃ r' : Int → Int, r' = fun i => if 602 + 60 * c + 0 ≤ i ∧ i < 602 + 60 * c + n then G (m + 21) (i - (602 + 60 * c)) else G (m + 1) i := ⟨_, rfl⟩
  have hr' : ∀ i, r' i = if 602 + 60 * c ≤ i ∧ i < 602 + 60 * c + n then g (m + 21) (i - (602 + 60 * c)) else if i = 400 + c then n else if i = 200 + c then nv else if i = c then kd else emR (g (m + 1)) c i := fun i => by
    rw [er', ← r1]
    dsimp only
    rw [Int.add_zero, r2 (m + 21) (by omega)]
  have emk : gr G (m + 1) r' = gr g (m + 1) r' := by
    funext k i
    unfold gr
    split
    · rfl
    · next e => rw [r2 _ e]
  have hread : kd = 2 → ∀ k : Int, 0 ≤ k → k < ms.length → g (m + 21) k = mkat ms k := fun e k k1 k2 => by
    have := TL_mk ms 0 (h2 e).2.2.1 k k1 k2
    rw [Int.zero_add] at this
    exact this
  have hn2 : kd = 2 → n = ms.length := fun e => by rw [en, if_pos e]
  refine ⟨r', ⟨?_, fun e => ?_, fun e => ⟨?_, (h2 e).2.1, fun k k1 k2 => ?_⟩, fun e => ?_⟩, fun i hi => ?_, fun i => ?_, fun Q => ?_⟩
  · rw [hr', if_neg (by omega), if_neg (by omega), if_neg (by omega), if_pos rfl]
  · rw [hr', if_neg (by omega), if_neg (by omega), if_pos rfl, env, if_pos e]
  · rw [hr', if_neg (by omega), if_pos rfl]; exact hn2 e
  · have := hn2 e
    rw [hr', if_pos (by omega), show 602 + 60 * c + k - (602 + 60 * c) = k by omega]
    exact hread e k k1 k2
  · rw [hr', if_neg (by omega), if_pos rfl, en, if_neg e]
  · have hi' : ¬ celI c i := hi
    unfold celI at hi'
    rw [hr', if_neg (by omega), if_neg (by omega), if_neg (by omega), if_neg (by omega)]
    exact emR_off hi
  · rw [hr']
    by_cases e : 602 + 60 * c ≤ i ∧ i < 602 + 60 * c + n
    · rw [if_pos e]
      have e2 : kd = 2 := by
        by_cases h : kd = 2
        · exact h
        · rw [en, if_neg h] at e; omega
      have := hn2 e2
      rw [hread e2 _ (by omega) (by omega)]
      have := (h2 e2).2.2.2 _ (mkat_mem (ms := ms) (k := i - (602 + 60 * c)) (by omega) (by omega))
      omega
    · rw [if_neg e]
      split
      · omega
      split
      · exact hnv
      split
      · omega
      · exact emR_rg hG i
  · have head : Cw X (d + 2) 267 [.ref m, .int (iI c)] (hp S g) Q = Wx X (d + 2) 267 69 [some (.ref m), some (.int (iI c)), some (.int (iI 0))] [] (hp S G) Q := by
      rw [e267]
      have e33 : ∀ (f : Int → Int), gr g (m + 1) f m 33 = kd := fun f => by rw [gr_row _ _ (by omega)]; exact h33
      have e34 : ∀ (f : Int → Int), gr g (m + 1) f m 34 = nu := fun f => by rw [gr_row _ _ (by omega)]; exact h34
      have e32 : ∀ (f : Int → Int), gr g (m + 1) f m 32 = g m 32 := fun f => by rw [gr_row _ _ (by omega)]
      by_cases k1 : kd = 1
      · have k2 : ¬ kd = 2 := by omega
        rw [if_pos k1] at env
        rw [if_neg k2] at en
        rw [eG, env, en]
        subst k1
        simp (config := { decide := true }) only [w_aload_n0 (pc' := 1) q267 d267_0 rfl, w_iload_n1 (pc' := 2) q267 d267_1 rfl, w_invv1 (ci := 11) (pc' := 5) q267 d267_2 rfl n267_379 k267_379_11 m268.1, w_aload_n0 (pc' := 6) q267 d267_5 rfl, w_getV (pc' := 9) q267 d267_6 rfl f267_7, w_iload_n1 (pc' := 10) q267 d267_9 rfl, w_aload_n0 (pc' := 11) q267 d267_10 rfl, w_getI (pc' := 14) q267 d267_11 rfl f267_358, w_iastore (pc' := 15) q267 d267_14 rfl, w_aload_n0 (pc' := 16) q267 d267_15 rfl, w_getV (pc' := 19) q267 d267_16 rfl f267_7, w_sipush (z' := (200)) (pc' := 22) q267 d267_19 rfl (by decide), w_iload_n1 (pc' := 23) q267 d267_22 rfl, w_iadd (pc' := 24) q267 d267_23 rfl, w_aload_n0 (pc' := 25) q267 d267_24 rfl, w_getI (pc' := 28) q267 d267_25 rfl f267_358, w_iconst (pc' := 29) q267 d267_28 rfl, w_icmp_ne (tg := 39) (pc' := 32) q267 d267_29 (by decide) rfl, w_aload_n0 (pc' := 33) q267 d267_32 rfl, w_getI (pc' := 36) q267 d267_33 rfl f267_364, w_goto (tg := 40) q267 d267_36 (by decide), w_iconst (pc' := 40) q267 d267_39 rfl, w_iastore (pc' := 41) q267 d267_40 rfl, w_aload_n0 (pc' := 42) q267 d267_41 rfl, w_getV (pc' := 45) q267 d267_42 rfl f267_7, w_sipush (z' := (400)) (pc' := 48) q267 d267_45 rfl (by decide), w_iload_n1 (pc' := 49) q267 d267_48 rfl, w_iadd (pc' := 50) q267 d267_49 rfl, w_aload_n0 (pc' := 51) q267 d267_50 rfl, w_getI (pc' := 54) q267 d267_51 rfl f267_358, w_iconst (pc' := 55) q267 d267_54 rfl, w_icmp_ne (tg := 65) (pc' := 58) q267 d267_55 (by decide) rfl, w_aload_n0 (pc' := 59) q267 d267_58 rfl, w_getI (pc' := 62) q267 d267_59 rfl f267_285, w_goto (tg := 66) q267 d267_62 (by decide), w_iconst (pc' := 66) q267 d267_65 rfl, w_iastore (pc' := 67) q267 d267_66 rfl, w_iconst (pc' := 68) q267 d267_67 rfl, w_istore_n2 (pc' := 69) q267 d267_68 rfl, gs_off, gs_off0, gs_0off, gs_2, xN_0, xN_2, xN_3, xN_6, xN_7, xN_8, xN_9, xN_10, xN_11, xN_12, xN_13, xN_14, xN_15, xN_16, xN_17, xN_18, xN_19, xN_20, xN_21, xN_22, xN_23, xN_24, xN_25, xN_26, xN_27, xN_28, xN_29, xN_30, xN_31, xN_32, xN_33, xN_34, xN_35, xN_36, xN_37, xN_38, xN_39, xN_40, xN_41, xN_42, xN_43, xN_44, xN_45, xN_46, xN_47, xN_48, xN_49, xN_50, xN_51, xN_52, xN_53, xN_54, xN_55, ti_0, ti_1, ti_2, ti_3, ti_4, ti_5, ti_6, ti_7, ti_8, ti_9, ti_10, ti_16, ti_19, ti_20, ti_29, ti_30, ti_31, ti_32, ti_35, ti_36, ti_38, ti_39, ti_40, ti_41, ti_42, ti_43, ti_44, ti_45, ti_46, ti_47, ti_48, ti_49, ti_50, ti_51, ti_52, ti_53, ti_54, ti_55, ti_56, ti_57, ti_58, ti_59, ti_60, ti_61, ti_62, ti_63, ti_64, ti_65, ti_74, ti_77, ti_126, ti_200, ti_201, ti_202, ti_203, ti_204, ti_205, ti_210, ti_255, ti_256, ti_400, ti_512, ti_600, ti_601, ti_602, ti_1000, ti_1023, ti_1024, ti_2000, ti_10000, ti_12602, ti_999999, ti_m999999, ti_m1, ti_2000000, ti_3000000, xN_1, xN_4, xN_5, xN_60, xN_61, xN_64, xN_200, xN_800, xN_12000, xN_12602, eq_self, and_self, and_true, true_and, if_true, if_false, decide_true, Nat.reduceLeDiff, xc2_int, xc2_ref, xc2_ra, xc2_null, xc2_long, xc2_none, xisaT_ref, xisaT_ra, xisaT_null, xc1T_int, xc1T_ref, xc1T_ra, xc1T_null, xsum_nil, xsum_int, xsum_ref, xsum_ra, xsum_long, xsum_double, xsum_null, xfl_nil, xfl_int, xfl_ref, xfl_ra, xfl_null, xfl_long, xfl_double, List.length_cons, List.length_nil, s0, s1, hem, tc, t2, t4, b1, b2, b3, b4, b5, b6, gs_off0, e33, e34, e32, tk, not_true_eq_false, not_false_eq_true, show ¬ (1 : Int) = 2 from by decide, xfk, xfv, xak, xan, xcls, xsv', List.getElem?_cons_zero, List.getElem?_cons_succ, List.getD_cons_zero, List.getD_cons_succ, Option.getD_some, Option.isSome_some, if_true, if_pos, xcont, Option.toList_none, Option.toList_some, List.nil_append, List.cons_append]
      · rw [if_neg k1] at env
        by_cases k2 : kd = 2
        · rw [if_pos k2] at en
          have e32' := (h2 k2).1
          rw [eG, env, en]
          subst k2
          simp (config := { decide := true }) only [w_aload_n0 (pc' := 1) q267 d267_0 rfl, w_iload_n1 (pc' := 2) q267 d267_1 rfl, w_invv1 (ci := 11) (pc' := 5) q267 d267_2 rfl n267_379 k267_379_11 m268.1, w_aload_n0 (pc' := 6) q267 d267_5 rfl, w_getV (pc' := 9) q267 d267_6 rfl f267_7, w_iload_n1 (pc' := 10) q267 d267_9 rfl, w_aload_n0 (pc' := 11) q267 d267_10 rfl, w_getI (pc' := 14) q267 d267_11 rfl f267_358, w_iastore (pc' := 15) q267 d267_14 rfl, w_aload_n0 (pc' := 16) q267 d267_15 rfl, w_getV (pc' := 19) q267 d267_16 rfl f267_7, w_sipush (z' := (200)) (pc' := 22) q267 d267_19 rfl (by decide), w_iload_n1 (pc' := 23) q267 d267_22 rfl, w_iadd (pc' := 24) q267 d267_23 rfl, w_aload_n0 (pc' := 25) q267 d267_24 rfl, w_getI (pc' := 28) q267 d267_25 rfl f267_358, w_iconst (pc' := 29) q267 d267_28 rfl, w_icmp_ne (tg := 39) (pc' := 32) q267 d267_29 (by decide) rfl, w_aload_n0 (pc' := 33) q267 d267_32 rfl, w_getI (pc' := 36) q267 d267_33 rfl f267_364, w_goto (tg := 40) q267 d267_36 (by decide), w_iconst (pc' := 40) q267 d267_39 rfl, w_iastore (pc' := 41) q267 d267_40 rfl, w_aload_n0 (pc' := 42) q267 d267_41 rfl, w_getV (pc' := 45) q267 d267_42 rfl f267_7, w_sipush (z' := (400)) (pc' := 48) q267 d267_45 rfl (by decide), w_iload_n1 (pc' := 49) q267 d267_48 rfl, w_iadd (pc' := 50) q267 d267_49 rfl, w_aload_n0 (pc' := 51) q267 d267_50 rfl, w_getI (pc' := 54) q267 d267_51 rfl f267_358, w_iconst (pc' := 55) q267 d267_54 rfl, w_icmp_ne (tg := 65) (pc' := 58) q267 d267_55 (by decide) rfl, w_aload_n0 (pc' := 59) q267 d267_58 rfl, w_getI (pc' := 62) q267 d267_59 rfl f267_285, w_goto (tg := 66) q267 d267_62 (by decide), w_iconst (pc' := 66) q267 d267_65 rfl, w_iastore (pc' := 67) q267 d267_66 rfl, w_iconst (pc' := 68) q267 d267_67 rfl, w_istore_n2 (pc' := 69) q267 d267_68 rfl, gs_off, gs_off0, gs_0off, gs_2, xN_0, xN_2, xN_3, xN_6, xN_7, xN_8, xN_9, xN_10, xN_11, xN_12, xN_13, xN_14, xN_15, xN_16, xN_17, xN_18, xN_19, xN_20, xN_21, xN_22, xN_23, xN_24, xN_25, xN_26, xN_27, xN_28, xN_29, xN_30, xN_31, xN_32, xN_33, xN_34, xN_35, xN_36, xN_37, xN_38, xN_39, xN_40, xN_41, xN_42, xN_43, xN_44, xN_45, xN_46, xN_47, xN_48, xN_49, xN_50, xN_51, xN_52, xN_53, xN_54, xN_55, ti_0, ti_1, ti_2, ti_3, ti_4, ti_5, ti_6, ti_7, ti_8, ti_9, ti_10, ti_16, ti_19, ti_20, ti_29, ti_30, ti_31, ti_32, ti_35, ti_36, ti_38, ti_39, ti_40, ti_41, ti_42, ti_43, ti_44, ti_45, ti_46, ti_47, ti_48, ti_49, ti_50, ti_51, ti_52, ti_53, ti_54, ti_55, ti_56, ti_57, ti_58, ti_59, ti_60, ti_61, ti_62, ti_63, ti_64, ti_65, ti_74, ti_77, ti_126, ti_200, ti_201, ti_202, ti_203, ti_204, ti_205, ti_210, ti_255, ti_256, ti_400, ti_512, ti_600, ti_601, ti_602, ti_1000, ti_1023, ti_1024, ti_2000, ti_10000, ti_12602, ti_999999, ti_m999999, ti_m1, ti_2000000, ti_3000000, xN_1, xN_4, xN_5, xN_60, xN_61, xN_64, xN_200, xN_800, xN_12000, xN_12602, eq_self, and_self, and_true, true_and, if_true, if_false, decide_true, Nat.reduceLeDiff, xc2_int, xc2_ref, xc2_ra, xc2_null, xc2_long, xc2_none, xisaT_ref, xisaT_ra, xisaT_null, xc1T_int, xc1T_ref, xc1T_ra, xc1T_null, xsum_nil, xsum_int, xsum_ref, xsum_ra, xsum_long, xsum_double, xsum_null, xfl_nil, xfl_int, xfl_ref, xfl_ra, xfl_null, xfl_long, xfl_double, List.length_cons, List.length_nil, s0, s1, hem, tc, t2, t4, b1, b2, b3, b4, b5, b6, gs_off0, e33, e34, e32, e32', tk, not_true_eq_false, not_false_eq_true, show ¬ (2 : Int) = 1 from by decide, xfk, xfv, xak, xan, xcls, xsv', List.getElem?_cons_zero, List.getElem?_cons_succ, List.getD_cons_zero, List.getD_cons_succ, Option.getD_some, Option.isSome_some, if_true, if_pos, xcont, Option.toList_none, Option.toList_some, List.nil_append, List.cons_append]
        · rw [if_neg k2] at en
          rw [eG, env, en]
          simp (config := { decide := true }) only [w_aload_n0 (pc' := 1) q267 d267_0 rfl, w_iload_n1 (pc' := 2) q267 d267_1 rfl, w_invv1 (ci := 11) (pc' := 5) q267 d267_2 rfl n267_379 k267_379_11 m268.1, w_aload_n0 (pc' := 6) q267 d267_5 rfl, w_getV (pc' := 9) q267 d267_6 rfl f267_7, w_iload_n1 (pc' := 10) q267 d267_9 rfl, w_aload_n0 (pc' := 11) q267 d267_10 rfl, w_getI (pc' := 14) q267 d267_11 rfl f267_358, w_iastore (pc' := 15) q267 d267_14 rfl, w_aload_n0 (pc' := 16) q267 d267_15 rfl, w_getV (pc' := 19) q267 d267_16 rfl f267_7, w_sipush (z' := (200)) (pc' := 22) q267 d267_19 rfl (by decide), w_iload_n1 (pc' := 23) q267 d267_22 rfl, w_iadd (pc' := 24) q267 d267_23 rfl, w_aload_n0 (pc' := 25) q267 d267_24 rfl, w_getI (pc' := 28) q267 d267_25 rfl f267_358, w_iconst (pc' := 29) q267 d267_28 rfl, w_icmp_ne (tg := 39) (pc' := 32) q267 d267_29 (by decide) rfl, w_aload_n0 (pc' := 33) q267 d267_32 rfl, w_getI (pc' := 36) q267 d267_33 rfl f267_364, w_goto (tg := 40) q267 d267_36 (by decide), w_iconst (pc' := 40) q267 d267_39 rfl, w_iastore (pc' := 41) q267 d267_40 rfl, w_aload_n0 (pc' := 42) q267 d267_41 rfl, w_getV (pc' := 45) q267 d267_42 rfl f267_7, w_sipush (z' := (400)) (pc' := 48) q267 d267_45 rfl (by decide), w_iload_n1 (pc' := 49) q267 d267_48 rfl, w_iadd (pc' := 50) q267 d267_49 rfl, w_aload_n0 (pc' := 51) q267 d267_50 rfl, w_getI (pc' := 54) q267 d267_51 rfl f267_358, w_iconst (pc' := 55) q267 d267_54 rfl, w_icmp_ne (tg := 65) (pc' := 58) q267 d267_55 (by decide) rfl, w_aload_n0 (pc' := 59) q267 d267_58 rfl, w_getI (pc' := 62) q267 d267_59 rfl f267_285, w_goto (tg := 66) q267 d267_62 (by decide), w_iconst (pc' := 66) q267 d267_65 rfl, w_iastore (pc' := 67) q267 d267_66 rfl, w_iconst (pc' := 68) q267 d267_67 rfl, w_istore_n2 (pc' := 69) q267 d267_68 rfl, gs_off, gs_off0, gs_0off, gs_2, xN_0, xN_2, xN_3, xN_6, xN_7, xN_8, xN_9, xN_10, xN_11, xN_12, xN_13, xN_14, xN_15, xN_16, xN_17, xN_18, xN_19, xN_20, xN_21, xN_22, xN_23, xN_24, xN_25, xN_26, xN_27, xN_28, xN_29, xN_30, xN_31, xN_32, xN_33, xN_34, xN_35, xN_36, xN_37, xN_38, xN_39, xN_40, xN_41, xN_42, xN_43, xN_44, xN_45, xN_46, xN_47, xN_48, xN_49, xN_50, xN_51, xN_52, xN_53, xN_54, xN_55, ti_0, ti_1, ti_2, ti_3, ti_4, ti_5, ti_6, ti_7, ti_8, ti_9, ti_10, ti_16, ti_19, ti_20, ti_29, ti_30, ti_31, ti_32, ti_35, ti_36, ti_38, ti_39, ti_40, ti_41, ti_42, ti_43, ti_44, ti_45, ti_46, ti_47, ti_48, ti_49, ti_50, ti_51, ti_52, ti_53, ti_54, ti_55, ti_56, ti_57, ti_58, ti_59, ti_60, ti_61, ti_62, ti_63, ti_64, ti_65, ti_74, ti_77, ti_126, ti_200, ti_201, ti_202, ti_203, ti_204, ti_205, ti_210, ti_255, ti_256, ti_400, ti_512, ti_600, ti_601, ti_602, ti_1000, ti_1023, ti_1024, ti_2000, ti_10000, ti_12602, ti_999999, ti_m999999, ti_m1, ti_2000000, ti_3000000, xN_1, xN_4, xN_5, xN_60, xN_61, xN_64, xN_200, xN_800, xN_12000, xN_12602, eq_self, and_self, and_true, true_and, if_true, if_false, decide_true, Nat.reduceLeDiff, xc2_int, xc2_ref, xc2_ra, xc2_null, xc2_long, xc2_none, xisaT_ref, xisaT_ra, xisaT_null, xc1T_int, xc1T_ref, xc1T_ra, xc1T_null, xsum_nil, xsum_int, xsum_ref, xsum_ra, xsum_long, xsum_double, xsum_null, xfl_nil, xfl_int, xfl_ref, xfl_ra, xfl_null, xfl_long, xfl_double, List.length_cons, List.length_nil, s0, s1, hem, tc, t2, t4, b1, b2, b3, b4, b5, b6, gs_off0, e33, e34, e32, tk, k1, k2, not_true_eq_false, not_false_eq_true, xfk, xfv, xak, xan, xcls, xsv', List.getElem?_cons_zero, List.getElem?_cons_succ, List.getD_cons_zero, List.getD_cons_succ, Option.getD_some, Option.isSome_some, if_true, if_pos, xcont, Option.toList_none, Option.toList_some, List.nil_append, List.cons_append]
    rw [head, hl, ← er', emk]
/-! a cell's content goes to another cell -/
theorem l_moves {m : Nat} {f t : Int} (hS : MdS S m) (hf : 0 ≤ f ∧ f < 200) (ht : 0 ≤ t ∧ t < 200) (hne : ¬ f = t) : ∀ (k : Nat) (p : Int) (g : xGm), p + k = 60 → 0 ≤ p → ∀ Q,
    Wx X (d + 1) 318 2 [some (.ref m), some (.int (iI f)), some (.int (iI t)), some (.int (iI p))] [] (hp S g) Q = Wx X (d + 1) 318 35 [some (.ref m), some (.int (iI f)), some (.int (iI t)), some (.int (iI 60))] [] (hp S (gr g (m + 1) (fun i => if 602 + 60 * t + p ≤ i ∧ i < 602 + 60 * t + 60 then g (m + 1) (i - 60 * t + 60 * f) else g (m + 1) i))) Q := by
  have s0 := hS.1
  have s1 := MdS_1 hS
  intro k
  induction k with
  | zero =>
    intro p g hp hp0 Q
    obtain rfl : p = 60 := by omega
    have e : gr g (m + 1) (fun i => if 602 + 60 * t + 60 ≤ i ∧ i < 602 + 60 * t + 60 then g (m + 1) (i - 60 * t + 60 * f) else g (m + 1) i) = g := by
      funext k i
      unfold gr
      split
      · next e => subst e; dsimp only; rw [if_neg (by omega)]
      · rfl
    rw [e, w_iload_n3 (pc' := 3) q318 d318_2 rfl]
    simp (config := { decide := true }) only [w_bipush (z' := (60)) (pc' := 5) q318 d318_3 rfl (by decide), w_icmp_ge (tg := 35) (pc' := 8) q318 d318_5 (by decide) rfl, gs_off, gs_off0, gs_0off, gs_2, xN_0, xN_2, xN_3, xN_6, xN_7, xN_8, xN_9, xN_10, xN_11, xN_12, xN_13, xN_14, xN_15, xN_16, xN_17, xN_18, xN_19, xN_20, xN_21, xN_22, xN_23, xN_24, xN_25, xN_26, xN_27, xN_28, xN_29, xN_30, xN_31, xN_32, xN_33, xN_34, xN_35, xN_36, xN_37, xN_38, xN_39, xN_40, xN_41, xN_42, xN_43, xN_44, xN_45, xN_46, xN_47, xN_48, xN_49, xN_50, xN_51, xN_52, xN_53, xN_54, xN_55, ti_0, ti_1, ti_2, ti_3, ti_4, ti_5, ti_6, ti_7, ti_8, ti_9, ti_10, ti_16, ti_19, ti_20, ti_29, ti_30, ti_31, ti_32, ti_35, ti_36, ti_38, ti_39, ti_40, ti_41, ti_42, ti_43, ti_44, ti_45, ti_46, ti_47, ti_48, ti_49, ti_50, ti_51, ti_52, ti_53, ti_54, ti_55, ti_56, ti_57, ti_58, ti_59, ti_60, ti_61, ti_62, ti_63, ti_64, ti_65, ti_74, ti_77, ti_126, ti_200, ti_201, ti_202, ti_203, ti_204, ti_205, ti_210, ti_255, ti_256, ti_400, ti_512, ti_600, ti_601, ti_602, ti_1000, ti_1023, ti_1024, ti_2000, ti_10000, ti_12602, ti_999999, ti_m999999, ti_m1, ti_2000000, ti_3000000, xN_1, xN_4, xN_5, xN_60, xN_61, xN_64, xN_200, xN_800, xN_12000, xN_12602, eq_self, and_self, and_true, true_and, if_true, if_false, decide_true, Nat.reduceLeDiff, xc2_int, xc2_ref, xc2_ra, xc2_null, xc2_long, xc2_none, xisaT_ref, xisaT_ra, xisaT_null, xc1T_int, xc1T_ref, xc1T_ra, xc1T_null, xsum_nil, xsum_int, xsum_ref, xsum_ra, xsum_long, xsum_double, xsum_null, xfl_nil, xfl_int, xfl_ref, xfl_ra, xfl_null, xfl_long, xfl_double, List.length_cons, List.length_nil, xfk, xfv, xak, xan, xcls, xsv', List.getElem?_cons_zero, List.getElem?_cons_succ, List.getD_cons_zero, List.getD_cons_succ, Option.getD_some, Option.isSome_some, if_true, if_pos, xcont, Option.toList_none, Option.toList_some, List.nil_append, List.cons_append]
  | succ k ih =>
    intro p g hp hp0 Q
    have tp : ti p = p := ti_eq (by omega) (by omega)
    have hlt : ¬ 60 ≤ p := by omega
    have tf : ti (602 + 60 * f + p) = 602 + 60 * f + p := ti_eq (by omega) (by omega)
    have b1 : 0 ≤ 602 + 60 * f + p := by omega
    have b2 : 602 + 60 * f + p < 12602 := by omega
    have hsm := fun z => m_setMark (X := X) (d := d) (g := g) (z := z) hS ht (show 0 ≤ p ∧ p < 60 by omega)
    have e : gr g (m + 1) (fun i => if 602 + 60 * t + p ≤ i ∧ i < 602 + 60 * t + 60 then g (m + 1) (i - 60 * t + 60 * f) else g (m + 1) i) = gr (gs g (m + 1) (602 + 60 * t + p) (g (m + 1) (602 + 60 * f + p))) (m + 1) (fun i => if 602 + 60 * t + (p + 1) ≤ i ∧ i < 602 + 60 * t + 60 then gs g (m + 1) (602 + 60 * t + p) (g (m + 1) (602 + 60 * f + p)) (m + 1) (i - 60 * t + 60 * f) else gs g (m + 1) (602 + 60 * t + p) (g (m + 1) (602 + 60 * f + p)) (m + 1) i) := by
      funext k i
      unfold gr
      split
      · next e =>
        subst e
        dsimp only
        rw [gs_at, gs_at]
        by_cases e1 : i = 602 + 60 * t + p
        · rw [if_pos (by omega), if_neg (by omega), if_pos e1, e1, show 602 + 60 * t + p - 60 * t + 60 * f = 602 + 60 * f + p by omega]
        · rw [if_neg e1]
          by_cases e2 : 602 + 60 * t + (p + 1) ≤ i ∧ i < 602 + 60 * t + 60
          · rw [if_pos e2, if_pos (by omega), if_neg (by omega)]
          · rw [if_neg e2, if_neg (by omega)]
      · next e => rw [gs_row _ _ _ e]
    rw [e, ← ih (p + 1) (gs g (m + 1) (602 + 60 * t + p) (g (m + 1) (602 + 60 * f + p))) (by omega) (by omega) Q, w_iload_n3 (pc' := 3) q318 d318_2 rfl]
    simp (config := { decide := true }) only [w_bipush (z' := (60)) (pc' := 5) q318 d318_3 rfl (by decide), w_icmp_ge (tg := 35) (pc' := 8) q318 d318_5 (by decide) rfl, w_aload_n0 (pc' := 9) q318 d318_8 rfl, w_iload_n2 (pc' := 10) q318 d318_9 rfl, w_iload_n3 (pc' := 11) q318 d318_10 rfl, w_aload_n0 (pc' := 12) q318 d318_11 rfl, w_getV (pc' := 15) q318 d318_12 rfl f318_7, w_sipush (z' := (602)) (pc' := 18) q318 d318_15 rfl (by decide), w_bipush (z' := (60)) (pc' := 20) q318 d318_18 rfl (by decide), w_iload_n1 (pc' := 21) q318 d318_20 rfl, w_imul (pc' := 22) q318 d318_21 rfl, w_iadd (pc' := 23) q318 d318_22 rfl, w_iload_n3 (pc' := 24) q318 d318_23 rfl, w_iadd (pc' := 25) q318 d318_24 rfl, w_iaload (pc' := 26) q318 d318_25 rfl, w_invv3 (ci := 11) (pc' := 29) q318 d318_26 rfl n318_119 k318_119_11 m269.1, w_iinc3 (z := (1)) (pc' := 32) q318 d318_29 rfl, w_goto (tg := 2) q318 d318_32 (by decide), gs_off, gs_off0, gs_0off, gs_2, xN_0, xN_2, xN_3, xN_6, xN_7, xN_8, xN_9, xN_10, xN_11, xN_12, xN_13, xN_14, xN_15, xN_16, xN_17, xN_18, xN_19, xN_20, xN_21, xN_22, xN_23, xN_24, xN_25, xN_26, xN_27, xN_28, xN_29, xN_30, xN_31, xN_32, xN_33, xN_34, xN_35, xN_36, xN_37, xN_38, xN_39, xN_40, xN_41, xN_42, xN_43, xN_44, xN_45, xN_46, xN_47, xN_48, xN_49, xN_50, xN_51, xN_52, xN_53, xN_54, xN_55, ti_0, ti_1, ti_2, ti_3, ti_4, ti_5, ti_6, ti_7, ti_8, ti_9, ti_10, ti_16, ti_19, ti_20, ti_29, ti_30, ti_31, ti_32, ti_35, ti_36, ti_38, ti_39, ti_40, ti_41, ti_42, ti_43, ti_44, ti_45, ti_46, ti_47, ti_48, ti_49, ti_50, ti_51, ti_52, ti_53, ti_54, ti_55, ti_56, ti_57, ti_58, ti_59, ti_60, ti_61, ti_62, ti_63, ti_64, ti_65, ti_74, ti_77, ti_126, ti_200, ti_201, ti_202, ti_203, ti_204, ti_205, ti_210, ti_255, ti_256, ti_400, ti_512, ti_600, ti_601, ti_602, ti_1000, ti_1023, ti_1024, ti_2000, ti_10000, ti_12602, ti_999999, ti_m999999, ti_m1, ti_2000000, ti_3000000, xN_1, xN_4, xN_5, xN_60, xN_61, xN_64, xN_200, xN_800, xN_12000, xN_12602, eq_self, and_self, and_true, true_and, if_true, if_false, decide_true, Nat.reduceLeDiff, xc2_int, xc2_ref, xc2_ra, xc2_null, xc2_long, xc2_none, xisaT_ref, xisaT_ra, xisaT_null, xc1T_int, xc1T_ref, xc1T_ra, xc1T_null, xsum_nil, xsum_int, xsum_ref, xsum_ra, xsum_long, xsum_double, xsum_null, xfl_nil, xfl_int, xfl_ref, xfl_ra, xfl_null, xfl_long, xfl_double, List.length_cons, List.length_nil, s0, s1, tp, hlt, tf, b1, b2, hsm, xfk, xfv, xak, xan, xcls, xsv', List.getElem?_cons_zero, List.getElem?_cons_succ, List.getD_cons_zero, List.getD_cons_succ, Option.getD_some, Option.isSome_some, if_true, if_pos, xcont, Option.toList_none, Option.toList_some, List.nil_append, List.cons_append]
/-- the row after a content went from f to t -/
def mvR (r : Int → Int) (f t : Int) : Int → Int := emR (fun i => if i = t then r f else if i = 200 + t then r (200 + f) else if i = 400 + t then r (400 + f) else if 602 + 60 * t ≤ i ∧ i < 602 + 60 * t + 60 then r (i - 60 * t + 60 * f) else r i) f
theorem mvR_off {r : Int → Int} {f t i : Int} (h1 : ¬ celI f i) (h2 : ¬ celI t i) : mvR r f t i = r i := by
  unfold celI at h2
  unfold mvR
  rw [emR_off h1, if_neg (by omega), if_neg (by omega), if_neg (by omega), if_neg (by omega)]
theorem mvR_f {r : Int → Int} {f t nu : Int} {ms : List Int} : CelR (mvR r f t) f 0 nu ms := emR_cel
theorem mvR_t {r : Int → Int} {f t kd nu : Int} {ms : List Int} (hf : 0 ≤ f ∧ f < 200) (ht : 0 ≤ t ∧ t < 200) (hne : ¬ f = t) (h : CelR r f kd nu ms) : CelR (mvR r f t) t kd nu ms := by
  obtain ⟨h1, h2, h3, h4⟩ := h
  have off : ∀ i, celI t i → ¬ celI f i := fun i hi => celI_ne ht.1 ht.2 hf.1 hf.2 (fun e => hne e.symm) hi
  refine ⟨?_, fun e => ?_, fun e => ?_, fun e => ?_⟩
  · unfold mvR; rw [emR_off (off _ (.inl rfl)), if_pos rfl]; exact h1
  · unfold mvR; rw [emR_off (off _ (.inr (.inl rfl))), if_neg (by omega), if_pos rfl]; exact h2 e
  · obtain ⟨k1, k2, k3⟩ := h3 e
    refine ⟨?_, k2, fun k a b => ?_⟩
    · unfold mvR; rw [emR_off (off _ (.inr (.inr (.inl rfl)))), if_neg (by omega), if_neg (by omega), if_pos rfl]; exact k1
    · unfold mvR; rw [emR_off (off _ (.inr (.inr (.inr (by omega))))), if_neg (by omega), if_neg (by omega), if_neg (by omega), if_pos (by omega), show 602 + 60 * t + k - 60 * t + 60 * f = 602 + 60 * f + k by omega]
      exact k3 k a b
  · unfold mvR; rw [emR_off (off _ (.inr (.inr (.inl rfl)))), if_neg (by omega), if_neg (by omega), if_pos rfl]; exact h4 e
theorem mvR_rg {r : Int → Int} {f t : Int} (h : rgR r) : rgR (mvR r f t) := by
  refine emR_rg (fun i => ?_)
  split
  · exact h _
  split
  · exact h _
  split
  · exact h _
  split
  · exact h _
  · exact h _
theorem m_moves {m : Nat} {f t : Int} (hS : MdS S m) (hf : 0 ≤ f ∧ f < 200) (ht : 0 ≤ t ∧ t < 200) (hne : ¬ f = t) : ∀ Q, Cw X (d + 2) 318 [.ref m, .int (iI f), .int (iI t)] (hp S g) Q = Q (.inl none) (hp S (gr g (m + 1) (mvR (g (m + 1)) f t))) := by
  intro Q
  have s0 := hS.1
  have s1 := MdS_1 hS
  have tf : ti f = f := ti_eq (by omega) (by omega)
  have tt : ti t = t := ti_eq (by omega) (by omega)
  have tf2 : ti (200 + f) = 200 + f := ti_eq (by omega) (by omega)
  have tt2 : ti (200 + t) = 200 + t := ti_eq (by omega) (by omega)
  have tf4 : ti (400 + f) = 400 + f := ti_eq (by omega) (by omega)
  have tt4 : ti (400 + t) = 400 + t := ti_eq (by omega) (by omega)
  have b1 : 0 ≤ f := hf.1
  have b2 : f < 12602 := by omega
  have b3 : 0 ≤ 200 + f := by omega
  have b4 : 200 + f < 12602 := by omega
  have b5 : 0 ≤ 400 + f := by omega
  have b6 : 400 + f < 12602 := by omega
  have c1 : 0 ≤ t := ht.1
  have c2 : t < 12602 := by omega
  have c3 : 0 ≤ 200 + t := by omega
  have c4 : 200 + t < 12602 := by omega
  have c5 : 0 ≤ 400 + t := by omega
  have c6 : 400 + t < 12602 := by omega
  obtain ⟨G1, eG1⟩ : ∃ G1, G1 = gr g (m + 1) (fun i => if 602 + 60 * t + 0 ≤ i ∧ i < 602 + 60 * t + 60 then g (m + 1) (i - 60 * t + 60 * f) else g (m + 1) i) := ⟨_, rfl⟩
  have r1 : ∀ i, G1 (m + 1) i = if 602 + 60 * t + 0 ≤ i ∧ i < 602 + 60 * t + 60 then g (m + 1) (i - 60 * t + 60 * f) else g (m + 1) i := fun i => by rw [eG1, gr_hit]
  have hl := l_moves (X := X) (d := d + 1) hS hf ht hne 60 0 g (by decide) (by decide) Q
  rw [← eG1] at hl
  obtain ⟨G2, eG2⟩ : ∃ G2, G2 = gs (gs (gs G1 (m + 1) t (g (m + 1) f)) (m + 1) (200 + t) (g (m + 1) (200 + f))) (m + 1) (400 + t) (g (m + 1) (400 + f)) := ⟨_, rfl⟩
  have hem := m_empties (X := X) (d := d) (g := G2) hS hf
  have e : gr G2 (m + 1) (emR (G2 (m + 1)) f) = gr g (m + 1) (mvR (g (m + 1)) f t) := by
    funext k i
    unfold gr
    split
    · unfold mvR emR
      by_cases h : i = f ∨ i = 200 + f ∨ i = 400 + f ∨ 602 + 60 * f ≤ i ∧ i < 602 + 60 * f + 60
      · rw [if_pos h, if_pos h]
      · rw [if_neg h, if_neg h, eG2, gs_at, gs_at, gs_at, r1]
        dsimp only
        by_cases h1 : i = t
        · rw [if_neg (by omega), if_neg (by omega), if_pos h1, if_pos h1]
        · rw [if_neg h1]
          by_cases h2 : i = 200 + t
          · rw [if_neg (by omega), if_pos h2, if_neg h1, if_pos h2]
          · rw [if_neg h2]
            by_cases h3 : i = 400 + t
            · rw [if_pos h3, if_neg h1, if_neg h2, if_pos h3]
            · rw [if_neg h3, if_neg h3, if_neg h2, if_neg h1, Int.add_zero]
    · next e => rw [eG2, gs_row _ _ _ e, gs_row _ _ _ e, gs_row _ _ _ e, eG1, gr_row _ _ e]
  rw [e] at hem
  rw [eG2] at hem
  have a1 : G1 (m + 1) f = g (m + 1) f := by rw [r1, if_neg (by omega)]
  have a2 : gs G1 (m + 1) t (g (m + 1) f) (m + 1) (200 + f) = g (m + 1) (200 + f) := by rw [gs_at, if_neg (by omega), r1, if_neg (by omega)]
  have a3 : gs (gs G1 (m + 1) t (g (m + 1) f)) (m + 1) (200 + t) (g (m + 1) (200 + f)) (m + 1) (400 + f) = g (m + 1) (400 + f) := by rw [gs_at, if_neg (by omega), gs_at, if_neg (by omega), r1, if_neg (by omega)]
  rw [e318]
  simp (config := { decide := true }) only [w_iconst (pc' := 1) q318 d318_0 rfl, w_istore_n3 (pc' := 2) q318 d318_1 rfl, gs_off, gs_off0, gs_0off, gs_2, xN_0, xN_2, xN_3, xN_6, xN_7, xN_8, xN_9, xN_10, xN_11, xN_12, xN_13, xN_14, xN_15, xN_16, xN_17, xN_18, xN_19, xN_20, xN_21, xN_22, xN_23, xN_24, xN_25, xN_26, xN_27, xN_28, xN_29, xN_30, xN_31, xN_32, xN_33, xN_34, xN_35, xN_36, xN_37, xN_38, xN_39, xN_40, xN_41, xN_42, xN_43, xN_44, xN_45, xN_46, xN_47, xN_48, xN_49, xN_50, xN_51, xN_52, xN_53, xN_54, xN_55, ti_0, ti_1, ti_2, ti_3, ti_4, ti_5, ti_6, ti_7, ti_8, ti_9, ti_10, ti_16, ti_19, ti_20, ti_29, ti_30, ti_31, ti_32, ti_35, ti_36, ti_38, ti_39, ti_40, ti_41, ti_42, ti_43, ti_44, ti_45, ti_46, ti_47, ti_48, ti_49, ti_50, ti_51, ti_52, ti_53, ti_54, ti_55, ti_56, ti_57, ti_58, ti_59, ti_60, ti_61, ti_62, ti_63, ti_64, ti_65, ti_74, ti_77, ti_126, ti_200, ti_201, ti_202, ti_203, ti_204, ti_205, ti_210, ti_255, ti_256, ti_400, ti_512, ti_600, ti_601, ti_602, ti_1000, ti_1023, ti_1024, ti_2000, ti_10000, ti_12602, ti_999999, ti_m999999, ti_m1, ti_2000000, ti_3000000, xN_1, xN_4, xN_5, xN_60, xN_61, xN_64, xN_200, xN_800, xN_12000, xN_12602, eq_self, and_self, and_true, true_and, if_true, if_false, decide_true, Nat.reduceLeDiff, xc2_int, xc2_ref, xc2_ra, xc2_null, xc2_long, xc2_none, xisaT_ref, xisaT_ra, xisaT_null, xc1T_int, xc1T_ref, xc1T_ra, xc1T_null, xsum_nil, xsum_int, xsum_ref, xsum_ra, xsum_long, xsum_double, xsum_null, xfl_nil, xfl_int, xfl_ref, xfl_ra, xfl_null, xfl_long, xfl_double, List.length_cons, List.length_nil, xfk, xfv, xak, xan, xcls, xsv', List.getElem?_cons_zero, List.getElem?_cons_succ, List.getD_cons_zero, List.getD_cons_succ, Option.getD_some, Option.isSome_some, if_true, if_pos, xcont, Option.toList_none, Option.toList_some, List.nil_append, List.cons_append]
  rw [hl]
  simp (config := { decide := true }) only [w_aload_n0 (pc' := 36) q318 d318_35 rfl, w_getV (pc' := 39) q318 d318_36 rfl f318_7, w_iload_n2 (pc' := 40) q318 d318_39 rfl, w_aload_n0 (pc' := 41) q318 d318_40 rfl, w_getV (pc' := 44) q318 d318_41 rfl f318_7, w_iload_n1 (pc' := 45) q318 d318_44 rfl, w_iaload (pc' := 46) q318 d318_45 rfl, w_iastore (pc' := 47) q318 d318_46 rfl, gs_off, gs_off0, gs_0off, xN_0, xN_2, xN_3, xN_6, xN_7, xN_8, xN_9, xN_10, xN_11, xN_12, xN_13, xN_14, xN_15, xN_16, xN_17, xN_18, xN_19, xN_20, xN_21, xN_22, xN_23, xN_24, xN_25, xN_26, xN_27, xN_28, xN_29, xN_30, xN_31, xN_32, xN_33, xN_34, xN_35, xN_36, xN_37, xN_38, xN_39, xN_40, xN_41, xN_42, xN_43, xN_44, xN_45, xN_46, xN_47, xN_48, xN_49, xN_50, xN_51, xN_52, xN_53, xN_54, xN_55, ti_0, ti_1, ti_2, ti_3, ti_4, ti_5, ti_6, ti_7, ti_8, ti_9, ti_10, ti_16, ti_19, ti_20, ti_29, ti_30, ti_31, ti_32, ti_35, ti_36, ti_38, ti_39, ti_40, ti_41, ti_42, ti_43, ti_44, ti_45, ti_46, ti_47, ti_48, ti_49, ti_50, ti_51, ti_52, ti_53, ti_54, ti_55, ti_56, ti_57, ti_58, ti_59, ti_60, ti_61, ti_62, ti_63, ti_64, ti_65, ti_74, ti_77, ti_126, ti_200, ti_201, ti_202, ti_203, ti_204, ti_205, ti_210, ti_255, ti_256, ti_400, ti_512, ti_600, ti_601, ti_602, ti_1000, ti_1023, ti_1024, ti_2000, ti_10000, ti_12602, ti_999999, ti_m999999, ti_m1, ti_2000000, ti_3000000, xN_1, xN_4, xN_5, xN_60, xN_61, xN_64, xN_200, xN_800, xN_12000, xN_12602, eq_self, and_self, and_true, true_and, if_true, if_false, decide_true, Nat.reduceLeDiff, xc2_int, xc2_ref, xc2_ra, xc2_null, xc2_long, xc2_none, xisaT_ref, xisaT_ra, xisaT_null, xc1T_int, xc1T_ref, xc1T_ra, xc1T_null, xsum_nil, xsum_int, xsum_ref, xsum_ra, xsum_long, xsum_double, xsum_null, xfl_nil, xfl_int, xfl_ref, xfl_ra, xfl_null, xfl_long, xfl_double, List.length_cons, List.length_nil, s0, s1, tf, tt, b1, b2, c1, c2, a1, xfk, xfv, xak, xan, xcls, xsv', List.getElem?_cons_zero, List.getElem?_cons_succ, List.getD_cons_zero, List.getD_cons_succ, Option.getD_some, Option.isSome_some, if_true, if_pos, xcont, Option.toList_none, Option.toList_some, List.nil_append, List.cons_append]
  simp (config := { decide := true }) only [w_aload_n0 (pc' := 48) q318 d318_47 rfl, w_getV (pc' := 51) q318 d318_48 rfl f318_7, w_sipush (z' := (200)) (pc' := 54) q318 d318_51 rfl (by decide), w_iload_n2 (pc' := 55) q318 d318_54 rfl, w_iadd (pc' := 56) q318 d318_55 rfl, w_aload_n0 (pc' := 57) q318 d318_56 rfl, w_getV (pc' := 60) q318 d318_57 rfl f318_7, w_sipush (z' := (200)) (pc' := 63) q318 d318_60 rfl (by decide), w_iload_n1 (pc' := 64) q318 d318_63 rfl, w_iadd (pc' := 65) q318 d318_64 rfl, w_iaload (pc' := 66) q318 d318_65 rfl, w_iastore (pc' := 67) q318 d318_66 rfl, gs_off, gs_off0, gs_0off, xN_0, xN_2, xN_3, xN_6, xN_7, xN_8, xN_9, xN_10, xN_11, xN_12, xN_13, xN_14, xN_15, xN_16, xN_17, xN_18, xN_19, xN_20, xN_21, xN_22, xN_23, xN_24, xN_25, xN_26, xN_27, xN_28, xN_29, xN_30, xN_31, xN_32, xN_33, xN_34, xN_35, xN_36, xN_37, xN_38, xN_39, xN_40, xN_41, xN_42, xN_43, xN_44, xN_45, xN_46, xN_47, xN_48, xN_49, xN_50, xN_51, xN_52, xN_53, xN_54, xN_55, ti_0, ti_1, ti_2, ti_3, ti_4, ti_5, ti_6, ti_7, ti_8, ti_9, ti_10, ti_16, ti_19, ti_20, ti_29, ti_30, ti_31, ti_32, ti_35, ti_36, ti_38, ti_39, ti_40, ti_41, ti_42, ti_43, ti_44, ti_45, ti_46, ti_47, ti_48, ti_49, ti_50, ti_51, ti_52, ti_53, ti_54, ti_55, ti_56, ti_57, ti_58, ti_59, ti_60, ti_61, ti_62, ti_63, ti_64, ti_65, ti_74, ti_77, ti_126, ti_200, ti_201, ti_202, ti_203, ti_204, ti_205, ti_210, ti_255, ti_256, ti_400, ti_512, ti_600, ti_601, ti_602, ti_1000, ti_1023, ti_1024, ti_2000, ti_10000, ti_12602, ti_999999, ti_m999999, ti_m1, ti_2000000, ti_3000000, xN_1, xN_4, xN_5, xN_60, xN_61, xN_64, xN_200, xN_800, xN_12000, xN_12602, eq_self, and_self, and_true, true_and, if_true, if_false, decide_true, Nat.reduceLeDiff, xc2_int, xc2_ref, xc2_ra, xc2_null, xc2_long, xc2_none, xisaT_ref, xisaT_ra, xisaT_null, xc1T_int, xc1T_ref, xc1T_ra, xc1T_null, xsum_nil, xsum_int, xsum_ref, xsum_ra, xsum_long, xsum_double, xsum_null, xfl_nil, xfl_int, xfl_ref, xfl_ra, xfl_null, xfl_long, xfl_double, List.length_cons, List.length_nil, s0, s1, tf2, tt2, b3, b4, c3, c4, a2, xfk, xfv, xak, xan, xcls, xsv', List.getElem?_cons_zero, List.getElem?_cons_succ, List.getD_cons_zero, List.getD_cons_succ, Option.getD_some, Option.isSome_some, if_true, if_pos, xcont, Option.toList_none, Option.toList_some, List.nil_append, List.cons_append]
  simp (config := { decide := true }) only [w_aload_n0 (pc' := 68) q318 d318_67 rfl, w_getV (pc' := 71) q318 d318_68 rfl f318_7, w_sipush (z' := (400)) (pc' := 74) q318 d318_71 rfl (by decide), w_iload_n2 (pc' := 75) q318 d318_74 rfl, w_iadd (pc' := 76) q318 d318_75 rfl, w_aload_n0 (pc' := 77) q318 d318_76 rfl, w_getV (pc' := 80) q318 d318_77 rfl f318_7, w_sipush (z' := (400)) (pc' := 83) q318 d318_80 rfl (by decide), w_iload_n1 (pc' := 84) q318 d318_83 rfl, w_iadd (pc' := 85) q318 d318_84 rfl, w_iaload (pc' := 86) q318 d318_85 rfl, w_iastore (pc' := 87) q318 d318_86 rfl, w_aload_n0 (pc' := 88) q318 d318_87 rfl, w_iload_n1 (pc' := 89) q318 d318_88 rfl, w_invv1 (ci := 11) (pc' := 92) q318 d318_89 rfl n318_379 k318_379_11 m268.1, w_return q318 d318_92 m318.2.1, gs_off, gs_off0, gs_0off, xN_0, xN_2, xN_3, xN_6, xN_7, xN_8, xN_9, xN_10, xN_11, xN_12, xN_13, xN_14, xN_15, xN_16, xN_17, xN_18, xN_19, xN_20, xN_21, xN_22, xN_23, xN_24, xN_25, xN_26, xN_27, xN_28, xN_29, xN_30, xN_31, xN_32, xN_33, xN_34, xN_35, xN_36, xN_37, xN_38, xN_39, xN_40, xN_41, xN_42, xN_43, xN_44, xN_45, xN_46, xN_47, xN_48, xN_49, xN_50, xN_51, xN_52, xN_53, xN_54, xN_55, ti_0, ti_1, ti_2, ti_3, ti_4, ti_5, ti_6, ti_7, ti_8, ti_9, ti_10, ti_16, ti_19, ti_20, ti_29, ti_30, ti_31, ti_32, ti_35, ti_36, ti_38, ti_39, ti_40, ti_41, ti_42, ti_43, ti_44, ti_45, ti_46, ti_47, ti_48, ti_49, ti_50, ti_51, ti_52, ti_53, ti_54, ti_55, ti_56, ti_57, ti_58, ti_59, ti_60, ti_61, ti_62, ti_63, ti_64, ti_65, ti_74, ti_77, ti_126, ti_200, ti_201, ti_202, ti_203, ti_204, ti_205, ti_210, ti_255, ti_256, ti_400, ti_512, ti_600, ti_601, ti_602, ti_1000, ti_1023, ti_1024, ti_2000, ti_10000, ti_12602, ti_999999, ti_m999999, ti_m1, ti_2000000, ti_3000000, xN_1, xN_4, xN_5, xN_60, xN_61, xN_64, xN_200, xN_800, xN_12000, xN_12602, eq_self, and_self, and_true, true_and, if_true, if_false, decide_true, Nat.reduceLeDiff, xc2_int, xc2_ref, xc2_ra, xc2_null, xc2_long, xc2_none, xisaT_ref, xisaT_ra, xisaT_null, xc1T_int, xc1T_ref, xc1T_ra, xc1T_null, xsum_nil, xsum_int, xsum_ref, xsum_ra, xsum_long, xsum_double, xsum_null, xfl_nil, xfl_int, xfl_ref, xfl_ra, xfl_null, xfl_long, xfl_double, List.length_cons, List.length_nil, s0, s1, tf4, tt4, b5, b6, c5, c6, a3, hem, xfk, xfv, xak, xan, xcls, xsv', List.getElem?_cons_zero, List.getElem?_cons_succ, List.getD_cons_zero, List.getD_cons_succ, Option.getD_some, Option.isSome_some, if_true, if_pos, xcont, Option.toList_none, Option.toList_some, List.nil_append, List.cons_append]
end
