/-! The model: a formula is computed, the whole -/
section
def okG (t : Int) : Prop := (t % 8 = 1 ∧ 0 ≤ t / 8 ∧ t / 8 ≤ 999999) ∨ (t % 8 = 2 ∧ okS (t / 8)) ∨ t = 4 ∨ okR t ∨ (t % 8 = 5 ∧ 1 ≤ t / 8 ∧ t / 8 < 200 ∧ ¬ t / 8 = 58) ∨ (t % 8 = 6 ∧ 0 ≤ t / 8 ∧ t / 8 ≤ 5)
theorem Tr_okG : ∀ s r n L v, Tr s r n L v → ∀ t ∈ L, okG t := by
  have g333 : okG 333 := by unfold okG; omega
  have g325 : okG 325 := by unfold okG; omega
  have g357 : okG 357 := by unfold okG; omega
  have g365 : okG 365 := by unfold okG; omega
  have g38 : okG 38 := by unfold okG; omega
  have g46 : okG 46 := by unfold okG; omega
  refine Tr_ind ?_ ?_ ?_ ?_ ?_ ?_ ?_ ?_ ?_ ?_ ?_
  · intro t ht x hx
    rw [List.mem_singleton] at hx
    subst hx
    rcases ht with h | h | h
    · exact .inl h
    · exact .inr (.inl h)
    · exact .inr (.inr (.inl h))
  · intro r n L v _ h x hx
    simp only [List.mem_cons, List.mem_append, List.not_mem_nil, or_false] at hx
    rcases hx with rfl | hx | rfl
    · exact g325
    · exact h x hx
    · exact g333
  · intro r n L v _ h x hx
    simp only [List.mem_cons, List.mem_append, List.not_mem_nil, or_false] at hx
    rcases hx with rfl | hx | rfl
    · exact g38
    · exact h x hx
    · exact g333
  · intro r n L v r1 n1 L1 v1 r2 n2 L2 v2 _ _ _ h h1 h2 x hx
    simp only [List.mem_cons, List.mem_append, List.not_mem_nil, or_false] at hx
    rcases hx with rfl | hx | rfl | hx | rfl | hx | rfl
    · exact g46
    · exact h x hx
    · exact g357
    · exact h1 x hx
    · exact g357
    · exact h2 x hx
    · exact g333
  · intro w r n L v hw hw3 _ h x hx
    simp only [List.mem_cons, List.mem_append, List.not_mem_nil, or_false] at hx
    rcases hx with rfl | hx | rfl
    · unfold okG; omega
    · exact h x hx
    · exact g333
  · intro r n L v _ h _ x hx
    simp only [List.mem_cons] at hx
    rcases hx with rfl | hx
    · exact g365
    · exact h x hx
  · intro op r n L v r1 n1 L1 v1 ho _ _ h h1 _ _ _ x hx
    simp only [List.mem_cons, List.mem_append] at hx
    rcases hx with hx | rfl | hx
    · exact h x hx
    · unfold isO at ho; unfold okG; omega
    · exact h1 x hx
  · intro r n L v _ h; exact h
  · intro t ht x hx
    rw [List.mem_singleton] at hx
    subst hx
    exact .inr (.inr (.inr (.inl ht)))
  · intro r n L v _ h; exact h
  · intro r n L v r1 n1 L1 v1 _ _ h h1 x hx
    simp only [List.mem_cons, List.mem_append] at hx
    rcases hx with hx | rfl | hx
    · exact h x hx
    · exact g357
    · exact h1 x hx
theorem mkat_0 (x : Int) (l : List Int) : mkat (x :: l) 0 = x := rfl
theorem mkat_s (x : Int) (l : List Int) {a : Int} (h : 1 ≤ a) : mkat (x :: l) a = mkat l (a - 1) := by
  unfold mkat
  obtain ⟨n, e⟩ : ∃ n : Nat, a.toNat = n + 1 := ⟨a.toNat - 1, by omega⟩
  rw [e, show (a - 1).toNat = n by omega]
  rfl
theorem GmS_nil : GmS [] := by
  intro a _ h
  have e : mkat [] a = 0 := by unfold mkat; simp
  rw [e] at h
  exact absurd h (by decide)
theorem GmS_cons {x : Int} {l : List Int} (h : GmS l) (hx : isRf x = true → tgt x < 200 ∧ (mkat l 0 = 58 → isRf (mkat l 1) = true)) : GmS (x :: l) := by
  intro a ha hr
  by_cases h0 : a = 0
  · subst h0
    rw [mkat_0] at hr ⊢
    rw [mkat_s x l (by decide), mkat_s x l (by decide)]
    exact hx hr
  · rw [mkat_s x l (by omega)] at hr ⊢
    rw [mkat_s x l (by omega), mkat_s x l (by omega), show a + 1 - 1 = a - 1 + 1 by omega, show a + 2 - 1 = a - 1 + 2 by omega]
    exact h (a - 1) (by omega) hr
theorem mk1_g {t : Int} (h : okG t) : (∃ x, mk1 t = [x] ∧ ¬ x = 58 ∧ (isRf x = true → tgt x < 200)) ∨ (∃ x y, mk1 t = [x, 58, y] ∧ ¬ x = 58 ∧ tgt x < 200 ∧ isRf y = true ∧ tgt y < 200) ∨ (∃ x, mk1 t = [x, 40] ∧ ¬ x = 58 ∧ ¬ isRf x = true) := by
  have tg : ∀ s, okS s → tgt (spm s) < 200 := fun s hs => by rw [tgt_spm hs]; exact (clp_rng s).2
  rcases h with h | h | h | h | h | h
  · refine .inl ⟨10000 + t / 8, ?_, by omega, fun hr => absurd hr (isRf_n (by omega))⟩
    unfold mk1; rw [if_pos h.1]
  · have hr := spm_rng h.2
    refine .inl ⟨spm (t / 8), ?_, by omega, fun _ => tg _ h.2⟩
    unfold mk1; rw [if_neg (by omega), if_pos h.1]
  · subst h
    exact .inl ⟨3000000, by decide, by decide, fun hr => absurd hr (by decide)⟩
  · have hr1 := spm_rng h.2.1
    have hr2 := spm_rng h.2.2
    exact .inr (.inl ⟨_, _, mk1_rng h, by omega, tg _ h.2.1, isRf_y hr2, tg _ h.2.2⟩)
  · refine .inl ⟨t / 8, ?_, h.2.2.2, fun hr => absurd hr (isRf_n (by omega))⟩
    unfold mk1; rw [if_neg (by omega), if_neg (by omega), if_neg (by omega), if_neg (by omega), if_pos h.1]
  · refine .inr (.inr ⟨200 + t / 8, ?_, by omega, isRf_n (by omega)⟩)
    unfold mk1; rw [if_neg (by omega), if_neg (by omega), if_neg (by omega), if_neg (by omega), if_neg (by omega)]
theorem mks_hd58 : ∀ (L : List Int), (∀ t ∈ L, okG t) → ¬ mkat (mks L) 0 = 58
  | [], _ => by decide
  | t :: L, h => by
    rw [mks_cons]
    rcases mk1_g (h t (List.mem_cons_self ..)) with ⟨x, e, h1, -⟩ | ⟨x, y, e, h1, -⟩ | ⟨x, e, h1, -⟩
    · rw [e]; exact h1
    · rw [e]; exact h1
    · rw [e]; exact h1
theorem mks_GmS : ∀ (L : List Int), (∀ t ∈ L, okG t) → GmS (mks L)
  | [], _ => GmS_nil
  | t :: L, h => by
    have ih := mks_GmS L (fun x hx => h x (List.mem_cons_of_mem _ hx))
    have h58 := mks_hd58 L (fun x hx => h x (List.mem_cons_of_mem _ hx))
    rw [mks_cons]
    rcases mk1_g (h t (List.mem_cons_self ..)) with ⟨x, e, h1, h2⟩ | ⟨x, y, e, h1, h2, h3, h4⟩ | ⟨x, e, h1, h2⟩
    · rw [e]
      exact GmS_cons ih (fun hr => ⟨h2 hr, fun h => absurd h h58⟩)
    · rw [e]
      refine GmS_cons (GmS_cons (GmS_cons ih (fun _ => ⟨h4, fun h => absurd h h58⟩)) (fun hr => absurd hr (by decide))) (fun _ => ⟨h2, fun _ => h3⟩)
    · rw [e]
      exact GmS_cons (GmS_cons ih (fun hr => absurd hr (by decide))) (fun hr => absurd hr h2)
theorem tkO_k {ms : List Int} {K Er R : Int → Int} {p p' : List Int} {D D' : List (Int × Int × Int)} {a a' k' w' : Int} (h : tkO ms K Er R p D a = some (p', D', a', k', w')) : k' = 0 ∨ k' = 1 := by
  unfold tkO at h
  split at h
  · obtain ⟨-, -, -, e, -⟩ := Mc_inj h; omega
  split at h
  · obtain ⟨-, -, -, e, -⟩ := Mc_inj h; omega
  split at h
  · obtain ⟨-, -, -, e, -⟩ := Mc_inj h; omega
  split at h
  · cases D with
    | nil => cases h
    | cons f D1 => obtain ⟨-, -, -, e, -⟩ := Mc_inj h; omega
  split at h
  · obtain ⟨-, -, -, e, -⟩ := Mc_inj h; omega
  split at h
  · obtain ⟨-, -, -, e, -⟩ := Mc_inj h; omega
  · obtain ⟨-, -, -, e, -⟩ := Mc_inj h; omega
theorem chF_k {ms : List Int} {p p' : List Int} {D D' : List (Int × Int × Int)} {su cn a a' k' w' : Int} (h : chF ms a p su cn D = some (p', D', a', k', w')) (ha : a < ms.length) : (k' = 0 ∨ k' = 1) ∧ a' ≤ ms.length := by
  unfold chF at h
  split at h
  · cases p with
    | nil => cases h
    | cons x p1 =>
      dsimp only at h
      split at h
      · generalize es : skF ms false 61 0 (a + 1) = r at h
        cases r with
        | none => cases h
        | some b =>
          have := skF_lt _ _ _ _ (by decide) es
          obtain ⟨-, -, e1, e, -⟩ := Mc_inj h; omega
      · obtain ⟨-, -, e1, e, -⟩ := Mc_inj h; omega
  · generalize es : skF ms true 61 0 (a + 1) = r at h
    cases r with
    | none => cases h
    | some b =>
      have := skF_lt _ _ _ _ (by decide) es
      obtain ⟨-, -, e1, e, -⟩ := Mc_inj h; omega
theorem tkB_k {ms : List Int} {p p' : List Int} {D D' : List (Int × Int × Int)} {a a' k' w' : Int} (h : tkB ms p D a = some (p', D', a', k', w')) (ha : a < ms.length) : (k' = 0 ∨ k' = 1) ∧ a' ≤ ms.length := by
  have hav : (if mkat ms a = 44 then (1 : Int) else 0) = 0 ∨ (if mkat ms a = 44 then (1 : Int) else 0) = 1 := by split <;> simp
  unfold tkB at h
  split at h
  · generalize wd 1 D p 0 = r at h
    cases r with
    | none => cases h
    | some r =>
      obtain ⟨p1, D1, w1⟩ := r
      dsimp only at h
      split at h
      · obtain ⟨-, -, e1, e, -⟩ := Mc_inj h; omega
      · cases D1 with
        | nil => cases h
        | cons f D2 =>
          obtain ⟨s, su, cn⟩ := f
          dsimp only at h
          split at h
          · exact chF_k h ha
          split at h
          · obtain ⟨-, -, e1, e, -⟩ := Mc_inj h; omega
          · generalize enA ms a p1 ((s, su, cn) :: D2) = r at h
            cases r with
            | none => cases h
            | some r =>
              obtain ⟨p3, D3, w3⟩ := r
              dsimp only at h
              split at h
              · generalize enC p3 D3 = r at h
                cases r with
                | none => cases h
                | some r =>
                  obtain ⟨p4, D4, w4⟩ := r
                  obtain ⟨-, -, e1, e, -⟩ := Mc_inj h; omega
              · obtain ⟨-, -, e1, e, -⟩ := Mc_inj h; omega
  · split at h
    · cases h
    · generalize wd (rnk (mkat ms a)) D p 0 = r at h
      cases r with
      | none => cases h
      | some r =>
        obtain ⟨p1, D1, w1⟩ := r
        obtain ⟨-, -, e1, e, -⟩ := Mc_inj h; omega
variable {X : xX} {S : xLm} {g : xGm} {d : Nat} {w : xH} {Q : xO → xH → Prop}
theorem l_mcomp {m : Nat} {c : Int} {ms : List Int} {K Er R : Int → Int} (hS : MdS S m) (hE : okE Er R) (hc : 0 ≤ c ∧ c < 200) (hGm : GmS ms) : ∀ (n : Nat) (p : List Int) (D : List (Int × Int × Int)) (a k w B : Int) (g : xGm) (p' : List Int) (D' : List (Int × Int × Int)) (a' k' w' : Int), CeR g m K Er R → MrS g m c ms → MeR g m B p D a k w → 0 ≤ B → (w = 0 → B ≤ 200 * a) → 0 ≤ a → a ≤ 200 → p.length ≤ a → p.length ≤ 60 → D.length ≤ a → D.length ≤ 60 → (k = 0 ∨ k = 1) → itr ms K Er R n (p, D, a, k, w) = some (p', D', a', k', w') → (¬ w' = 0 ∨ a' = ms.length) →
    ∃ g' B', FxE g g' m ∧ MeR g' m B' p' D' a' k' w' ∧ p'.length ≤ 60 ∧ D'.length ≤ 60 ∧ ∀ Q, Wx X (d + 5) 276 25 [some (.ref m), some (.int (iI c))] [] (hp S g) Q = Wx X (d + 5) 276 72 [some (.ref m), some (.int (iI c))] [] (hp S g') Q := by
  have s0 := hS.1
  have s1 := MdS_1 hS
  have t400c : ti (400 + c) = 400 + c := ti_eq (by omega) (by omega)
  have b400 : 0 ≤ 400 + c := by omega
  have b400' : 400 + c < 12602 := by omega
  have fin : ∀ (p : List Int) (D : List (Int × Int × Int)) (a k w B : Int) (g : xGm), CeR g m K Er R → MrS g m c ms → MeR g m B p D a k w → 0 ≤ a → a ≤ 200 → (¬ w = 0 ∨ (ms.length : Int) ≤ a) → ∀ Q, Wx X (d + 5) 276 25 [some (.ref m), some (.int (iI c))] [] (hp S g) Q = Wx X (d + 5) 276 72 [some (.ref m), some (.int (iI c))] [] (hp S g) Q := by
    intro p D a k w B g hC hM h ha ha2 hf Q
    have hw := h.2.2.2.2.2.2.2.1
    have tw : ti w = w := ti_eq (by omega) (by omega)
    have e24 : g m 24 = w := h.2.2.2.2.1
    have e25 : g m 25 = a := h.2.2.2.2.2.1
    have em : g (m + 1) (400 + c) = ms.length := hM.1
    have hl := hM.2.1
    have tl' : ti (ms.length : Int) = ms.length := ti_eq (by omega) (by omega)
    have ta : ti a = a := ti_eq (by omega) (by omega)
    by_cases h0 : w = 0
    · subst h0
      have h1 : (ms.length : Int) ≤ a := by omega
      rw [w_aload_n0 (pc' := 26) q276 d276_25 rfl]
      · simp (config := { decide := true }) only [w_getI (pc' := 29) q276 d276_26 rfl f276_151, w_if_ne (tg := 72) (pc' := 32) q276 d276_29 (by decide) rfl, w_aload_n0 (pc' := 33) q276 d276_32 rfl, w_getI (pc' := 36) q276 d276_33 rfl f276_188, w_aload_n0 (pc' := 37) q276 d276_36 rfl, w_getV (pc' := 40) q276 d276_37 rfl f276_7, w_sipush (z' := (400)) (pc' := 43) q276 d276_40 rfl (by decide), w_iload_n1 (pc' := 44) q276 d276_43 rfl, w_iadd (pc' := 45) q276 d276_44 rfl, w_iaload (pc' := 46) q276 d276_45 rfl, w_icmp_ge (tg := 72) (pc' := 49) q276 d276_46 (by decide) rfl, gs_off, gs_off0, gs_0off, gs_2, xN_0, xN_2, xN_3, xN_6, xN_7, xN_8, xN_9, xN_10, xN_11, xN_12, xN_13, xN_14, xN_15, xN_16, xN_17, xN_18, xN_19, xN_20, xN_21, xN_22, xN_23, xN_24, xN_25, xN_26, xN_27, xN_28, xN_29, xN_30, xN_31, xN_32, xN_33, xN_34, xN_35, xN_36, xN_37, xN_38, xN_39, xN_40, xN_41, xN_42, xN_43, xN_44, xN_45, xN_46, xN_47, xN_48, xN_49, xN_50, xN_51, xN_52, xN_53, xN_54, xN_55, ti_0, ti_1, ti_2, ti_3, ti_4, ti_5, ti_6, ti_7, ti_8, ti_9, ti_10, ti_16, ti_19, ti_20, ti_29, ti_30, ti_31, ti_32, ti_35, ti_36, ti_38, ti_39, ti_40, ti_41, ti_42, ti_43, ti_44, ti_45, ti_46, ti_47, ti_48, ti_49, ti_50, ti_51, ti_52, ti_53, ti_54, ti_55, ti_56, ti_57, ti_58, ti_59, ti_60, ti_61, ti_62, ti_63, ti_64, ti_65, ti_74, ti_77, ti_126, ti_200, ti_201, ti_202, ti_203, ti_204, ti_205, ti_210, ti_255, ti_256, ti_400, ti_512, ti_600, ti_601, ti_602, ti_1000, ti_1023, ti_1024, ti_2000, ti_10000, ti_12602, ti_999999, ti_m999999, ti_m1, ti_2000000, ti_3000000, xN_1, xN_4, xN_5, xN_60, xN_61, xN_64, xN_200, xN_800, xN_12000, xN_12602, eq_self, and_self, and_true, true_and, if_true, if_false, decide_true, Nat.reduceLeDiff, xc2_int, xc2_ref, xc2_ra, xc2_null, xc2_long, xc2_none, xisaT_ref, xisaT_ra, xisaT_null, xc1T_int, xc1T_ref, xc1T_ra, xc1T_null, xsum_nil, xsum_int, xsum_ref, xsum_ra, xsum_long, xsum_double, xsum_null, xfl_nil, xfl_int, xfl_ref, xfl_ra, xfl_null, xfl_long, xfl_double, List.length_cons, List.length_nil, s0, s1, e24, e25, em, tl', ta, t400c, b400, b400', h1, not_true_eq_false, xfk, xfv, xak, xan, xcls, xsv', List.getElem?_cons_zero, List.getElem?_cons_succ, List.getD_cons_zero, List.getD_cons_succ, Option.getD_some, Option.isSome_some, if_true, if_pos, xcont, Option.toList_none, Option.toList_some, List.nil_append, List.cons_append]
      · rfl
    · rw [w_aload_n0 (pc' := 26) q276 d276_25 rfl]
      · simp (config := { decide := true }) only [w_getI (pc' := 29) q276 d276_26 rfl f276_151, w_if_ne (tg := 72) (pc' := 32) q276 d276_29 (by decide) rfl, w_aload_n0 (pc' := 33) q276 d276_32 rfl, w_getI (pc' := 36) q276 d276_33 rfl f276_188, w_aload_n0 (pc' := 37) q276 d276_36 rfl, w_getV (pc' := 40) q276 d276_37 rfl f276_7, w_sipush (z' := (400)) (pc' := 43) q276 d276_40 rfl (by decide), w_iload_n1 (pc' := 44) q276 d276_43 rfl, w_iadd (pc' := 45) q276 d276_44 rfl, w_iaload (pc' := 46) q276 d276_45 rfl, w_icmp_ge (tg := 72) (pc' := 49) q276 d276_46 (by decide) rfl, gs_off, gs_off0, gs_0off, gs_2, xN_0, xN_2, xN_3, xN_6, xN_7, xN_8, xN_9, xN_10, xN_11, xN_12, xN_13, xN_14, xN_15, xN_16, xN_17, xN_18, xN_19, xN_20, xN_21, xN_22, xN_23, xN_24, xN_25, xN_26, xN_27, xN_28, xN_29, xN_30, xN_31, xN_32, xN_33, xN_34, xN_35, xN_36, xN_37, xN_38, xN_39, xN_40, xN_41, xN_42, xN_43, xN_44, xN_45, xN_46, xN_47, xN_48, xN_49, xN_50, xN_51, xN_52, xN_53, xN_54, xN_55, ti_0, ti_1, ti_2, ti_3, ti_4, ti_5, ti_6, ti_7, ti_8, ti_9, ti_10, ti_16, ti_19, ti_20, ti_29, ti_30, ti_31, ti_32, ti_35, ti_36, ti_38, ti_39, ti_40, ti_41, ti_42, ti_43, ti_44, ti_45, ti_46, ti_47, ti_48, ti_49, ti_50, ti_51, ti_52, ti_53, ti_54, ti_55, ti_56, ti_57, ti_58, ti_59, ti_60, ti_61, ti_62, ti_63, ti_64, ti_65, ti_74, ti_77, ti_126, ti_200, ti_201, ti_202, ti_203, ti_204, ti_205, ti_210, ti_255, ti_256, ti_400, ti_512, ti_600, ti_601, ti_602, ti_1000, ti_1023, ti_1024, ti_2000, ti_10000, ti_12602, ti_999999, ti_m999999, ti_m1, ti_2000000, ti_3000000, xN_1, xN_4, xN_5, xN_60, xN_61, xN_64, xN_200, xN_800, xN_12000, xN_12602, eq_self, and_self, and_true, true_and, if_true, if_false, decide_true, Nat.reduceLeDiff, xc2_int, xc2_ref, xc2_ra, xc2_null, xc2_long, xc2_none, xisaT_ref, xisaT_ra, xisaT_null, xc1T_int, xc1T_ref, xc1T_ra, xc1T_null, xsum_nil, xsum_int, xsum_ref, xsum_ra, xsum_long, xsum_double, xsum_null, xfl_nil, xfl_int, xfl_ref, xfl_ra, xfl_null, xfl_long, xfl_double, List.length_cons, List.length_nil, s0, s1, e24, tw, h0, not_false_eq_true, xfk, xfv, xak, xan, xcls, xsv', List.getElem?_cons_zero, List.getElem?_cons_succ, List.getD_cons_zero, List.getD_cons_succ, Option.getD_some, Option.isSome_some, if_true, if_pos, xcont, Option.toList_none, Option.toList_some, List.nil_append, List.cons_append]
      · rfl
  intro n
  induction n with
  | zero =>
    intro p D a k w B g p' D' a' k' w' hC hM h hB0 hB ha ha2 hp1 hp2 hd1 hd2 hk hi hf
    obtain ⟨rfl, rfl, rfl, rfl, rfl⟩ := Mc_inj hi
    exact ⟨g, B, FxE_refl m, h, hp2, hd2, fin _ _ _ _ _ _ _ hC hM h ha ha2 (by omega)⟩
  | succ n ih =>
    intro p D a k w B g p' D' a' k' w' hC hM h hB0 hB ha ha2 hp1 hp2 hd1 hd2 hk hi hf
    have hl := hM.2.1
    rw [itr] at hi
    dsimp only at hi
    by_cases hg : w = 0 ∧ a < ms.length
    · rw [if_pos hg] at hi
      obtain ⟨rfl, hlt⟩ := hg
      generalize es : mst ms K Er R (p, D, a, k, 0) = r at hi
      cases r with
      | none => cases hi
      | some r =>
      obtain ⟨p1, D1, a1, k1, w1⟩ := r
      dsimp only at hi
      have e24 : g m 24 = 0 := h.2.2.2.2.1
      have e25 : g m 25 = a := h.2.2.2.2.2.1
      have e26 : g m 26 = k := h.2.2.2.2.2.2.1
      have em : g (m + 1) (400 + c) = ms.length := hM.1
      have tl' : ti (ms.length : Int) = ms.length := ti_eq (by omega) (by omega)
      have ta : ti a = a := ti_eq (by omega) (by omega)
      have h1 : ¬ (ms.length : Int) ≤ a := by omega
      have hB' := hB rfl
      unfold mst at es
      dsimp only at es
      rcases hk with rfl | rfl
      · rw [if_neg (by decide)] at es
        obtain ⟨kk, hle⟩ := tkB_k es hlt
        obtain ⟨g1, f1, j1, j2, j3, j4, j5, j6⟩ := m_takesBehind (X := X) (d := d) hS hc hC.2.2.2 hM h (by omega) (by omega) (by omega) hB0 (by omega) es
        obtain ⟨g2, B2, f2, i1, i2, i3, i4⟩ := ih p1 D1 a1 k1 w1 (B + 200) g1 p' D' a' k' w' (CeR_Fx f1 hC) (MrS_Fx f1 hM) j1 (by omega) (by omega) (by omega) (by omega) (by omega) (by omega) (by omega) (by omega) kk hi hf
        refine ⟨g2, B2, FxE_trans f1 f2, i1, i2, i3, fun Q => Eq.trans ?_ (i4 Q)⟩
        rw [w_aload_n0 (pc' := 26) q276 d276_25 rfl]
        · simp (config := { decide := true }) only [w_getI (pc' := 29) q276 d276_26 rfl f276_151, w_if_ne (tg := 72) (pc' := 32) q276 d276_29 (by decide) rfl, w_aload_n0 (pc' := 33) q276 d276_32 rfl, w_getI (pc' := 36) q276 d276_33 rfl f276_188, w_aload_n0 (pc' := 37) q276 d276_36 rfl, w_getV (pc' := 40) q276 d276_37 rfl f276_7, w_sipush (z' := (400)) (pc' := 43) q276 d276_40 rfl (by decide), w_iload_n1 (pc' := 44) q276 d276_43 rfl, w_iadd (pc' := 45) q276 d276_44 rfl, w_iaload (pc' := 46) q276 d276_45 rfl, w_icmp_ge (tg := 72) (pc' := 49) q276 d276_46 (by decide) rfl, w_aload_n0 (pc' := 50) q276 d276_49 rfl, w_getI (pc' := 53) q276 d276_50 rfl f276_200, w_if_eq (tg := 64) (pc' := 56) q276 d276_53 (by decide) rfl, w_aload_n0 (pc' := 57) q276 d276_56 rfl, w_iload_n1 (pc' := 58) q276 d276_57 rfl, w_invv1 (ci := 11) (pc' := 61) q276 d276_58 rfl n276_223 k276_223_11 m277.1, w_goto (tg := 25) q276 d276_61 (by decide), w_aload_n0 (pc' := 65) q276 d276_64 rfl, w_iload_n1 (pc' := 66) q276 d276_65 rfl, w_invv1 (ci := 11) (pc' := 69) q276 d276_66 rfl n276_226 k276_226_11 m284.1, w_goto (tg := 25) q276 d276_69 (by decide), gs_off, gs_off0, gs_0off, gs_2, xN_0, xN_2, xN_3, xN_6, xN_7, xN_8, xN_9, xN_10, xN_11, xN_12, xN_13, xN_14, xN_15, xN_16, xN_17, xN_18, xN_19, xN_20, xN_21, xN_22, xN_23, xN_24, xN_25, xN_26, xN_27, xN_28, xN_29, xN_30, xN_31, xN_32, xN_33, xN_34, xN_35, xN_36, xN_37, xN_38, xN_39, xN_40, xN_41, xN_42, xN_43, xN_44, xN_45, xN_46, xN_47, xN_48, xN_49, xN_50, xN_51, xN_52, xN_53, xN_54, xN_55, ti_0, ti_1, ti_2, ti_3, ti_4, ti_5, ti_6, ti_7, ti_8, ti_9, ti_10, ti_16, ti_19, ti_20, ti_29, ti_30, ti_31, ti_32, ti_35, ti_36, ti_38, ti_39, ti_40, ti_41, ti_42, ti_43, ti_44, ti_45, ti_46, ti_47, ti_48, ti_49, ti_50, ti_51, ti_52, ti_53, ti_54, ti_55, ti_56, ti_57, ti_58, ti_59, ti_60, ti_61, ti_62, ti_63, ti_64, ti_65, ti_74, ti_77, ti_126, ti_200, ti_201, ti_202, ti_203, ti_204, ti_205, ti_210, ti_255, ti_256, ti_400, ti_512, ti_600, ti_601, ti_602, ti_1000, ti_1023, ti_1024, ti_2000, ti_10000, ti_12602, ti_999999, ti_m999999, ti_m1, ti_2000000, ti_3000000, xN_1, xN_4, xN_5, xN_60, xN_61, xN_64, xN_200, xN_800, xN_12000, xN_12602, eq_self, and_self, and_true, true_and, if_true, if_false, decide_true, Nat.reduceLeDiff, xc2_int, xc2_ref, xc2_ra, xc2_null, xc2_long, xc2_none, xisaT_ref, xisaT_ra, xisaT_null, xc1T_int, xc1T_ref, xc1T_ra, xc1T_null, xsum_nil, xsum_int, xsum_ref, xsum_ra, xsum_long, xsum_double, xsum_null, xfl_nil, xfl_int, xfl_ref, xfl_ra, xfl_null, xfl_long, xfl_double, List.length_cons, List.length_nil, s0, s1, e24, e25, e26, em, tl', ta, t400c, b400, b400', h1, not_true_eq_false, j6, xfk, xfv, xak, xan, xcls, xsv', List.getElem?_cons_zero, List.getElem?_cons_succ, List.getD_cons_zero, List.getD_cons_succ, Option.getD_some, Option.isSome_some, if_true, if_pos, xcont, Option.toList_none, Option.toList_some, List.nil_append, List.cons_append]
        · rfl
      · rw [if_pos rfl] at es
        have kk := tkO_k es
        obtain ⟨g1, f1, j1, j2, j3, j4, j5, j6⟩ := m_takesOperand (X := X) (d := d + 1) hS hC hE hc hM hGm h (by omega) (by omega) (by omega) hB0 (by omega) es
        obtain ⟨g2, B2, f2, i1, i2, i3, i4⟩ := ih p1 D1 a1 k1 w1 (B + 200) g1 p' D' a' k' w' (CeR_Fx f1 hC) (MrS_Fx f1 hM) j1 (by omega) (by omega) (by omega) (by omega) (by omega) (by omega) (by omega) (by omega) kk hi hf
        refine ⟨g2, B2, FxE_trans f1 f2, i1, i2, i3, fun Q => Eq.trans ?_ (i4 Q)⟩
        rw [w_aload_n0 (pc' := 26) q276 d276_25 rfl]
        · simp (config := { decide := true }) only [w_getI (pc' := 29) q276 d276_26 rfl f276_151, w_if_ne (tg := 72) (pc' := 32) q276 d276_29 (by decide) rfl, w_aload_n0 (pc' := 33) q276 d276_32 rfl, w_getI (pc' := 36) q276 d276_33 rfl f276_188, w_aload_n0 (pc' := 37) q276 d276_36 rfl, w_getV (pc' := 40) q276 d276_37 rfl f276_7, w_sipush (z' := (400)) (pc' := 43) q276 d276_40 rfl (by decide), w_iload_n1 (pc' := 44) q276 d276_43 rfl, w_iadd (pc' := 45) q276 d276_44 rfl, w_iaload (pc' := 46) q276 d276_45 rfl, w_icmp_ge (tg := 72) (pc' := 49) q276 d276_46 (by decide) rfl, w_aload_n0 (pc' := 50) q276 d276_49 rfl, w_getI (pc' := 53) q276 d276_50 rfl f276_200, w_if_eq (tg := 64) (pc' := 56) q276 d276_53 (by decide) rfl, w_aload_n0 (pc' := 57) q276 d276_56 rfl, w_iload_n1 (pc' := 58) q276 d276_57 rfl, w_invv1 (ci := 11) (pc' := 61) q276 d276_58 rfl n276_223 k276_223_11 m277.1, w_goto (tg := 25) q276 d276_61 (by decide), w_aload_n0 (pc' := 65) q276 d276_64 rfl, w_iload_n1 (pc' := 66) q276 d276_65 rfl, w_invv1 (ci := 11) (pc' := 69) q276 d276_66 rfl n276_226 k276_226_11 m284.1, w_goto (tg := 25) q276 d276_69 (by decide), gs_off, gs_off0, gs_0off, gs_2, xN_0, xN_2, xN_3, xN_6, xN_7, xN_8, xN_9, xN_10, xN_11, xN_12, xN_13, xN_14, xN_15, xN_16, xN_17, xN_18, xN_19, xN_20, xN_21, xN_22, xN_23, xN_24, xN_25, xN_26, xN_27, xN_28, xN_29, xN_30, xN_31, xN_32, xN_33, xN_34, xN_35, xN_36, xN_37, xN_38, xN_39, xN_40, xN_41, xN_42, xN_43, xN_44, xN_45, xN_46, xN_47, xN_48, xN_49, xN_50, xN_51, xN_52, xN_53, xN_54, xN_55, ti_0, ti_1, ti_2, ti_3, ti_4, ti_5, ti_6, ti_7, ti_8, ti_9, ti_10, ti_16, ti_19, ti_20, ti_29, ti_30, ti_31, ti_32, ti_35, ti_36, ti_38, ti_39, ti_40, ti_41, ti_42, ti_43, ti_44, ti_45, ti_46, ti_47, ti_48, ti_49, ti_50, ti_51, ti_52, ti_53, ti_54, ti_55, ti_56, ti_57, ti_58, ti_59, ti_60, ti_61, ti_62, ti_63, ti_64, ti_65, ti_74, ti_77, ti_126, ti_200, ti_201, ti_202, ti_203, ti_204, ti_205, ti_210, ti_255, ti_256, ti_400, ti_512, ti_600, ti_601, ti_602, ti_1000, ti_1023, ti_1024, ti_2000, ti_10000, ti_12602, ti_999999, ti_m999999, ti_m1, ti_2000000, ti_3000000, xN_1, xN_4, xN_5, xN_60, xN_61, xN_64, xN_200, xN_800, xN_12000, xN_12602, eq_self, and_self, and_true, true_and, if_true, if_false, decide_true, Nat.reduceLeDiff, xc2_int, xc2_ref, xc2_ra, xc2_null, xc2_long, xc2_none, xisaT_ref, xisaT_ra, xisaT_null, xc1T_int, xc1T_ref, xc1T_ra, xc1T_null, xsum_nil, xsum_int, xsum_ref, xsum_ra, xsum_long, xsum_double, xsum_null, xfl_nil, xfl_int, xfl_ref, xfl_ra, xfl_null, xfl_long, xfl_double, List.length_cons, List.length_nil, s0, s1, e24, e25, e26, em, tl', ta, t400c, b400, b400', h1, not_true_eq_false, not_false_eq_true, j6, xfk, xfv, xak, xan, xcls, xsv', List.getElem?_cons_zero, List.getElem?_cons_succ, List.getD_cons_zero, List.getD_cons_succ, Option.getD_some, Option.isSome_some, if_true, if_pos, xcont, Option.toList_none, Option.toList_some, List.nil_append, List.cons_append]
        · rfl
    · rw [if_neg hg] at hi
      cases hi
/-- a formula of a cell -/
theorem m_computes {m n : Nat} {c r : Int} {L : List Int} {v : Ev} {K Er R : Int → Int} (hS : MdS S m) (hC : CeR g m K Er R) (hE : okE Er R) (hc : 0 ≤ c ∧ c < 200) (hT : Tr 0 r n L v) (hM : MrS g m c (mks L)) :
    ∃ g', Fx [12, 13, 14, 15, 16, 17] [22, 23, 24, 25, 26] g g' m ∧ (∀ j, g' (m + 13) j = if j = c then (v K Er R 0 0).1 else Er j) ∧ (∀ j, g' (m + 12) j = if j = c then (v K Er R 0 0).2 else R j) ∧ ∀ Q, Cw X (d + 5) 276 [.ref m, .int (iI c)] (hp S g) Q = Q (.inl none) (hp S g') := by
  have s0 := hS.1
  have s12 := MdS_12 hS
  have s13 := MdS_13 hS
  have s14 := MdS_14 hS
  have tc : ti c = c := ti_eq (by omega) (by omega)
  have z1 : xnz 1 = 1 := by decide
  have hgd : goodV (v K Er R 0 0) := (Tr_good hE _ _ _ _ _ hT).1 rfl (by have := mks_len L; have := hM.2.1; omega)
  obtain ⟨s', ⟨n', hrun⟩, hend, p, D, w0, hwd, hw0, hp0⟩ := mach_all (K := K) (Er := Er) (R := R) hE hM.2.1 hT
  obtain ⟨p', D', a', k', w'⟩ := s'
  dsimp only at hend hwd
  obtain ⟨G, eG⟩ : ∃ G, G = gs (gs (gs (gs (gs g m 22 0) m 23 0) m 24 0) m 25 0) m 26 1 := ⟨_, rfl⟩
  have fG : FxE g G m := by rw [eG]; exact FxE_trans (FxE_slot (by decide)) (FxE_trans (FxE_slot (by decide)) (FxE_trans (FxE_slot (by decide)) (FxE_trans (FxE_slot (by decide)) (FxE_slot (by decide)))))
  have hG : MeR G m 0 [] [] 0 1 0 := by
    rw [eG]
    refine ⟨?_, trivial, ?_, trivial, ?_, ?_, ?_, by decide, fun _ x hx => absurd hx List.not_mem_nil, fun x hx => absurd hx List.not_mem_nil⟩
    · rw [gs_o (by decide), gs_o (by decide), gs_o (by decide), gs_o (by decide), gs_at, if_pos rfl]; rfl
    · rw [gs_o (by decide), gs_o (by decide), gs_o (by decide), gs_at, if_pos rfl]; rfl
    · rw [gs_o (by decide), gs_o (by decide), gs_at, if_pos rfl]
    · rw [gs_o (by decide), gs_at, if_pos rfl]
    · rw [gs_at, if_pos rfl]
  obtain ⟨g1, B1, f1, i1, i2, i3, i4⟩ := l_mcomp (X := X) (d := d) hS hE hc (mks_GmS L (Tr_okG _ _ _ _ _ hT)) n' [] [] 0 1 0 0 G p' D' a' k' w' (CeR_Fx fG hC) (MrS_Fx fG hM) hG (by decide) (fun _ => by decide) (by decide) (by decide) (by decide) (by decide) (by decide) (by decide) (.inr rfl) hrun hend
  obtain ⟨g2, f2, j1, j2, j3, j4⟩ := m_worksDown (X := X) (d := d + 2) hS (r := 1) (by decide) i1 (by omega) (by omega) hwd
  have e24 : g2 m 24 = w0 := j1.2.2.2.2.1
  have hw := j1.2.2.2.2.2.2.2.1
  have tw : ti w0 = w0 := ti_eq (by omega) (by omega)
  have f12 := FxE_trans fG (FxE_trans f1 f2)
  have e13 : g2 (m + 13) = Er := (Fx_at f12 (by decide) (by decide)).trans hC.2.1
  have e12 : g2 (m + 12) = R := (Fx_at f12 (by decide) (by decide)).trans hC.2.2.1
  have fM : Fx [12, 13, 14, 15, 16, 17] [22, 23, 24, 25, 26] g g2 m := Fx_mono f12 (by decide) (by decide)
  have res : ∀ z, (∀ Q, Wx X (d + 5) 276 72 [some (.ref m), some (.int (iI c))] [] (hp S g1) Q = Q (.inl none) (hp S (gs (gs g2 (m + 13) c w0) (m + 12) c z))) → z = (v K Er R 0 0).2 → ∃ g', Fx [12, 13, 14, 15, 16, 17] [22, 23, 24, 25, 26] g g' m ∧ (∀ j, g' (m + 13) j = if j = c then (v K Er R 0 0).1 else Er j) ∧ (∀ j, g' (m + 12) j = if j = c then (v K Er R 0 0).2 else R j) ∧ ∀ Q, Cw X (d + 5) 276 [.ref m, .int (iI c)] (hp S g) Q = Q (.inl none) (hp S g') := by
    intro z hz ez
    refine ⟨gs (gs g2 (m + 13) c w0) (m + 12) c z, Fx_trans fM (Fx_trans (Fx_row (by decide) (by decide)) (Fx_row (by decide) (by decide))), fun j => ?_, fun j => ?_, fun Q => ?_⟩
    · rw [gs_row _ _ _ (by omega), gs_at, e13, hw0]
    · rw [gs_at, gs_row _ _ _ (by omega), e12, ez]
    · refine Eq.trans ?_ ((i4 Q).trans (hz Q))
      rw [eG, e276]
      simp (config := { decide := true }) only [w_aload_n0 (pc' := 1) q276 d276_0 rfl, w_iconst (pc' := 2) q276 d276_1 rfl, w_putI (pc' := 5) q276 d276_2 rfl f276_154 rfl (by decide +kernel), w_aload_n0 (pc' := 6) q276 d276_5 rfl, w_iconst (pc' := 7) q276 d276_6 rfl, w_putI (pc' := 10) q276 d276_7 rfl f276_157 rfl (by decide +kernel), w_aload_n0 (pc' := 11) q276 d276_10 rfl, w_iconst (pc' := 12) q276 d276_11 rfl, w_putI (pc' := 15) q276 d276_12 rfl f276_151 rfl (by decide +kernel), w_aload_n0 (pc' := 16) q276 d276_15 rfl, w_iconst (pc' := 17) q276 d276_16 rfl, w_putI (pc' := 20) q276 d276_17 rfl f276_188 rfl (by decide +kernel), w_aload_n0 (pc' := 21) q276 d276_20 rfl, w_iconst (pc' := 22) q276 d276_21 rfl, w_putZ (pc' := 25) q276 d276_22 rfl f276_200 rfl (by decide +kernel), gs_off, gs_off0, gs_0off, gs_2, xN_0, xN_2, xN_3, xN_6, xN_7, xN_8, xN_9, xN_10, xN_11, xN_12, xN_13, xN_14, xN_15, xN_16, xN_17, xN_18, xN_19, xN_20, xN_21, xN_22, xN_23, xN_24, xN_25, xN_26, xN_27, xN_28, xN_29, xN_30, xN_31, xN_32, xN_33, xN_34, xN_35, xN_36, xN_37, xN_38, xN_39, xN_40, xN_41, xN_42, xN_43, xN_44, xN_45, xN_46, xN_47, xN_48, xN_49, xN_50, xN_51, xN_52, xN_53, xN_54, xN_55, ti_0, ti_1, ti_2, ti_3, ti_4, ti_5, ti_6, ti_7, ti_8, ti_9, ti_10, ti_16, ti_19, ti_20, ti_29, ti_30, ti_31, ti_32, ti_35, ti_36, ti_38, ti_39, ti_40, ti_41, ti_42, ti_43, ti_44, ti_45, ti_46, ti_47, ti_48, ti_49, ti_50, ti_51, ti_52, ti_53, ti_54, ti_55, ti_56, ti_57, ti_58, ti_59, ti_60, ti_61, ti_62, ti_63, ti_64, ti_65, ti_74, ti_77, ti_126, ti_200, ti_201, ti_202, ti_203, ti_204, ti_205, ti_210, ti_255, ti_256, ti_400, ti_512, ti_600, ti_601, ti_602, ti_1000, ti_1023, ti_1024, ti_2000, ti_10000, ti_12602, ti_999999, ti_m999999, ti_m1, ti_2000000, ti_3000000, xN_1, xN_4, xN_5, xN_60, xN_61, xN_64, xN_200, xN_800, xN_12000, xN_12602, eq_self, and_self, and_true, true_and, if_true, if_false, decide_true, Nat.reduceLeDiff, xc2_int, xc2_ref, xc2_ra, xc2_null, xc2_long, xc2_none, xisaT_ref, xisaT_ra, xisaT_null, xc1T_int, xc1T_ref, xc1T_ra, xc1T_null, xsum_nil, xsum_int, xsum_ref, xsum_ra, xsum_long, xsum_double, xsum_null, xfl_nil, xfl_int, xfl_ref, xfl_ra, xfl_null, xfl_long, xfl_double, List.length_cons, List.length_nil, s0, z1, xfk, xfv, xak, xan, xcls, xsv', List.getElem?_cons_zero, List.getElem?_cons_succ, List.getD_cons_zero, List.getD_cons_succ, Option.getD_some, Option.isSome_some, if_true, if_pos, xcont, Option.toList_none, Option.toList_some, List.nil_append, List.cons_append]
  by_cases h0 : w0 = 0
  · subst h0
    have hpp := hp0 rfl
    rw [hpp] at j1
    have e14 : g2 (m + 14) 0 = (v K Er R 0 0).2 := j1.2.1.1
    have hg0 := goodV_0 hgd hw0.symm
    have exl : xl2i (v K Er R 0 0).2 = (v K Er R 0 0).2 := xl2i_eq (by omega) (by omega)
    refine res (v K Er R 0 0).2 (fun Q => ?_) rfl
    simp (config := { decide := true }) only [w_aload_n0 (pc' := 73) q276 d276_72 rfl, w_iconst (pc' := 74) q276 d276_73 rfl, w_invv1 (ci := 11) (pc' := 77) q276 d276_74 rfl n276_211 k276_211_11 m285.1, w_aload_n0 (pc' := 78) q276 d276_77 rfl, w_getV (pc' := 81) q276 d276_78 rfl f276_47, w_iload_n1 (pc' := 82) q276 d276_81 rfl, w_aload_n0 (pc' := 83) q276 d276_82 rfl, w_getI (pc' := 86) q276 d276_83 rfl f276_151, w_iastore (pc' := 87) q276 d276_86 rfl, w_aload_n0 (pc' := 88) q276 d276_87 rfl, w_getV (pc' := 91) q276 d276_88 rfl f276_44, w_iload_n1 (pc' := 92) q276 d276_91 rfl, w_aload_n0 (pc' := 93) q276 d276_92 rfl, w_getI (pc' := 96) q276 d276_93 rfl f276_151, w_if_le (tg := 103) (pc' := 99) q276 d276_96 (by decide) rfl, w_iconst (pc' := 100) q276 d276_99 rfl, w_goto (tg := 110) q276 d276_100 (by decide), w_aload_n0 (pc' := 104) q276 d276_103 rfl, w_getV (pc' := 107) q276 d276_104 rfl f276_50, w_iconst (pc' := 108) q276 d276_107 rfl, w_laload (pc' := 109) q276 d276_108 rfl, w_l2i (pc' := 110) q276 d276_109 rfl, w_iastore (pc' := 111) q276 d276_110 rfl, w_return q276 d276_111 m276.2.1, gs_off, gs_off0, gs_0off, gs_2, xN_0, xN_2, xN_3, xN_6, xN_7, xN_8, xN_9, xN_10, xN_11, xN_12, xN_13, xN_14, xN_15, xN_16, xN_17, xN_18, xN_19, xN_20, xN_21, xN_22, xN_23, xN_24, xN_25, xN_26, xN_27, xN_28, xN_29, xN_30, xN_31, xN_32, xN_33, xN_34, xN_35, xN_36, xN_37, xN_38, xN_39, xN_40, xN_41, xN_42, xN_43, xN_44, xN_45, xN_46, xN_47, xN_48, xN_49, xN_50, xN_51, xN_52, xN_53, xN_54, xN_55, ti_0, ti_1, ti_2, ti_3, ti_4, ti_5, ti_6, ti_7, ti_8, ti_9, ti_10, ti_16, ti_19, ti_20, ti_29, ti_30, ti_31, ti_32, ti_35, ti_36, ti_38, ti_39, ti_40, ti_41, ti_42, ti_43, ti_44, ti_45, ti_46, ti_47, ti_48, ti_49, ti_50, ti_51, ti_52, ti_53, ti_54, ti_55, ti_56, ti_57, ti_58, ti_59, ti_60, ti_61, ti_62, ti_63, ti_64, ti_65, ti_74, ti_77, ti_126, ti_200, ti_201, ti_202, ti_203, ti_204, ti_205, ti_210, ti_255, ti_256, ti_400, ti_512, ti_600, ti_601, ti_602, ti_1000, ti_1023, ti_1024, ti_2000, ti_10000, ti_12602, ti_999999, ti_m999999, ti_m1, ti_2000000, ti_3000000, xN_1, xN_4, xN_5, xN_60, xN_61, xN_64, xN_200, xN_800, xN_12000, xN_12602, eq_self, and_self, and_true, true_and, if_true, if_false, decide_true, Nat.reduceLeDiff, xc2_int, xc2_ref, xc2_ra, xc2_null, xc2_long, xc2_none, xisaT_ref, xisaT_ra, xisaT_null, xc1T_int, xc1T_ref, xc1T_ra, xc1T_null, xsum_nil, xsum_int, xsum_ref, xsum_ra, xsum_long, xsum_double, xsum_null, xfl_nil, xfl_int, xfl_ref, xfl_ra, xfl_null, xfl_long, xfl_double, List.length_cons, List.length_nil, s0, s12, s13, s14, tc, hc.1, hc.2, j4, e24, e14, exl, Int.le_refl, xfk, xfv, xak, xan, xcls, xsv', List.getElem?_cons_zero, List.getElem?_cons_succ, List.getD_cons_zero, List.getD_cons_succ, Option.getD_some, Option.isSome_some, if_true, if_pos, xcont, Option.toList_none, Option.toList_some, List.nil_append, List.cons_append]
  · have hv0 : (v K Er R 0 0).2 = 0 := by
      rcases hgd with h | h
      · exact absurd (hw0.trans h.1) h0
      · exact h.2.2
    have hw1 : ¬ w0 ≤ 0 := by omega
    refine res 0 (fun Q => ?_) hv0.symm
    simp (config := { decide := true }) only [w_aload_n0 (pc' := 73) q276 d276_72 rfl, w_iconst (pc' := 74) q276 d276_73 rfl, w_invv1 (ci := 11) (pc' := 77) q276 d276_74 rfl n276_211 k276_211_11 m285.1, w_aload_n0 (pc' := 78) q276 d276_77 rfl, w_getV (pc' := 81) q276 d276_78 rfl f276_47, w_iload_n1 (pc' := 82) q276 d276_81 rfl, w_aload_n0 (pc' := 83) q276 d276_82 rfl, w_getI (pc' := 86) q276 d276_83 rfl f276_151, w_iastore (pc' := 87) q276 d276_86 rfl, w_aload_n0 (pc' := 88) q276 d276_87 rfl, w_getV (pc' := 91) q276 d276_88 rfl f276_44, w_iload_n1 (pc' := 92) q276 d276_91 rfl, w_aload_n0 (pc' := 93) q276 d276_92 rfl, w_getI (pc' := 96) q276 d276_93 rfl f276_151, w_if_le (tg := 103) (pc' := 99) q276 d276_96 (by decide) rfl, w_iconst (pc' := 100) q276 d276_99 rfl, w_goto (tg := 110) q276 d276_100 (by decide), w_aload_n0 (pc' := 104) q276 d276_103 rfl, w_getV (pc' := 107) q276 d276_104 rfl f276_50, w_iconst (pc' := 108) q276 d276_107 rfl, w_laload (pc' := 109) q276 d276_108 rfl, w_l2i (pc' := 110) q276 d276_109 rfl, w_iastore (pc' := 111) q276 d276_110 rfl, w_return q276 d276_111 m276.2.1, gs_off, gs_off0, gs_0off, gs_2, xN_0, xN_2, xN_3, xN_6, xN_7, xN_8, xN_9, xN_10, xN_11, xN_12, xN_13, xN_14, xN_15, xN_16, xN_17, xN_18, xN_19, xN_20, xN_21, xN_22, xN_23, xN_24, xN_25, xN_26, xN_27, xN_28, xN_29, xN_30, xN_31, xN_32, xN_33, xN_34, xN_35, xN_36, xN_37, xN_38, xN_39, xN_40, xN_41, xN_42, xN_43, xN_44, xN_45, xN_46, xN_47, xN_48, xN_49, xN_50, xN_51, xN_52, xN_53, xN_54, xN_55, ti_0, ti_1, ti_2, ti_3, ti_4, ti_5, ti_6, ti_7, ti_8, ti_9, ti_10, ti_16, ti_19, ti_20, ti_29, ti_30, ti_31, ti_32, ti_35, ti_36, ti_38, ti_39, ti_40, ti_41, ti_42, ti_43, ti_44, ti_45, ti_46, ti_47, ti_48, ti_49, ti_50, ti_51, ti_52, ti_53, ti_54, ti_55, ti_56, ti_57, ti_58, ti_59, ti_60, ti_61, ti_62, ti_63, ti_64, ti_65, ti_74, ti_77, ti_126, ti_200, ti_201, ti_202, ti_203, ti_204, ti_205, ti_210, ti_255, ti_256, ti_400, ti_512, ti_600, ti_601, ti_602, ti_1000, ti_1023, ti_1024, ti_2000, ti_10000, ti_12602, ti_999999, ti_m999999, ti_m1, ti_2000000, ti_3000000, xN_1, xN_4, xN_5, xN_60, xN_61, xN_64, xN_200, xN_800, xN_12000, xN_12602, eq_self, and_self, and_true, true_and, if_true, if_false, decide_true, Nat.reduceLeDiff, xc2_int, xc2_ref, xc2_ra, xc2_null, xc2_long, xc2_none, xisaT_ref, xisaT_ra, xisaT_null, xc1T_int, xc1T_ref, xc1T_ra, xc1T_null, xsum_nil, xsum_int, xsum_ref, xsum_ra, xsum_long, xsum_double, xsum_null, xfl_nil, xfl_int, xfl_ref, xfl_ra, xfl_null, xfl_long, xfl_double, List.length_cons, List.length_nil, s0, s12, s13, s14, tc, hc.1, hc.2, j4, e24, tw, hw1, xfk, xfv, xak, xan, xcls, xsv', List.getElem?_cons_zero, List.getElem?_cons_succ, List.getD_cons_zero, List.getD_cons_succ, Option.getD_some, Option.isSome_some, if_true, if_pos, xcont, Option.toList_none, Option.toList_some, List.nil_append, List.cons_append]
end
