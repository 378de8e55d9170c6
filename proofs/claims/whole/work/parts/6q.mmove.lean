/-! The model: cells and lines are moved -/
section
theorem tkF_tree {sp : Int → Int} {co : Int → Int → Int} (ok1 : ∀ s, okS s → okM (sp s)) (ok2 : ∀ s o, okS s → okS o → okM (co s o)) {L : List Int} (h : ∃ v : Ev, ∃ r n, Tr 0 r n L v) : ∃ v : Ev, ∃ r n, Tr 0 r n (L.map (tkF sp co)) v := by
  obtain ⟨v, r, n, hT⟩ := h
  have := (Tr_map (f := tkF sp co) (fun t ht => by unfold tkF; rw [if_neg (by omega), if_neg (by omega)]) (fun t ht => ?_) (fun t ht => ?_) 0 r n L v hT).1 rfl
  · obtain ⟨v', h'⟩ := this
    exact ⟨v', r, n, h'⟩
  · rcases ht with h | h | h
    · have e : tkF sp co t = t := by unfold tkF; rw [if_neg (by omega), if_neg (by omega)]
      rw [e]; exact .inl h
    · unfold tkF
      rw [if_pos h.1]
      rcases ok1 _ h.2 with e | e
      · rw [if_pos (by omega)]; exact .inr (.inr rfl)
      · have e' := e
        unfold okS at e'
        rw [if_neg (by omega)]
        exact .inr (.inl ⟨by omega, by rw [show (sp (t / 8) * 8 + 2) / 8 = sp (t / 8) by omega]; exact e⟩)
    · subst h
      exact .inr (.inr (by unfold tkF; rw [if_neg (by decide), if_neg (by decide)]))
  · have h3 := ht.1
    unfold tkF
    rw [if_neg (by omega), if_pos h3]
    split
    · exact .inr rfl
    · next hn =>
      have e10 : t / 8 / 1024 % 1024 = t / 8 / 1024 := by have := ht.2.2; unfold okS at this; omega
      rw [e10] at hn ⊢
      have o1 := (ok2 _ _ ht.2.1 ht.2.2).resolve_left (by omega)
      have o2 := (ok2 _ _ ht.2.2 ht.2.1).resolve_left (by omega)
      have o1' := o1
      have o2' := o2
      unfold okS at o1' o2'
      refine .inl ⟨by omega, ?_, ?_⟩
      · rw [show ((co (t / 8 % 1024) (t / 8 / 1024) + 1024 * co (t / 8 / 1024) (t / 8 % 1024)) * 8 + 3) / 8 % 1024 = co (t / 8 % 1024) (t / 8 / 1024) by omega]; exact o1
      · rw [show ((co (t / 8 % 1024) (t / 8 / 1024) + 1024 * co (t / 8 / 1024) (t / 8 % 1024)) * 8 + 3) / 8 / 1024 = co (t / 8 / 1024) (t / 8 % 1024) by omega]; exact o2
theorem mk1_map {sp : Int → Int} {co : Int → Int → Int} (ok1 : ∀ s, okS s → okM (sp s)) {t : Int} (h : okG t) : (mk1 (tkF sp co t)).length ≤ (mk1 t).length := by
  have id8 : ¬ t % 8 = 2 → ¬ t % 8 = 3 → tkF sp co t = t := fun a b => by unfold tkF; rw [if_neg a, if_neg b]
  rcases h with h | h | h | h | h | h
  · rw [id8 (by omega) (by omega)]; exact Nat.le_refl _
  · have e : mk1 t = [spm (t / 8)] := by unfold mk1; rw [if_neg (by omega), if_pos h.1]
    rw [e]
    unfold tkF
    rw [if_pos h.1]
    rcases ok1 _ h.2 with e | e
    · rw [if_pos (by omega), show mk1 4 = [3000000] by decide]; exact Nat.le_refl _
    · unfold okS at e
      rw [if_neg (by omega)]
      unfold mk1
      rw [if_neg (by omega), if_pos (by omega)]
      exact Nat.le_refl _
  · rw [id8 (by omega) (by omega)]; exact Nat.le_refl _
  · have e := mk1_rng h
    rw [e]
    have := (mk1_len (tkF sp co t)).1
    simp only [List.length_cons, List.length_nil]
    omega
  · rw [id8 (by omega) (by omega)]; exact Nat.le_refl _
  · rw [id8 (by omega) (by omega)]; exact Nat.le_refl _
theorem mks_map {sp : Int → Int} {co : Int → Int → Int} (ok1 : ∀ s, okS s → okM (sp s)) : ∀ (L : List Int), (∀ t ∈ L, okG t) → (mks (L.map (tkF sp co))).length ≤ (mks L).length
  | [], _ => Nat.le_refl _
  | t :: L, h => by
    rw [List.map_cons, mks_cons, mks_cons, List.length_append, List.length_append]
    have h1 := mk1_map (co := co) ok1 (h t (List.mem_cons_self ..))
    have h2 := mks_map (co := co) ok1 L (fun x hx => h x (List.mem_cons_of_mem _ hx))
    omega
theorem words_ok {sp : Int → Int} {co : Int → Int → Int} (ok1 : ∀ s, okS s → okM (sp s)) (ok2 : ∀ s o, okS s → okS o → okM (co s o)) {L : List Int} (h : (∃ v : Ev, ∃ r n, Tr 0 r n L v) ∧ (mks L).length ≤ 60) : (∃ v : Ev, ∃ r n, Tr 0 r n (L.map (tkF sp co)) v) ∧ (mks (L.map (tkF sp co))).length ≤ 60 := by
  refine ⟨tkF_tree ok1 ok2 h.1, ?_⟩
  obtain ⟨⟨v, r, n, hT⟩, hl⟩ := h
  have := mks_map (co := co) ok1 L (Tr_okG _ _ _ _ _ hT)
  omega
theorem shW_ok {sp : Int → Int} {co : Int → Int → Int} {A : Sh} (ok1 : ∀ s, okS s → okM (sp s)) (ok2 : ∀ s o, okS s → okS o → okM (co s o)) (h : ShOK A) : ShOK (shW A (tkF sp co)) := fun c c1 c2 => by
  obtain ⟨h1, h2, h3⟩ := h c c1 c2
  exact ⟨h1, fun e => words_ok ok1 ok2 (h2 e), h3⟩
variable {X : xX} {S : xLm} {g : xGm} {d m : Nat} {w : xH} {Q : xO → xH → Prop} {P : Pd} {A : Sh} {sn : Option Sh} {H : List Sh}
theorem Fm_R {g' : xGm} (h : FxR g g' m) : Fm g g' m := fun k hk => h.1 k (by omega) (fun j hj => by
  simp only [List.mem_cons, List.not_mem_nil, or_false] at hj
  omega)
theorem MdP_R {g' : xGm} (h : FxR g g' m) (hP : MdP g m P sn H) : MdP g' m P sn H :=
  MdP_fr (fun j hj => h.1 _ (by omega) (fun k hk => by
    simp only [List.mem_cons, List.not_mem_nil, or_false] at hk
    omega)) ⟨Fx_sl h (by decide), Fx_sl h (by decide), Fx_sl h (by decide), Fx_sl h (by decide)⟩ (MoR_fr (fun j hj => h.1 _ (by omega) (fun k hk => by
    simp only [List.mem_cons, List.not_mem_nil, or_false] at hk
    omega)) hP.2.1) hP
theorem MdP_slot {i z : Int} (hi : ¬ i = 2 ∧ ¬ i = 7 ∧ ¬ i = 8 ∧ ¬ i = 10) (h : MdP g m P sn H) : MdP (gs g m i z) m P sn H :=
  MdP_fr (fun j hj => gs_row _ _ _ (by omega)) ⟨gs_o (by omega), gs_o (by omega), gs_o (by omega), gs_o (by omega)⟩ (MoR_fr (fun j hj => gs_row _ _ _ (by omega)) h.2.1) h
/-- a cell that was moved -/
def mvA (A : Sh) (f t : Int) : Sh := shP (shP A t (A.1 f) (A.2.1 f) (A.2.2.1 f)) f 0 0 []
theorem mvA_ok {f t : Int} (hf : 0 ≤ f ∧ f < 200) (h : ShOK A) : ShOK (mvA A f t) := by
  obtain ⟨h1, h2, h3⟩ := h f hf.1 hf.2
  exact ShOK_put (ShOK_put h h1 h2 h3) (.inl rfl) (fun e => absurd e (by decide)) (fun e => absurd e (by decide))
theorem mvA_M {r : Int → Int} {f t : Int} (hf : 0 ≤ f ∧ f < 200) (ht : 0 ≤ t ∧ t < 200) (hne : ¬ f = t) (h : ShM r A) : ShM (mvR r f t) (mvA A f t) := by
  refine ⟨⟨?_, ?_⟩, fun x x1 x2 => ?_⟩
  · rw [mvR_off (by unfold celI; omega) (by unfold celI; omega)]; exact h.1.1
  · rw [mvR_off (by unfold celI; omega) (by unfold celI; omega)]; exact h.1.2
  · have goal : CelR (mvR r f t) x ((mvA A f t).1 x) ((mvA A f t).2.1 x) (mks ((mvA A f t).2.2.1 x)) := by
      unfold mvA shP
      dsimp only
      by_cases e1 : x = f
      · rw [if_pos e1, if_pos e1, if_pos e1, e1]
        exact mvR_f
      · rw [if_neg e1, if_neg e1, if_neg e1]
        by_cases e2 : x = t
        · rw [if_pos e2, if_pos e2, if_pos e2, e2]
          exact mvR_t hf ht hne (ShM_cel h hf.1 hf.2)
        · rw [if_neg e2, if_neg e2, if_neg e2]
          exact CelR_congr x1 x2 (fun i hi => mvR_off (celI_ne x1 x2 hf.1 hf.2 e1 hi) (celI_ne x1 x2 ht.1 ht.2 e2 hi)) (ShM_cel h x1 x2)
    exact goal
noncomputable def moS (A : Sh) (f t : Int) : Sh := shC (shW (mvA A f t) (tkF (mvS f t) (fun s _ => s))) (cnA (mvA A f t).1)
def moN (A : Sh) (f t : Int) : Int := sumf (fun x => if (mvA A f t).1 x = 2 then tcS (tcM f t) ((mvA A f t).2.2.1 x) else 0) 0 200
theorem m_moveCell {f t : Int} (hS : MdS S m) (hI : MdI g m P A sn H) (tf : ti f = f) (tt : ti t = t) (hall : 0 ≤ A.2.2.2.2 ∧ A.2.2.2.2 ≤ 900000) :
    (¬ ((0 ≤ f ∧ f < 200) ∧ (0 ≤ t ∧ t < 200) ∧ ¬ f = t) → MRs X S g m 317 (d + 12) [.ref m, .int (iI f), .int (iI t)] 1 (.int (iI 0)) P A sn H) ∧
    ((0 ≤ f ∧ f < 200) ∧ (0 ≤ t ∧ t < 200) ∧ ¬ f = t → MRs X S g m 317 (d + 12) [.ref m, .int (iI f), .int (iI t)] 0 (.int (iI (moN A f t))) P (moS A f t) sn (recH A H)) := by
  have s0 := hS.1
  have hif := fun w => m_isCell (X := X) (d := d + 10) (w := w) tf
  have hit := fun w => m_isCell (X := X) (d := d + 10) (w := w) tt
  have has := fun G b hb => m_asks (X := X) (d := d + 11) (g := G) (b := b) hS hb
  have h0 := fun G => has G 0 (.inl rfl)
  have h1 := fun G => has G 1 (.inr rfl)
  simp only [show (1 : Int) - 0 = 1 from rfl, show (1 : Int) - 1 = 0 from rfl] at h0 h1
  refine ⟨fun h => ?_, fun h => ?_⟩
  · refine ⟨gs g m 11 1, Fm_slot, MdI_slot (by decide) hI, by rw [gs_at, if_pos rfl], fun Q => ?_⟩
    rw [e317]
    by_cases hf : 0 ≤ f ∧ f < 200
    · simp only [if_pos hf] at hif
      by_cases ht : 0 ≤ t ∧ t < 200
      · simp only [if_pos ht] at hit
        have e : f = t := Decidable.not_not.mp (fun hn => h ⟨hf, ht, hn⟩)
        subst e
        simp (config := { decide := true }) only [w_aload_n0 (pc' := 1) q317 d317_0 rfl, w_iload_n1 (pc' := 2) q317 d317_1 rfl, w_invs1 (pc' := 5) q317 d317_2 rfl (by decide +kernel) k317_392_99 m262.1, w_if_eq (tg := 24) (pc' := 8) q317 d317_5 (by decide) rfl, w_iload_n2 (pc' := 9) q317 d317_8 rfl, w_invs1 (pc' := 12) q317 d317_9 rfl (by decide +kernel) k317_392_99 m262.1, w_if_eq (tg := 24) (pc' := 15) q317 d317_12 (by decide) rfl, w_iload_n1 (pc' := 16) q317 d317_15 rfl, w_iload_n2 (pc' := 17) q317 d317_16 rfl, w_icmp_eq (tg := 24) (pc' := 20) q317 d317_17 (by decide) rfl, w_iconst (pc' := 21) q317 d317_20 rfl, w_goto (tg := 25) q317 d317_21 (by decide), w_iconst (pc' := 25) q317 d317_24 rfl, w_invv1 (ci := 11) (pc' := 28) q317 d317_25 rfl n317_395 k317_395_11 m263.1, w_if_ne (tg := 33) (pc' := 31) q317 d317_28 (by decide) rfl, w_iconst (pc' := 32) q317 d317_31 rfl, w_ireturn q317 d317_32 m317.2.1, w_aload_n0 (pc' := 34) q317 d317_33 rfl, w_invv0 (ci := 11) (pc' := 37) q317 d317_34 rfl n317_399 k317_399_11 m264.1, w_aload_n0 (pc' := 38) q317 d317_37 rfl, w_iload_n1 (pc' := 39) q317 d317_38 rfl, w_iload_n2 (pc' := 40) q317 d317_39 rfl, w_invv2 (ci := 11) (pc' := 43) q317 d317_40 rfl n317_471 k317_471_11 m318.1, w_aload_n0 (pc' := 44) q317 d317_43 rfl, w_iload_n1 (pc' := 45) q317 d317_44 rfl, w_putI (pc' := 48) q317 d317_45 rfl f317_446 rfl (by decide +kernel), w_aload_n0 (pc' := 49) q317 d317_48 rfl, w_iload_n2 (pc' := 50) q317 d317_49 rfl, w_putI (pc' := 53) q317 d317_50 rfl f317_449 rfl (by decide +kernel), w_aload_n0 (pc' := 54) q317 d317_53 rfl, w_iconst (pc' := 55) q317 d317_54 rfl, w_putI (pc' := 58) q317 d317_55 rfl f317_452 rfl (by decide +kernel), w_aload_n0 (pc' := 59) q317 d317_58 rfl, w_iconst (pc' := 60) q317 d317_59 rfl, w_invv1 (ci := 11) (pc' := 63) q317 d317_60 rfl n317_474 k317_474_11 m319.1, w_aload_n0 (pc' := 64) q317 d317_63 rfl, w_invv0 (ci := 11) (pc' := 67) q317 d317_64 rfl n317_410 k317_410_11 m303.1, w_aload_n0 (pc' := 68) q317 d317_67 rfl, w_getI (pc' := 71) q317 d317_68 rfl f317_452, w_ireturn q317 d317_71 m317.2.1, gs_off, gs_off0, gs_0off, gs_2, xN_0, xN_2, xN_3, xN_6, xN_7, xN_8, xN_9, xN_10, xN_11, xN_12, xN_13, xN_14, xN_15, xN_16, xN_17, xN_18, xN_19, xN_20, xN_21, xN_22, xN_23, xN_24, xN_25, xN_26, xN_27, xN_28, xN_29, xN_30, xN_31, xN_32, xN_33, xN_34, xN_35, xN_36, xN_37, xN_38, xN_39, xN_40, xN_41, xN_42, xN_43, xN_44, xN_45, xN_46, xN_47, xN_48, xN_49, xN_50, xN_51, xN_52, xN_53, xN_54, xN_55, ti_0, ti_1, ti_2, ti_3, ti_4, ti_5, ti_6, ti_7, ti_8, ti_9, ti_10, ti_16, ti_19, ti_20, ti_29, ti_30, ti_31, ti_32, ti_35, ti_36, ti_38, ti_39, ti_40, ti_41, ti_42, ti_43, ti_44, ti_45, ti_46, ti_47, ti_48, ti_49, ti_50, ti_51, ti_52, ti_53, ti_54, ti_55, ti_56, ti_57, ti_58, ti_59, ti_60, ti_61, ti_62, ti_63, ti_64, ti_65, ti_74, ti_77, ti_126, ti_200, ti_201, ti_202, ti_203, ti_204, ti_205, ti_210, ti_255, ti_256, ti_400, ti_512, ti_600, ti_601, ti_602, ti_1000, ti_1023, ti_1024, ti_2000, ti_10000, ti_12602, ti_999999, ti_m999999, ti_m1, ti_2000000, ti_3000000, xN_1, xN_4, xN_5, xN_60, xN_61, xN_64, xN_200, xN_800, xN_12000, xN_12602, eq_self, and_self, and_true, true_and, if_true, if_false, decide_true, Nat.reduceLeDiff, xc2_int, xc2_ref, xc2_ra, xc2_null, xc2_long, xc2_none, xisaT_ref, xisaT_ra, xisaT_null, xc1T_int, xc1T_ref, xc1T_ra, xc1T_null, xsum_nil, xsum_int, xsum_ref, xsum_ra, xsum_long, xsum_double, xsum_null, xfl_nil, xfl_int, xfl_ref, xfl_ra, xfl_null, xfl_long, xfl_double, List.length_cons, List.length_nil, s0, hif, hit, h0, tf, not_true_eq_false, xfk, xfv, xak, xan, xcls, xsv', List.getElem?_cons_zero, List.getElem?_cons_succ, List.getD_cons_zero, List.getD_cons_succ, Option.getD_some, Option.isSome_some, if_true, if_pos, xcont, Option.toList_none, Option.toList_some, List.nil_append, List.cons_append]
      · simp only [if_neg ht] at hit
        simp (config := { decide := true }) only [w_aload_n0 (pc' := 1) q317 d317_0 rfl, w_iload_n1 (pc' := 2) q317 d317_1 rfl, w_invs1 (pc' := 5) q317 d317_2 rfl (by decide +kernel) k317_392_99 m262.1, w_if_eq (tg := 24) (pc' := 8) q317 d317_5 (by decide) rfl, w_iload_n2 (pc' := 9) q317 d317_8 rfl, w_invs1 (pc' := 12) q317 d317_9 rfl (by decide +kernel) k317_392_99 m262.1, w_if_eq (tg := 24) (pc' := 15) q317 d317_12 (by decide) rfl, w_iload_n1 (pc' := 16) q317 d317_15 rfl, w_iload_n2 (pc' := 17) q317 d317_16 rfl, w_icmp_eq (tg := 24) (pc' := 20) q317 d317_17 (by decide) rfl, w_iconst (pc' := 21) q317 d317_20 rfl, w_goto (tg := 25) q317 d317_21 (by decide), w_iconst (pc' := 25) q317 d317_24 rfl, w_invv1 (ci := 11) (pc' := 28) q317 d317_25 rfl n317_395 k317_395_11 m263.1, w_if_ne (tg := 33) (pc' := 31) q317 d317_28 (by decide) rfl, w_iconst (pc' := 32) q317 d317_31 rfl, w_ireturn q317 d317_32 m317.2.1, w_aload_n0 (pc' := 34) q317 d317_33 rfl, w_invv0 (ci := 11) (pc' := 37) q317 d317_34 rfl n317_399 k317_399_11 m264.1, w_aload_n0 (pc' := 38) q317 d317_37 rfl, w_iload_n1 (pc' := 39) q317 d317_38 rfl, w_iload_n2 (pc' := 40) q317 d317_39 rfl, w_invv2 (ci := 11) (pc' := 43) q317 d317_40 rfl n317_471 k317_471_11 m318.1, w_aload_n0 (pc' := 44) q317 d317_43 rfl, w_iload_n1 (pc' := 45) q317 d317_44 rfl, w_putI (pc' := 48) q317 d317_45 rfl f317_446 rfl (by decide +kernel), w_aload_n0 (pc' := 49) q317 d317_48 rfl, w_iload_n2 (pc' := 50) q317 d317_49 rfl, w_putI (pc' := 53) q317 d317_50 rfl f317_449 rfl (by decide +kernel), w_aload_n0 (pc' := 54) q317 d317_53 rfl, w_iconst (pc' := 55) q317 d317_54 rfl, w_putI (pc' := 58) q317 d317_55 rfl f317_452 rfl (by decide +kernel), w_aload_n0 (pc' := 59) q317 d317_58 rfl, w_iconst (pc' := 60) q317 d317_59 rfl, w_invv1 (ci := 11) (pc' := 63) q317 d317_60 rfl n317_474 k317_474_11 m319.1, w_aload_n0 (pc' := 64) q317 d317_63 rfl, w_invv0 (ci := 11) (pc' := 67) q317 d317_64 rfl n317_410 k317_410_11 m303.1, w_aload_n0 (pc' := 68) q317 d317_67 rfl, w_getI (pc' := 71) q317 d317_68 rfl f317_452, w_ireturn q317 d317_71 m317.2.1, gs_off, gs_off0, gs_0off, gs_2, xN_0, xN_2, xN_3, xN_6, xN_7, xN_8, xN_9, xN_10, xN_11, xN_12, xN_13, xN_14, xN_15, xN_16, xN_17, xN_18, xN_19, xN_20, xN_21, xN_22, xN_23, xN_24, xN_25, xN_26, xN_27, xN_28, xN_29, xN_30, xN_31, xN_32, xN_33, xN_34, xN_35, xN_36, xN_37, xN_38, xN_39, xN_40, xN_41, xN_42, xN_43, xN_44, xN_45, xN_46, xN_47, xN_48, xN_49, xN_50, xN_51, xN_52, xN_53, xN_54, xN_55, ti_0, ti_1, ti_2, ti_3, ti_4, ti_5, ti_6, ti_7, ti_8, ti_9, ti_10, ti_16, ti_19, ti_20, ti_29, ti_30, ti_31, ti_32, ti_35, ti_36, ti_38, ti_39, ti_40, ti_41, ti_42, ti_43, ti_44, ti_45, ti_46, ti_47, ti_48, ti_49, ti_50, ti_51, ti_52, ti_53, ti_54, ti_55, ti_56, ti_57, ti_58, ti_59, ti_60, ti_61, ti_62, ti_63, ti_64, ti_65, ti_74, ti_77, ti_126, ti_200, ti_201, ti_202, ti_203, ti_204, ti_205, ti_210, ti_255, ti_256, ti_400, ti_512, ti_600, ti_601, ti_602, ti_1000, ti_1023, ti_1024, ti_2000, ti_10000, ti_12602, ti_999999, ti_m999999, ti_m1, ti_2000000, ti_3000000, xN_1, xN_4, xN_5, xN_60, xN_61, xN_64, xN_200, xN_800, xN_12000, xN_12602, eq_self, and_self, and_true, true_and, if_true, if_false, decide_true, Nat.reduceLeDiff, xc2_int, xc2_ref, xc2_ra, xc2_null, xc2_long, xc2_none, xisaT_ref, xisaT_ra, xisaT_null, xc1T_int, xc1T_ref, xc1T_ra, xc1T_null, xsum_nil, xsum_int, xsum_ref, xsum_ra, xsum_long, xsum_double, xsum_null, xfl_nil, xfl_int, xfl_ref, xfl_ra, xfl_null, xfl_long, xfl_double, List.length_cons, List.length_nil, s0, hif, hit, h0, not_true_eq_false, xfk, xfv, xak, xan, xcls, xsv', List.getElem?_cons_zero, List.getElem?_cons_succ, List.getD_cons_zero, List.getD_cons_succ, Option.getD_some, Option.isSome_some, if_true, if_pos, xcont, Option.toList_none, Option.toList_some, List.nil_append, List.cons_append]
    · simp only [if_neg hf] at hif
      simp (config := { decide := true }) only [w_aload_n0 (pc' := 1) q317 d317_0 rfl, w_iload_n1 (pc' := 2) q317 d317_1 rfl, w_invs1 (pc' := 5) q317 d317_2 rfl (by decide +kernel) k317_392_99 m262.1, w_if_eq (tg := 24) (pc' := 8) q317 d317_5 (by decide) rfl, w_iload_n2 (pc' := 9) q317 d317_8 rfl, w_invs1 (pc' := 12) q317 d317_9 rfl (by decide +kernel) k317_392_99 m262.1, w_if_eq (tg := 24) (pc' := 15) q317 d317_12 (by decide) rfl, w_iload_n1 (pc' := 16) q317 d317_15 rfl, w_iload_n2 (pc' := 17) q317 d317_16 rfl, w_icmp_eq (tg := 24) (pc' := 20) q317 d317_17 (by decide) rfl, w_iconst (pc' := 21) q317 d317_20 rfl, w_goto (tg := 25) q317 d317_21 (by decide), w_iconst (pc' := 25) q317 d317_24 rfl, w_invv1 (ci := 11) (pc' := 28) q317 d317_25 rfl n317_395 k317_395_11 m263.1, w_if_ne (tg := 33) (pc' := 31) q317 d317_28 (by decide) rfl, w_iconst (pc' := 32) q317 d317_31 rfl, w_ireturn q317 d317_32 m317.2.1, w_aload_n0 (pc' := 34) q317 d317_33 rfl, w_invv0 (ci := 11) (pc' := 37) q317 d317_34 rfl n317_399 k317_399_11 m264.1, w_aload_n0 (pc' := 38) q317 d317_37 rfl, w_iload_n1 (pc' := 39) q317 d317_38 rfl, w_iload_n2 (pc' := 40) q317 d317_39 rfl, w_invv2 (ci := 11) (pc' := 43) q317 d317_40 rfl n317_471 k317_471_11 m318.1, w_aload_n0 (pc' := 44) q317 d317_43 rfl, w_iload_n1 (pc' := 45) q317 d317_44 rfl, w_putI (pc' := 48) q317 d317_45 rfl f317_446 rfl (by decide +kernel), w_aload_n0 (pc' := 49) q317 d317_48 rfl, w_iload_n2 (pc' := 50) q317 d317_49 rfl, w_putI (pc' := 53) q317 d317_50 rfl f317_449 rfl (by decide +kernel), w_aload_n0 (pc' := 54) q317 d317_53 rfl, w_iconst (pc' := 55) q317 d317_54 rfl, w_putI (pc' := 58) q317 d317_55 rfl f317_452 rfl (by decide +kernel), w_aload_n0 (pc' := 59) q317 d317_58 rfl, w_iconst (pc' := 60) q317 d317_59 rfl, w_invv1 (ci := 11) (pc' := 63) q317 d317_60 rfl n317_474 k317_474_11 m319.1, w_aload_n0 (pc' := 64) q317 d317_63 rfl, w_invv0 (ci := 11) (pc' := 67) q317 d317_64 rfl n317_410 k317_410_11 m303.1, w_aload_n0 (pc' := 68) q317 d317_67 rfl, w_getI (pc' := 71) q317 d317_68 rfl f317_452, w_ireturn q317 d317_71 m317.2.1, gs_off, gs_off0, gs_0off, gs_2, xN_0, xN_2, xN_3, xN_6, xN_7, xN_8, xN_9, xN_10, xN_11, xN_12, xN_13, xN_14, xN_15, xN_16, xN_17, xN_18, xN_19, xN_20, xN_21, xN_22, xN_23, xN_24, xN_25, xN_26, xN_27, xN_28, xN_29, xN_30, xN_31, xN_32, xN_33, xN_34, xN_35, xN_36, xN_37, xN_38, xN_39, xN_40, xN_41, xN_42, xN_43, xN_44, xN_45, xN_46, xN_47, xN_48, xN_49, xN_50, xN_51, xN_52, xN_53, xN_54, xN_55, ti_0, ti_1, ti_2, ti_3, ti_4, ti_5, ti_6, ti_7, ti_8, ti_9, ti_10, ti_16, ti_19, ti_20, ti_29, ti_30, ti_31, ti_32, ti_35, ti_36, ti_38, ti_39, ti_40, ti_41, ti_42, ti_43, ti_44, ti_45, ti_46, ti_47, ti_48, ti_49, ti_50, ti_51, ti_52, ti_53, ti_54, ti_55, ti_56, ti_57, ti_58, ti_59, ti_60, ti_61, ti_62, ti_63, ti_64, ti_65, ti_74, ti_77, ti_126, ti_200, ti_201, ti_202, ti_203, ti_204, ti_205, ti_210, ti_255, ti_256, ti_400, ti_512, ti_600, ti_601, ti_602, ti_1000, ti_1023, ti_1024, ti_2000, ti_10000, ti_12602, ti_999999, ti_m999999, ti_m1, ti_2000000, ti_3000000, xN_1, xN_4, xN_5, xN_60, xN_61, xN_64, xN_200, xN_800, xN_12000, xN_12602, eq_self, and_self, and_true, true_and, if_true, if_false, decide_true, Nat.reduceLeDiff, xc2_int, xc2_ref, xc2_ra, xc2_null, xc2_long, xc2_none, xisaT_ref, xisaT_ra, xisaT_null, xc1T_int, xc1T_ref, xc1T_ra, xc1T_null, xsum_nil, xsum_int, xsum_ref, xsum_ra, xsum_long, xsum_double, xsum_null, xfl_nil, xfl_int, xfl_ref, xfl_ra, xfl_null, xfl_long, xfl_double, List.length_cons, List.length_nil, s0, hif, h0, not_true_eq_false, xfk, xfv, xak, xan, xcls, xsv', List.getElem?_cons_zero, List.getElem?_cons_succ, List.getD_cons_zero, List.getD_cons_succ, Option.getD_some, Option.isSome_some, if_true, if_pos, xcont, Option.toList_none, Option.toList_some, List.nil_append, List.cons_append]
  · obtain ⟨hf, ht, hne⟩ := h
    simp only [if_pos hf] at hif
    simp only [if_pos ht] at hit
    have hI0 : MdI (gs g m 11 0) m P A sn H := MdI_slot (by decide) hI
    obtain ⟨g2, f2, i2, r2, s2, k2⟩ := m_rec (X := X) (d := d + 9) hS hI0
    have hmv := m_moves (X := X) (d := d + 9) (g := g2) hS hf ht hne
    have hM2 := mvA_M hf ht hne i2.2.1.2.1
    have hO2 := mvA_ok (t := t) hf i2.2.1.2.2
    have hG2 := mvR_rg (f := f) (t := t) (i2.2.2.1 1 (by decide) (by decide))
    obtain ⟨G3, eG3⟩ : ∃ G3, G3 = gs (gs (gs (gr g2 (m + 1) (mvR (g2 (m + 1)) f t)) m 51 f) m 52 t) m 53 0 := ⟨_, rfl⟩
    have e1 : G3 (m + 1) = mvR (g2 (m + 1)) f t := by rw [eG3, gs_row _ _ _ (by omega), gs_row _ _ _ (by omega), gs_row _ _ _ (by omega), gr_hit]
    have hH := HwM_move (X := X) (S := S) (m := m) (d := d + 5) (fr := f) (to := t) (cf := fun i => G3 m i) hS (by rw [eG3, gs_o (by decide), gs_o (by decide), gs_at, if_pos rfl]) (by rw [eG3, gs_o (by decide), gs_at, if_pos rfl]) hf ht hne
    obtain ⟨g4, f4, j1, j2, j3, j4⟩ := m_rebuildsAll (X := X) (d := d + 5) (A := mvA A f t) (g := G3) hS hH hO2 (by rw [e1]; exact hG2) (by rw [e1]; exact hM2) (fun i _ _ => rfl)
    have e53 : G3 m 53 = 0 := by rw [eG3, gs_at, if_pos rfl]
    have hP3 : MdP G3 m P sn (recH A H) := by rw [eG3]; exact MdP_slot (by decide) (MdP_slot (by decide) (MdP_slot (by decide) (MdP_row1 (MdP_of i2))))
    obtain ⟨g5, f5, i5, l5, k5⟩ := m_chgAll (X := X) (d := d + 4) (g := g4) hS (MdP_R f4 hP3) j2 j1 (shW_ok hH.1.1 hH.1.2 hO2) hall
    have e5 : g5 m 53 = moN A f t := by rw [l5 53 (by decide), j3, e53, Int.zero_add]; rfl
    refine ⟨g5, Fm_trans Fm_slot (Fm_trans f2 (Fm_trans ?_ (Fm_trans (Fm_R f4) f5))), i5, ?_, fun Q => ?_⟩
    · rw [eG3]; exact Fm_trans (Fm_row (by decide)) (Fm_trans Fm_slot (Fm_trans Fm_slot Fm_slot))
    · rw [l5 11 (by decide), Fx_sl f4 (by decide), eG3, gs_o (by decide), gs_o (by decide), gs_o (by decide), gr_row _ _ (by omega), s2 11 (by decide) (by decide), gs_at, if_pos rfl]
    · rw [eG3] at j4
      rw [e317]
      simp (config := { decide := true }) only [w_aload_n0 (pc' := 1) q317 d317_0 rfl, w_iload_n1 (pc' := 2) q317 d317_1 rfl, w_invs1 (pc' := 5) q317 d317_2 rfl (by decide +kernel) k317_392_99 m262.1, w_if_eq (tg := 24) (pc' := 8) q317 d317_5 (by decide) rfl, w_iload_n2 (pc' := 9) q317 d317_8 rfl, w_invs1 (pc' := 12) q317 d317_9 rfl (by decide +kernel) k317_392_99 m262.1, w_if_eq (tg := 24) (pc' := 15) q317 d317_12 (by decide) rfl, w_iload_n1 (pc' := 16) q317 d317_15 rfl, w_iload_n2 (pc' := 17) q317 d317_16 rfl, w_icmp_eq (tg := 24) (pc' := 20) q317 d317_17 (by decide) rfl, w_iconst (pc' := 21) q317 d317_20 rfl, w_goto (tg := 25) q317 d317_21 (by decide), w_iconst (pc' := 25) q317 d317_24 rfl, w_invv1 (ci := 11) (pc' := 28) q317 d317_25 rfl n317_395 k317_395_11 m263.1, w_if_ne (tg := 33) (pc' := 31) q317 d317_28 (by decide) rfl, w_iconst (pc' := 32) q317 d317_31 rfl, w_ireturn q317 d317_32 m317.2.1, w_aload_n0 (pc' := 34) q317 d317_33 rfl, w_invv0 (ci := 11) (pc' := 37) q317 d317_34 rfl n317_399 k317_399_11 m264.1, w_aload_n0 (pc' := 38) q317 d317_37 rfl, w_iload_n1 (pc' := 39) q317 d317_38 rfl, w_iload_n2 (pc' := 40) q317 d317_39 rfl, w_invv2 (ci := 11) (pc' := 43) q317 d317_40 rfl n317_471 k317_471_11 m318.1, w_aload_n0 (pc' := 44) q317 d317_43 rfl, w_iload_n1 (pc' := 45) q317 d317_44 rfl, w_putI (pc' := 48) q317 d317_45 rfl f317_446 rfl (by decide +kernel), w_aload_n0 (pc' := 49) q317 d317_48 rfl, w_iload_n2 (pc' := 50) q317 d317_49 rfl, w_putI (pc' := 53) q317 d317_50 rfl f317_449 rfl (by decide +kernel), w_aload_n0 (pc' := 54) q317 d317_53 rfl, w_iconst (pc' := 55) q317 d317_54 rfl, w_putI (pc' := 58) q317 d317_55 rfl f317_452 rfl (by decide +kernel), w_aload_n0 (pc' := 59) q317 d317_58 rfl, w_iconst (pc' := 60) q317 d317_59 rfl, w_invv1 (ci := 11) (pc' := 63) q317 d317_60 rfl n317_474 k317_474_11 m319.1, w_aload_n0 (pc' := 64) q317 d317_63 rfl, w_invv0 (ci := 11) (pc' := 67) q317 d317_64 rfl n317_410 k317_410_11 m303.1, w_aload_n0 (pc' := 68) q317 d317_67 rfl, w_getI (pc' := 71) q317 d317_68 rfl f317_452, w_ireturn q317 d317_71 m317.2.1, gs_off, gs_off0, gs_0off, gs_2, xN_0, xN_2, xN_3, xN_6, xN_7, xN_8, xN_9, xN_10, xN_11, xN_12, xN_13, xN_14, xN_15, xN_16, xN_17, xN_18, xN_19, xN_20, xN_21, xN_22, xN_23, xN_24, xN_25, xN_26, xN_27, xN_28, xN_29, xN_30, xN_31, xN_32, xN_33, xN_34, xN_35, xN_36, xN_37, xN_38, xN_39, xN_40, xN_41, xN_42, xN_43, xN_44, xN_45, xN_46, xN_47, xN_48, xN_49, xN_50, xN_51, xN_52, xN_53, xN_54, xN_55, ti_0, ti_1, ti_2, ti_3, ti_4, ti_5, ti_6, ti_7, ti_8, ti_9, ti_10, ti_16, ti_19, ti_20, ti_29, ti_30, ti_31, ti_32, ti_35, ti_36, ti_38, ti_39, ti_40, ti_41, ti_42, ti_43, ti_44, ti_45, ti_46, ti_47, ti_48, ti_49, ti_50, ti_51, ti_52, ti_53, ti_54, ti_55, ti_56, ti_57, ti_58, ti_59, ti_60, ti_61, ti_62, ti_63, ti_64, ti_65, ti_74, ti_77, ti_126, ti_200, ti_201, ti_202, ti_203, ti_204, ti_205, ti_210, ti_255, ti_256, ti_400, ti_512, ti_600, ti_601, ti_602, ti_1000, ti_1023, ti_1024, ti_2000, ti_10000, ti_12602, ti_999999, ti_m999999, ti_m1, ti_2000000, ti_3000000, xN_1, xN_4, xN_5, xN_60, xN_61, xN_64, xN_200, xN_800, xN_12000, xN_12602, eq_self, and_self, and_true, true_and, if_true, if_false, decide_true, Nat.reduceLeDiff, xc2_int, xc2_ref, xc2_ra, xc2_null, xc2_long, xc2_none, xisaT_ref, xisaT_ra, xisaT_null, xc1T_int, xc1T_ref, xc1T_ra, xc1T_null, xsum_nil, xsum_int, xsum_ref, xsum_ra, xsum_long, xsum_double, xsum_null, xfl_nil, xfl_int, xfl_ref, xfl_ra, xfl_null, xfl_long, xfl_double, List.length_cons, List.length_nil, s0, hif, hit, h1, tf, tt, hne, k2, hmv, j4, k5, e5, not_true_eq_false, not_false_eq_true, xfk, xfv, xak, xan, xcls, xsv', List.getElem?_cons_zero, List.getElem?_cons_succ, List.getD_cons_zero, List.getD_cons_succ, Option.getD_some, Option.isSome_some, if_true, if_pos, xcont, Option.toList_none, Option.toList_some, List.nil_append, List.cons_append]
end
