/-! Pad: contents -/
section
variable {X : xX} {S : xLm} {g : xGm} {d : Nat} {w : xH} {Q : xO → xH → Prop}
/-- the frames' parts are no more than the characters -/
def QB (a : Int) (st : List Fr) : Prop := ∀ f ∈ st, f.2.1 ≤ a + 1
def IT (md : Int) (tk : List Int) : Prop := md = 3 → ∃ tk0 u, tk = tk0 ++ [u * 8 + 2] ∧ okS u
theorem sml_in {ch : Int → Int} : ∀ (L : List Int) (a : Int), sml ch a L = L.length → ∀ i : Nat, i < L.length → ch (a + i) = L.getD i 0
  | [], a, _, i, hi => by simp at hi
  | c :: L, a, h, i, hi => by
    have hr := sml_rng ch L (a + 1)
    rw [sml] at h
    split at h
    · next hc =>
      simp only [List.length_cons] at h hi
      cases i with
      | zero => rw [show a + ((0 : Nat) : Int) = a by omega, hc]; rfl
      | succ i =>
        have := sml_in (ch := ch) L (a + 1) (by omega) i (by omega)
        rw [show a + ((i + 1 : Nat) : Int) = a + 1 + i by omega, this]
        rfl
    · simp only [List.length_cons] at h; omega
theorem nmF_in {ch : Int → Int} : ∀ (m : Nat) (v a : Int), (nmF ch m v a).2 = a ∨ (48 ≤ ch ((nmF ch m v a).2 - 1) ∧ ch ((nmF ch m v a).2 - 1) ≤ 57)
  | 0, v, a => .inl rfl
  | m + 1, v, a => by
    rw [nmF]
    split
    · next h =>
      rcases nmF_in (ch := ch) m (10 * v + (ch a - 48)) (a + 1) with e | e
      · right; rw [e, show a + 1 - 1 = a by omega]; exact h
      · exact .inr e
    · exact .inl rfl
theorem nuF_at {ch : Int → Int} {a : Int} (h : 48 ≤ ch a ∧ ch a ≤ 57) : a + 1 ≤ (nuF ch a).2 ∧ 48 ≤ ch ((nuF ch a).2 - 1) := by
  unfold nuF
  have key : ∀ m : Nat, a + 1 ≤ (nmF ch (m + 1) 0 a).2 ∧ 48 ≤ ch ((nmF ch (m + 1) 0 a).2 - 1) := fun m => by
    have h1 := nmF_at (ch := ch) m (10 * 0 + (ch a - 48)) (a + 1)
    rcases nmF_in (ch := ch) (m + 1) 0 a with e | e
    · rw [nmF, if_pos h] at e; omega
    · rw [nmF, if_pos h] at e ⊢; exact ⟨h1.1, e.1⟩
  split
  · exact key 0
  · exact key 5
def StepOK (g : xGm) (p : Nat) (a : Int) (st : List Fr) (tk : List Int) (a' md' : Int) (st' : List Fr) (tk' : List Int) : Prop :=
  a + 1 ≤ a' ∧ a' ≤ g p 1 ∧ tk'.length ≤ tk.length + 1 ∧ st'.length ≤ st.length + 1 ∧ SkB st' ∧ QB a' st' ∧ (0 ≤ md' ∧ md' ≤ 4) ∧ IT md' tk'
theorem QB_mono {a a' : Int} {st : List Fr} (h : QB a st) (ha : a ≤ a') : QB a' st := fun f hf => by have := h f hf; omega
theorem QB_cons {a o q c : Int} {st : List Fr} (h : QB a st) (hq : q ≤ a + 1) : QB a ((o, q, c) :: st) := fun f hf => by
  rcases List.mem_cons.mp hf with e | e
  · rw [e]; exact hq
  · exact h f e
theorem SkB_push {o : Int} {st : List Fr} (h : SkB st) (ho : 0 ≤ o ∧ o ≤ 6) : SkB ((o, 1, 0) :: st) := by
  cases st with
  | nil => exact h.elim
  | cons f st => exact ⟨ho, by decide, .inl rfl, h⟩
theorem SkB_pop {f : Fr} {st : List Fr} (h : SkB (f :: st)) (hn : ¬ st = []) : SkB st := by
  cases st with
  | nil => exact absurd rfl hn
  | cons f' st => obtain ⟨o, q, c⟩ := f; exact h.2.2.2
theorem opF_ok {p : Nat} {a md a' md' : Int} {st st' : List Fr} {tk tk' : List Int} (hC : PcI g p) (ha : 0 ≤ a) (hB : SkB st) (hQ : QB a st) (h : opF (pch g p) md st tk a = .inr (a', md', st', tk')) : StepOK g p a st tk a' md' st' tk' := by
  have key : ∀ i, 1 ≤ pch g p i → i < g p 1 := fun i hi => by
    unfold pch at hi; split at hi <;> omega
  unfold opF at h
  split at h
  · next h1 =>
    obtain ⟨rfl, rfl, rfl, rfl⟩ : a' = a + 1 ∧ md' = 0 ∧ st' = st ∧ tk' = tk ++ [365] := by
      injection h with h; injection h with h1 h; injection h with h2 h; injection h with h3 h4
      exact ⟨h1.symm, h2.symm, h3.symm, h4.symm⟩
    have := key a (by omega)
    exact ⟨by omega, by omega, by simp, by omega, hB, QB_mono hQ (by omega), by decide, fun e => absurd e (by decide)⟩
  split at h
  · next h1 =>
    obtain ⟨rfl, rfl, rfl, rfl⟩ : a' = a + 1 ∧ md' = 0 ∧ st' = (6, 1, 0) :: st ∧ tk' = tk ++ [325] := by
      injection h with h; injection h with h1 h; injection h with h2 h; injection h with h3 h4
      exact ⟨h1.symm, h2.symm, h3.symm, h4.symm⟩
    have := key a (by omega)
    exact ⟨by omega, by omega, by simp, by simp, SkB_push hB (by decide), QB_cons (QB_mono hQ (by omega)) (by omega), by decide, fun e => absurd e (by decide)⟩
  split at h
  · next h1 =>
    obtain ⟨rfl, rfl, rfl, rfl⟩ : a' = (nuF (pch g p) a).2 ∧ md' = 2 ∧ st' = st ∧ tk' = tk ++ [(nuF (pch g p) a).1 * 8 + 1] := by
      injection h with h; injection h with h1 h; injection h with h2 h; injection h with h3 h4
      exact ⟨h1.symm, h2.symm, h3.symm, h4.symm⟩
    have hn := nuF_at h1
    have := key _ (show 1 ≤ pch g p ((nuF (pch g p) a).2 - 1) by omega)
    exact ⟨by omega, by omega, by simp, by omega, hB, QB_mono hQ (by omega), by decide, fun e => absurd e (by decide)⟩
  · unfold woF at h
    dsimp only at h
    have hwr := wdF_rng (ch := pch g p) (a := a) 6 0 0 (by decide) (by decide) (by decide)
    split at h
    · next h1 =>
      obtain ⟨rfl, rfl, rfl, rfl⟩ : a' = a + (wdF (pch g p) a 6 0 0).2 ∧ md' = (if (wdF (pch g p) a 6 0 0).1 ≤ 3 then 1 else 0) ∧ st' = ((wdF (pch g p) a 6 0 0).1, 1, 0) :: st ∧ tk' = tk ++ [(wdF (pch g p) a 6 0 0).1 * 8 + 6] := by
        injection h with h; injection h with h1 h; injection h with h2 h; injection h with h3 h4
        exact ⟨h1.symm, h2.symm, h3.symm, h4.symm⟩
      have hlast : ∀ (m k : Nat) (l : Int), k + m = 6 → 0 ≤ (wdF (pch g p) a m k l).1 → 1 ≤ pch g p (a + (wdF (pch g p) a m k l).2 - 1) := by
        intro m
        induction m with
        | zero => intro k l hk h; rw [wdF] at h; dsimp only at h; omega
        | succ m ih =>
          intro k l hk h
          rw [wdF] at h ⊢
          split at h
          · next hs =>
            rw [if_pos hs]
            obtain ⟨f1, f2, f3, f4, f5, f6⟩ := wd_facts ⟨k, by omega⟩
            dsimp only at f5 f6
            have hi := sml_in (wdL k) a hs ((wdL k).length - 1) (by omega)
            obtain ⟨w1, w2, w3⟩ := wd_chars ⟨k, by omega⟩ ⟨(wdL k).length - 1, by omega⟩ (by dsimp only; omega)
            dsimp only at w1 w2 w3 ⊢
            rw [show a + ((wdL k).length : Int) - 1 = a + (((wdL k).length - 1 : Nat) : Int) by omega, hi]
            exact w2
          · next hs =>
            rw [if_neg hs]
            exact ih (k + 1) _ (by omega) h
      have := key _ (hlast 6 0 0 (by decide) h1)
      exact ⟨by omega, by omega, by simp, by simp, SkB_push hB (by omega), QB_cons (QB_mono hQ (by omega)) (by omega), by split <;> decide, fun e => by split at e <;> omega⟩
    · split at h
      · cases h
      · split at h
        · cases h
        · next h3 =>
          obtain ⟨rfl, rfl, rfl, rfl⟩ : a' = (spF (pch g p) true a).2 ∧ md' = (if md = 1 then 3 else 2) ∧ st' = st ∧ tk' = tk ++ [(spF (pch g p) true a).1 * 8 + 2] := by
            injection h with h; injection h with h1 h; injection h with h2 h; injection h with h3 h4
            exact ⟨h1.symm, h2.symm, h3.symm, h4.symm⟩
          have hin := spF_in (g := g) (p := p) (fx := true) (a := a) (by omega) hC ha
          have hsr := spF_rng (ch := pch g p) (fx := true) (a := a)
          refine ⟨by omega, by omega, by simp, by omega, hB, QB_mono hQ (by omega), by split <;> decide, fun _ => ⟨tk, _, rfl, ?_⟩⟩
          rcases hsr.2.2 with e | e
          · omega
          · exact e
theorem foF_ok {p : Nat} {a md a' md' : Int} {st st' : List Fr} {tk tk' : List Int} (ha : 0 ≤ a) (ha2 : a ≤ 60) (hB : SkB st) (hQ : QB a st) (h : foF (pch g p) md st tk a = .inr (a', md', st', tk')) : StepOK g p a st tk a' md' st' tk' := by
  have key : ∀ i, 1 ≤ pch g p i → i < g p 1 := fun i hi => by
    unfold pch at hi; split at hi <;> omega
  cases st with
  | nil => exact hB.elim
  | cons f rest =>
    obtain ⟨o, q, cc⟩ := f
    have hq : q ≤ a + 1 := hQ (o, q, cc) (List.mem_cons_self ..)
    have hQr : QB a rest := fun f hf => hQ f (List.mem_cons_of_mem _ hf)
    obtain ⟨t1, t2, t3, t4⟩ := SkB_top hB
    unfold foF at h
    dsimp only at h
    split at h
    · next h1 =>
      split at h
      · cases h
      · next h2 =>
        obtain ⟨rfl, rfl, rfl, rfl⟩ : a' = a + 1 ∧ md' = 2 ∧ st' = rest ∧ tk' = tk ++ [333] := by
          injection h with h; injection h with h1 h; injection h with h2 h; injection h with h3 h4
          exact ⟨h1.symm, h2.symm, h3.symm, h4.symm⟩
        have := key a (by omega)
        exact ⟨by omega, by omega, by simp, by simp only [List.length_cons]; omega, SkB_pop hB (fun e => h2 (.inl e)), QB_mono hQr (by omega), by decide, fun e => absurd e (by decide)⟩
    · split at h
      · next h1 =>
        split at h
        · next h2 =>
          obtain ⟨rfl, rfl, rfl, rfl⟩ : a' = a + 1 ∧ md' = (if o ≤ 3 then 1 else 0) ∧ st' = (o, q + 1, 0) :: rest ∧ tk' = tk ++ [357] := by
            injection h with h; injection h with h1 h; injection h with h2 h; injection h with h3 h4
            exact ⟨h1.symm, h2.symm, h3.symm, h4.symm⟩
          have := key a (by omega)
          refine ⟨by omega, by omega, by simp, by simp, ?_, QB_cons (QB_mono hQr (by omega)) (by omega), by split <;> decide, fun e => by split at e <;> omega⟩
          cases rest with
          | nil => have := t4.mpr rfl; omega
          | cons f rest => exact ⟨hB.1, by omega, .inl rfl, hB.2.2.2⟩
        · cases h
      · split at h
        · next h1 =>
          obtain ⟨rfl, rfl, rfl, rfl⟩ : a' = a + 1 ∧ md' = 0 ∧ st' = (o, q, if pch g p a = 60 ∨ pch g p a = 62 ∨ pch g p a = 61 then 1 else cc) :: rest ∧ tk' = tk ++ [pch g p a * 8 + 5] := by
            injection h with h; injection h with h1 h; injection h with h2 h; injection h with h3 h4
            exact ⟨h1.symm, h2.symm, h3.symm, h4.symm⟩
          have := key a (by omega)
          refine ⟨by omega, by omega, by simp, by simp, ?_, QB_cons (QB_mono hQr (by omega)) (by omega), by decide, fun e => absurd e (by decide)⟩
          cases rest with
          | nil => exact ⟨hB.1, hB.2.1, by split; exact .inr rfl; exact hB.2.2⟩
          | cons f rest => exact ⟨hB.1, hB.2.1, by split; exact .inr rfl; exact hB.2.2.1, hB.2.2.2⟩
        · cases h
theorem scF_ok {p : Nat} {a a' md' : Int} {st st' : List Fr} {tk tk' : List Int} (hC : PcI g p) (ha : 0 ≤ a) (hB : SkB st) (hQ : QB a st) (hT : IT 3 tk) (h : scF (pch g p) st tk a = .inr (a', md', st', tk')) : StepOK g p a st tk a' md' st' tk' := by
  unfold scF at h
  split at h
  · cases h
  · next h3 =>
    obtain ⟨rfl, rfl, rfl, rfl⟩ : a' = (spF (pch g p) true (a + 1)).2 ∧ md' = 4 ∧ st' = st ∧ tk' = rgL tk (spF (pch g p) true (a + 1)).1 := by
      injection h with h; injection h with h1 h; injection h with h2 h; injection h with h3 h4
      exact ⟨h1.symm, h2.symm, h3.symm, h4.symm⟩
    have hin := spF_in (g := g) (p := p) (fx := true) (a := a + 1) (by omega) hC (by omega)
    obtain ⟨tk0, u, e, -⟩ := hT rfl
    refine ⟨by omega, by omega, ?_, by omega, hB, QB_mono hQ (by omega), by decide, fun e => absurd e (by decide)⟩
    rw [e, rgL_app]; simp
/-- a formula behind its sign; the step that is left -/
def cnT (ch : Int → Int) (en : Int) : Nat → Int → List Fr → List Int → Int → Int ⊕ (Int × List Int)
  | 0, _, _, _, a => .inl a
  | m + 1, md, st, tk, a =>
    if md ≤ 1 then (match opF ch md st tk a with | .inl a' => .inl a' | .inr (a', md', st', tk') => cnT ch en m md' st' tk' a')
    else if st.length = 1 ∧ ch a = en then .inr (a, tk)
    else (match (if md = 3 ∧ ch a = 58 then scF ch st tk a else foF ch md st tk a) with | .inl a' => .inl a' | .inr (a', md', st', tk') => cnT ch en m md' st' tk' a')
def CnP (S : xLm) (g : xGm) (p : Nat) (call : (xO → xH → Prop) → Prop) (r : Int ⊕ (Int × List Int)) : Prop := match r with
  | .inl a' => ∃ g', FrP g g' p ∧ ∀ Q, call Q = Q (.inl (some (.int (iI 0)))) (hp S (gAt g' p a'))
  | .inr (a', tk') => ∃ g' md' st', FrP g g' p ∧ PaR g' p md' st' tk' ∧ ∀ Q, call Q = Q (.inl (some (.int (iI 1)))) (hp S (gAt g' p a'))
theorem CnP_congr {g1 : xGm} {p : Nat} {call call' : (xO → xH → Prop) → Prop} {r : Int ⊕ (Int × List Int)} (hF : FrP g g1 p) (hc : call = call') (h : CnP S g1 p call' r) : CnP S g p call r := by
  subst hc
  cases r with
  | inl a => obtain ⟨g', h1, h2⟩ := h; exact ⟨g', FrP_trans hF h1, h2⟩
  | inr z => obtain ⟨g', md', st', h1, h2, h3⟩ := h; exact ⟨g', md', st', FrP_trans hF h1, h2, h3⟩
theorem l_content {p : Nat} {en : Int} (hS : PdS S p) (he : 0 ≤ en ∧ en ≤ 127) : ∀ (m : Nat) (i a md : Int) (st : List Fr) (tk : List Int) (g : xGm) (y3 : Option Value), PcI g p → i + m = 61 → 0 ≤ i → 0 ≤ a → a ≤ g p 1 → PaR g p md st tk → (0 ≤ md ∧ md ≤ 4) → tk.length ≤ a → (st.length : Int) ≤ a → SkB st → QB a st → IT md tk →
    CnP S g p (fun Q => Wx X (d + 8) 124 36 [some (.ref p), some (.int (iI en)), some (.int (iI i)), y3] [] (hp S (gAt g p a)) Q) (cnT (pch g p) en m md st tk a) := by
  obtain ⟨p0, p1, -⟩ := id hS
  intro m
  induction m with
  | zero =>
    intro i a md st tk g y3 hC hi h ha ha2 hP hmd hk hst hB hQ hT
    obtain rfl : i = 61 := by omega
    have t61 : ti 61 = 61 := by decide
    refine ⟨g, FrP_refl g p, fun Q => ?_⟩
    dsimp only
    rw [w_iload_n2 (pc' := 37) q124 d124_36 rfl]
    simp (config := { decide := true }) only [w_bipush (z' := (60)) (pc' := 39) q124 d124_37 rfl (by decide), w_icmp_gt (tg := 124) (pc' := 42) q124 d124_39 (by decide) rfl, w_iconst (pc' := 125) q124 d124_124 rfl, w_zreturn q124 d124_125 m124.2.1, gs_off, gs_off0, gs_0off, gs_2, xN_0, xN_2, xN_3, xN_6, xN_7, xN_8, xN_9, xN_10, xN_11, xN_12, xN_13, xN_14, xN_15, xN_16, xN_17, xN_18, xN_19, xN_20, xN_21, xN_22, xN_23, xN_24, xN_25, xN_26, xN_27, xN_28, xN_29, xN_30, xN_31, xN_32, xN_33, xN_34, xN_35, xN_36, xN_37, xN_38, xN_39, xN_40, xN_41, xN_42, xN_43, xN_44, xN_45, xN_46, xN_47, xN_48, xN_49, xN_50, xN_51, xN_52, xN_53, xN_54, xN_55, ti_0, ti_1, ti_2, ti_3, ti_4, ti_5, ti_6, ti_7, ti_8, ti_9, ti_10, ti_16, ti_19, ti_20, ti_29, ti_30, ti_31, ti_32, ti_35, ti_36, ti_38, ti_39, ti_40, ti_41, ti_42, ti_43, ti_44, ti_45, ti_46, ti_47, ti_48, ti_49, ti_50, ti_51, ti_52, ti_53, ti_54, ti_55, ti_56, ti_57, ti_58, ti_59, ti_60, ti_61, ti_62, ti_63, ti_64, ti_65, ti_74, ti_77, ti_126, ti_200, ti_201, ti_202, ti_203, ti_204, ti_205, ti_210, ti_255, ti_256, ti_400, ti_512, ti_600, ti_601, ti_602, ti_1000, ti_1023, ti_1024, ti_2000, ti_10000, ti_12602, ti_999999, ti_m999999, ti_m1, ti_2000000, ti_3000000, xN_1, xN_4, xN_5, xN_60, xN_61, xN_64, xN_200, xN_800, xN_12000, xN_12602, eq_self, and_self, and_true, true_and, if_true, if_false, decide_true, Nat.reduceLeDiff, xc2_int, xc2_ref, xc2_ra, xc2_null, xc2_long, xc2_none, xisaT_ref, xisaT_ra, xisaT_null, xc1T_int, xc1T_ref, xc1T_ra, xc1T_null, xsum_nil, xsum_int, xsum_ref, xsum_ra, xsum_long, xsum_double, xsum_null, xfl_nil, xfl_int, xfl_ref, xfl_ra, xfl_null, xfl_long, xfl_double, List.length_cons, List.length_nil, t61, xzb_0, xfk, xfv, xak, xan, xcls, xsv', List.getElem?_cons_zero, List.getElem?_cons_succ, List.getD_cons_zero, List.getD_cons_succ, Option.getD_some, Option.isSome_some, if_true, if_pos, xcont, Option.toList_none, Option.toList_some, List.nil_append, List.cons_append]
  | succ m ih =>
    intro i a md st tk g y3 hC hi h ha ha2 hP hmd hk hst hB hQ hT
    have hn60 := hC.2.1
    have ti' : ti i = i := ti_eq (by omega) (by omega)
    have hlt : ¬ 60 < i := by omega
    have hst1 : 1 ≤ st.length := by cases st with | nil => exact hB.elim | cons f st => simp
    have hok : SkOK st := by
      clear hP hk hst hQ hT ih hst1
      induction st with
      | nil => exact hB.elim
      | cons f st ihs =>
        obtain ⟨o, q, c⟩ := f
        obtain ⟨t1, t2, t3, t4⟩ := SkB_top hB
        intro f hf
        rcases List.mem_cons.mp hf with e | e
        · rw [e]; exact ⟨t1, t2, t3⟩
        · by_cases hn : st = []
          · rw [hn] at e; cases e
          · exact ihs (SkB_pop hB hn) f e
    have e8 : gAt g p a p 8 = md := by rw [gAt_o (by decide)]; exact hP.1
    have tmd : ti md = md := ti_eq (by omega) (by omega)
    have hgo : ∀ (g' : xGm) (a' md' : Int) (st' : List Fr) (tk' : List Int), FrP g g' p → PaR g' p md' st' tk' → StepOK g p a st tk a' md' st' tk' → (∀ Q, Wx X (d + 8) 124 36 [some (.ref p), some (.int (iI en)), some (.int (iI i)), y3] [] (hp S (gAt g p a)) Q = Wx X (d + 8) 124 36 [some (.ref p), some (.int (iI en)), some (.int (iI (i + 1))), some (.int (iI 1))] [] (hp S (gAt g' p a')) Q) → CnP S g p (fun Q => Wx X (d + 8) 124 36 [some (.ref p), some (.int (iI en)), some (.int (iI i)), y3] [] (hp S (gAt g p a)) Q) (cnT (pch g p) en m md' st' tk' a') := fun g' a' md' st' tk' hF hP' hok' hrun => by
      obtain ⟨s1, s2, s3, s4, s5, s6, s7, s8⟩ := hok'
      have hih := ih (i + 1) a' md' st' tk' g' (some (.int (iI 1))) (FrP_PcI hF hC) (by omega) (by omega) (by omega) (by rw [hF.2.1 1 (by decide) (by decide) (by decide) (by decide) (by decide)]; exact s2) hP' s7 (by omega) (by omega) s5 s6 s8
      rw [FrP_pch hF] at hih
      exact CnP_congr hF (funext hrun) hih
    rw [cnT]
    by_cases hm1 : md ≤ 1
    · rw [if_pos hm1]
      have hm01 : md = 0 ∨ md = 1 := by omega
      have hop := c_readOperand (X := X) (d := d) hS hC ha (by omega) hP hm01 hk (by omega) hst1 hok
      have hopk := fun a' md' st' tk' => opF_ok (a' := a') (md' := md') (st' := st') (tk' := tk') (md := md) (tk := tk) hC ha hB hQ
      generalize opF (pch g p) md st tk a = r at hop hopk
      cases r with
      | inl a' =>
        obtain ⟨g', w1, w2⟩ := hop
        refine ⟨g', w1, fun Q => ?_⟩
        dsimp only at w2 ⊢
        rw [w_iload_n2 (pc' := 37) q124 d124_36 rfl]
        rcases hm01 with e | e
        · rw [e] at e8
          simp (config := { decide := true }) only [w_bipush (z' := (60)) (pc' := 39) q124 d124_37 rfl (by decide), w_icmp_gt (tg := 124) (pc' := 42) q124 d124_39 (by decide) rfl, w_aload_n0 (pc' := 43) q124 d124_42 rfl, w_getI (pc' := 46) q124 d124_43 rfl f124_67, w_if_eq (tg := 57) (pc' := 49) q124 d124_46 (by decide) rfl, w_aload_n0 (pc' := 50) q124 d124_49 rfl, w_getI (pc' := 53) q124 d124_50 rfl f124_67, w_iconst (pc' := 54) q124 d124_53 rfl, w_icmp_ne (tg := 65) (pc' := 57) q124 d124_54 (by decide) rfl, w_aload_n0 (pc' := 58) q124 d124_57 rfl, w_invv0 (ci := 8) (pc' := 61) q124 d124_58 rfl n124_70 k124_70_8 m130.1, w_istore_n3 (pc' := 62) q124 d124_61 rfl, w_goto (tg := 112) q124 d124_62 (by decide), w_iload_n3 (pc' := 113) q124 d124_112 rfl, w_if_ne (tg := 118) (pc' := 116) q124 d124_113 (by decide) rfl, w_iconst (pc' := 117) q124 d124_116 rfl, w_zreturn q124 d124_117 m124.2.1, gs_off, gs_off0, gs_0off, gs_2, xN_0, xN_2, xN_3, xN_6, xN_7, xN_8, xN_9, xN_10, xN_11, xN_12, xN_13, xN_14, xN_15, xN_16, xN_17, xN_18, xN_19, xN_20, xN_21, xN_22, xN_23, xN_24, xN_25, xN_26, xN_27, xN_28, xN_29, xN_30, xN_31, xN_32, xN_33, xN_34, xN_35, xN_36, xN_37, xN_38, xN_39, xN_40, xN_41, xN_42, xN_43, xN_44, xN_45, xN_46, xN_47, xN_48, xN_49, xN_50, xN_51, xN_52, xN_53, xN_54, xN_55, ti_0, ti_1, ti_2, ti_3, ti_4, ti_5, ti_6, ti_7, ti_8, ti_9, ti_10, ti_16, ti_19, ti_20, ti_29, ti_30, ti_31, ti_32, ti_35, ti_36, ti_38, ti_39, ti_40, ti_41, ti_42, ti_43, ti_44, ti_45, ti_46, ti_47, ti_48, ti_49, ti_50, ti_51, ti_52, ti_53, ti_54, ti_55, ti_56, ti_57, ti_58, ti_59, ti_60, ti_61, ti_62, ti_63, ti_64, ti_65, ti_74, ti_77, ti_126, ti_200, ti_201, ti_202, ti_203, ti_204, ti_205, ti_210, ti_255, ti_256, ti_400, ti_512, ti_600, ti_601, ti_602, ti_1000, ti_1023, ti_1024, ti_2000, ti_10000, ti_12602, ti_999999, ti_m999999, ti_m1, ti_2000000, ti_3000000, xN_1, xN_4, xN_5, xN_60, xN_61, xN_64, xN_200, xN_800, xN_12000, xN_12602, eq_self, and_self, and_true, true_and, if_true, if_false, decide_true, Nat.reduceLeDiff, xc2_int, xc2_ref, xc2_ra, xc2_null, xc2_long, xc2_none, xisaT_ref, xisaT_ra, xisaT_null, xc1T_int, xc1T_ref, xc1T_ra, xc1T_null, xsum_nil, xsum_int, xsum_ref, xsum_ra, xsum_long, xsum_double, xsum_null, xfl_nil, xfl_int, xfl_ref, xfl_ra, xfl_null, xfl_long, xfl_double, List.length_cons, List.length_nil, p0, ti', hlt, e8, w2, xzb_0, not_true_eq_false, xfk, xfv, xak, xan, xcls, xsv', List.getElem?_cons_zero, List.getElem?_cons_succ, List.getD_cons_zero, List.getD_cons_succ, Option.getD_some, Option.isSome_some, if_true, if_pos, xcont, Option.toList_none, Option.toList_some, List.nil_append, List.cons_append]
        · rw [e] at e8
          simp (config := { decide := true }) only [w_bipush (z' := (60)) (pc' := 39) q124 d124_37 rfl (by decide), w_icmp_gt (tg := 124) (pc' := 42) q124 d124_39 (by decide) rfl, w_aload_n0 (pc' := 43) q124 d124_42 rfl, w_getI (pc' := 46) q124 d124_43 rfl f124_67, w_if_eq (tg := 57) (pc' := 49) q124 d124_46 (by decide) rfl, w_aload_n0 (pc' := 50) q124 d124_49 rfl, w_getI (pc' := 53) q124 d124_50 rfl f124_67, w_iconst (pc' := 54) q124 d124_53 rfl, w_icmp_ne (tg := 65) (pc' := 57) q124 d124_54 (by decide) rfl, w_aload_n0 (pc' := 58) q124 d124_57 rfl, w_invv0 (ci := 8) (pc' := 61) q124 d124_58 rfl n124_70 k124_70_8 m130.1, w_istore_n3 (pc' := 62) q124 d124_61 rfl, w_goto (tg := 112) q124 d124_62 (by decide), w_iload_n3 (pc' := 113) q124 d124_112 rfl, w_if_ne (tg := 118) (pc' := 116) q124 d124_113 (by decide) rfl, w_iconst (pc' := 117) q124 d124_116 rfl, w_zreturn q124 d124_117 m124.2.1, gs_off, gs_off0, gs_0off, gs_2, xN_0, xN_2, xN_3, xN_6, xN_7, xN_8, xN_9, xN_10, xN_11, xN_12, xN_13, xN_14, xN_15, xN_16, xN_17, xN_18, xN_19, xN_20, xN_21, xN_22, xN_23, xN_24, xN_25, xN_26, xN_27, xN_28, xN_29, xN_30, xN_31, xN_32, xN_33, xN_34, xN_35, xN_36, xN_37, xN_38, xN_39, xN_40, xN_41, xN_42, xN_43, xN_44, xN_45, xN_46, xN_47, xN_48, xN_49, xN_50, xN_51, xN_52, xN_53, xN_54, xN_55, ti_0, ti_1, ti_2, ti_3, ti_4, ti_5, ti_6, ti_7, ti_8, ti_9, ti_10, ti_16, ti_19, ti_20, ti_29, ti_30, ti_31, ti_32, ti_35, ti_36, ti_38, ti_39, ti_40, ti_41, ti_42, ti_43, ti_44, ti_45, ti_46, ti_47, ti_48, ti_49, ti_50, ti_51, ti_52, ti_53, ti_54, ti_55, ti_56, ti_57, ti_58, ti_59, ti_60, ti_61, ti_62, ti_63, ti_64, ti_65, ti_74, ti_77, ti_126, ti_200, ti_201, ti_202, ti_203, ti_204, ti_205, ti_210, ti_255, ti_256, ti_400, ti_512, ti_600, ti_601, ti_602, ti_1000, ti_1023, ti_1024, ti_2000, ti_10000, ti_12602, ti_999999, ti_m999999, ti_m1, ti_2000000, ti_3000000, xN_1, xN_4, xN_5, xN_60, xN_61, xN_64, xN_200, xN_800, xN_12000, xN_12602, eq_self, and_self, and_true, true_and, if_true, if_false, decide_true, Nat.reduceLeDiff, xc2_int, xc2_ref, xc2_ra, xc2_null, xc2_long, xc2_none, xisaT_ref, xisaT_ra, xisaT_null, xc1T_int, xc1T_ref, xc1T_ra, xc1T_null, xsum_nil, xsum_int, xsum_ref, xsum_ra, xsum_long, xsum_double, xsum_null, xfl_nil, xfl_int, xfl_ref, xfl_ra, xfl_null, xfl_long, xfl_double, List.length_cons, List.length_nil, p0, ti', hlt, e8, w2, xzb_0, not_true_eq_false, xfk, xfv, xak, xan, xcls, xsv', List.getElem?_cons_zero, List.getElem?_cons_succ, List.getD_cons_zero, List.getD_cons_succ, Option.getD_some, Option.isSome_some, if_true, if_pos, xcont, Option.toList_none, Option.toList_some, List.nil_append, List.cons_append]
      | inr z =>
        obtain ⟨a', md', st', tk'⟩ := z
        obtain ⟨g', w1, w2, w3⟩ := hop
        refine hgo g' a' md' st' tk' w1 w2 (hopk a' md' st' tk' rfl) (fun Q => ?_)
        dsimp only at w3
        rw [w_iload_n2 (pc' := 37) q124 d124_36 rfl]
        rcases hm01 with e | e
        · rw [e] at e8
          simp (config := { decide := true }) only [w_bipush (z' := (60)) (pc' := 39) q124 d124_37 rfl (by decide), w_icmp_gt (tg := 124) (pc' := 42) q124 d124_39 (by decide) rfl, w_aload_n0 (pc' := 43) q124 d124_42 rfl, w_getI (pc' := 46) q124 d124_43 rfl f124_67, w_if_eq (tg := 57) (pc' := 49) q124 d124_46 (by decide) rfl, w_aload_n0 (pc' := 50) q124 d124_49 rfl, w_getI (pc' := 53) q124 d124_50 rfl f124_67, w_iconst (pc' := 54) q124 d124_53 rfl, w_icmp_ne (tg := 65) (pc' := 57) q124 d124_54 (by decide) rfl, w_aload_n0 (pc' := 58) q124 d124_57 rfl, w_invv0 (ci := 8) (pc' := 61) q124 d124_58 rfl n124_70 k124_70_8 m130.1, w_istore_n3 (pc' := 62) q124 d124_61 rfl, w_goto (tg := 112) q124 d124_62 (by decide), w_iload_n3 (pc' := 113) q124 d124_112 rfl, w_if_ne (tg := 118) (pc' := 116) q124 d124_113 (by decide) rfl, w_iconst (pc' := 117) q124 d124_116 rfl, w_zreturn q124 d124_117 m124.2.1, w_iinc2 (z := (1)) (pc' := 121) q124 d124_118 rfl, w_goto (tg := 36) q124 d124_121 (by decide), gs_off, gs_off0, gs_0off, gs_2, xN_0, xN_2, xN_3, xN_6, xN_7, xN_8, xN_9, xN_10, xN_11, xN_12, xN_13, xN_14, xN_15, xN_16, xN_17, xN_18, xN_19, xN_20, xN_21, xN_22, xN_23, xN_24, xN_25, xN_26, xN_27, xN_28, xN_29, xN_30, xN_31, xN_32, xN_33, xN_34, xN_35, xN_36, xN_37, xN_38, xN_39, xN_40, xN_41, xN_42, xN_43, xN_44, xN_45, xN_46, xN_47, xN_48, xN_49, xN_50, xN_51, xN_52, xN_53, xN_54, xN_55, ti_0, ti_1, ti_2, ti_3, ti_4, ti_5, ti_6, ti_7, ti_8, ti_9, ti_10, ti_16, ti_19, ti_20, ti_29, ti_30, ti_31, ti_32, ti_35, ti_36, ti_38, ti_39, ti_40, ti_41, ti_42, ti_43, ti_44, ti_45, ti_46, ti_47, ti_48, ti_49, ti_50, ti_51, ti_52, ti_53, ti_54, ti_55, ti_56, ti_57, ti_58, ti_59, ti_60, ti_61, ti_62, ti_63, ti_64, ti_65, ti_74, ti_77, ti_126, ti_200, ti_201, ti_202, ti_203, ti_204, ti_205, ti_210, ti_255, ti_256, ti_400, ti_512, ti_600, ti_601, ti_602, ti_1000, ti_1023, ti_1024, ti_2000, ti_10000, ti_12602, ti_999999, ti_m999999, ti_m1, ti_2000000, ti_3000000, xN_1, xN_4, xN_5, xN_60, xN_61, xN_64, xN_200, xN_800, xN_12000, xN_12602, eq_self, and_self, and_true, true_and, if_true, if_false, decide_true, Nat.reduceLeDiff, xc2_int, xc2_ref, xc2_ra, xc2_null, xc2_long, xc2_none, xisaT_ref, xisaT_ra, xisaT_null, xc1T_int, xc1T_ref, xc1T_ra, xc1T_null, xsum_nil, xsum_int, xsum_ref, xsum_ra, xsum_long, xsum_double, xsum_null, xfl_nil, xfl_int, xfl_ref, xfl_ra, xfl_null, xfl_long, xfl_double, List.length_cons, List.length_nil, p0, ti', hlt, e8, w3, not_true_eq_false, not_false_eq_true, xfk, xfv, xak, xan, xcls, xsv', List.getElem?_cons_zero, List.getElem?_cons_succ, List.getD_cons_zero, List.getD_cons_succ, Option.getD_some, Option.isSome_some, if_true, if_pos, xcont, Option.toList_none, Option.toList_some, List.nil_append, List.cons_append]
        · rw [e] at e8
          simp (config := { decide := true }) only [w_bipush (z' := (60)) (pc' := 39) q124 d124_37 rfl (by decide), w_icmp_gt (tg := 124) (pc' := 42) q124 d124_39 (by decide) rfl, w_aload_n0 (pc' := 43) q124 d124_42 rfl, w_getI (pc' := 46) q124 d124_43 rfl f124_67, w_if_eq (tg := 57) (pc' := 49) q124 d124_46 (by decide) rfl, w_aload_n0 (pc' := 50) q124 d124_49 rfl, w_getI (pc' := 53) q124 d124_50 rfl f124_67, w_iconst (pc' := 54) q124 d124_53 rfl, w_icmp_ne (tg := 65) (pc' := 57) q124 d124_54 (by decide) rfl, w_aload_n0 (pc' := 58) q124 d124_57 rfl, w_invv0 (ci := 8) (pc' := 61) q124 d124_58 rfl n124_70 k124_70_8 m130.1, w_istore_n3 (pc' := 62) q124 d124_61 rfl, w_goto (tg := 112) q124 d124_62 (by decide), w_iload_n3 (pc' := 113) q124 d124_112 rfl, w_if_ne (tg := 118) (pc' := 116) q124 d124_113 (by decide) rfl, w_iconst (pc' := 117) q124 d124_116 rfl, w_zreturn q124 d124_117 m124.2.1, w_iinc2 (z := (1)) (pc' := 121) q124 d124_118 rfl, w_goto (tg := 36) q124 d124_121 (by decide), gs_off, gs_off0, gs_0off, gs_2, xN_0, xN_2, xN_3, xN_6, xN_7, xN_8, xN_9, xN_10, xN_11, xN_12, xN_13, xN_14, xN_15, xN_16, xN_17, xN_18, xN_19, xN_20, xN_21, xN_22, xN_23, xN_24, xN_25, xN_26, xN_27, xN_28, xN_29, xN_30, xN_31, xN_32, xN_33, xN_34, xN_35, xN_36, xN_37, xN_38, xN_39, xN_40, xN_41, xN_42, xN_43, xN_44, xN_45, xN_46, xN_47, xN_48, xN_49, xN_50, xN_51, xN_52, xN_53, xN_54, xN_55, ti_0, ti_1, ti_2, ti_3, ti_4, ti_5, ti_6, ti_7, ti_8, ti_9, ti_10, ti_16, ti_19, ti_20, ti_29, ti_30, ti_31, ti_32, ti_35, ti_36, ti_38, ti_39, ti_40, ti_41, ti_42, ti_43, ti_44, ti_45, ti_46, ti_47, ti_48, ti_49, ti_50, ti_51, ti_52, ti_53, ti_54, ti_55, ti_56, ti_57, ti_58, ti_59, ti_60, ti_61, ti_62, ti_63, ti_64, ti_65, ti_74, ti_77, ti_126, ti_200, ti_201, ti_202, ti_203, ti_204, ti_205, ti_210, ti_255, ti_256, ti_400, ti_512, ti_600, ti_601, ti_602, ti_1000, ti_1023, ti_1024, ti_2000, ti_10000, ti_12602, ti_999999, ti_m999999, ti_m1, ti_2000000, ti_3000000, xN_1, xN_4, xN_5, xN_60, xN_61, xN_64, xN_200, xN_800, xN_12000, xN_12602, eq_self, and_self, and_true, true_and, if_true, if_false, decide_true, Nat.reduceLeDiff, xc2_int, xc2_ref, xc2_ra, xc2_null, xc2_long, xc2_none, xisaT_ref, xisaT_ra, xisaT_null, xc1T_int, xc1T_ref, xc1T_ra, xc1T_null, xsum_nil, xsum_int, xsum_ref, xsum_ra, xsum_long, xsum_double, xsum_null, xfl_nil, xfl_int, xfl_ref, xfl_ra, xfl_null, xfl_long, xfl_double, List.length_cons, List.length_nil, p0, ti', hlt, e8, w3, not_true_eq_false, not_false_eq_true, xfk, xfv, xak, xan, xcls, xsv', List.getElem?_cons_zero, List.getElem?_cons_succ, List.getD_cons_zero, List.getD_cons_succ, Option.getD_some, Option.isSome_some, if_true, if_pos, xcont, Option.toList_none, Option.toList_some, List.nil_append, List.cons_append]
    · rw [if_neg hm1]
      have m0 : ¬ md = 0 := by omega
      have m1 : ¬ md = 1 := by omega
      have hch := pch_rng hC a
      have cn := fun Q => c_next (X := X) (d := d + 7) (g := g) (a := a) (Q := Q) hS hC (by omega) (by omega)
      have tc : ti (pch g p a) = pch g p a := ti_eq (by omega) (by omega)
      have te : ti en = en := ti_eq (by omega) (by omega)
      have h12 : g p 12 = st.length - 1 := SkR_len _ _ hP.2.2.2
      have e12 : gAt g p a p 12 = (st.length : Int) - 1 := by rw [gAt_o (by decide)]; exact h12
      have t12 : ti ((st.length : Int) - 1) = (st.length : Int) - 1 := ti_eq (by omega) (by omega)
      have t58 : ti 58 = 58 := by decide
      by_cases hend : st.length = 1 ∧ pch g p a = en
      · rw [if_pos hend]
        refine ⟨g, md, st, FrP_refl g p, hP, fun Q => ?_⟩
        have z12 : (st.length : Int) - 1 = 0 := by omega
        rw [z12] at e12
        rw [hend.2] at cn
        dsimp only
        rw [w_iload_n2 (pc' := 37) q124 d124_36 rfl]
        simp (config := { decide := true }) only [w_bipush (z' := (60)) (pc' := 39) q124 d124_37 rfl (by decide), w_icmp_gt (tg := 124) (pc' := 42) q124 d124_39 (by decide) rfl, w_aload_n0 (pc' := 43) q124 d124_42 rfl, w_getI (pc' := 46) q124 d124_43 rfl f124_67, w_if_eq (tg := 57) (pc' := 49) q124 d124_46 (by decide) rfl, w_aload_n0 (pc' := 50) q124 d124_49 rfl, w_getI (pc' := 53) q124 d124_50 rfl f124_67, w_iconst (pc' := 54) q124 d124_53 rfl, w_icmp_ne (tg := 65) (pc' := 57) q124 d124_54 (by decide) rfl, w_aload_n0 (pc' := 58) q124 d124_57 rfl, w_invv0 (ci := 8) (pc' := 61) q124 d124_58 rfl n124_70 k124_70_8 m130.1, w_istore_n3 (pc' := 62) q124 d124_61 rfl, w_goto (tg := 112) q124 d124_62 (by decide), w_aload_n0 (pc' := 66) q124 d124_65 rfl, w_getI (pc' := 69) q124 d124_66 rfl f124_73, w_if_ne (tg := 82) (pc' := 72) q124 d124_69 (by decide) rfl, w_aload_n0 (pc' := 73) q124 d124_72 rfl, w_invv0 (ci := 8) (pc' := 76) q124 d124_73 rfl n124_54 k124_54_8 m126.1, w_iload_n1 (pc' := 77) q124 d124_76 rfl, w_icmp_ne (tg := 82) (pc' := 80) q124 d124_77 (by decide) rfl, w_iconst (pc' := 81) q124 d124_80 rfl, w_zreturn q124 d124_81 m124.2.1, gs_off, gs_off0, gs_0off, gs_2, xN_0, xN_2, xN_3, xN_6, xN_7, xN_8, xN_9, xN_10, xN_11, xN_12, xN_13, xN_14, xN_15, xN_16, xN_17, xN_18, xN_19, xN_20, xN_21, xN_22, xN_23, xN_24, xN_25, xN_26, xN_27, xN_28, xN_29, xN_30, xN_31, xN_32, xN_33, xN_34, xN_35, xN_36, xN_37, xN_38, xN_39, xN_40, xN_41, xN_42, xN_43, xN_44, xN_45, xN_46, xN_47, xN_48, xN_49, xN_50, xN_51, xN_52, xN_53, xN_54, xN_55, ti_0, ti_1, ti_2, ti_3, ti_4, ti_5, ti_6, ti_7, ti_8, ti_9, ti_10, ti_16, ti_19, ti_20, ti_29, ti_30, ti_31, ti_32, ti_35, ti_36, ti_38, ti_39, ti_40, ti_41, ti_42, ti_43, ti_44, ti_45, ti_46, ti_47, ti_48, ti_49, ti_50, ti_51, ti_52, ti_53, ti_54, ti_55, ti_56, ti_57, ti_58, ti_59, ti_60, ti_61, ti_62, ti_63, ti_64, ti_65, ti_74, ti_77, ti_126, ti_200, ti_201, ti_202, ti_203, ti_204, ti_205, ti_210, ti_255, ti_256, ti_400, ti_512, ti_600, ti_601, ti_602, ti_1000, ti_1023, ti_1024, ti_2000, ti_10000, ti_12602, ti_999999, ti_m999999, ti_m1, ti_2000000, ti_3000000, xN_1, xN_4, xN_5, xN_60, xN_61, xN_64, xN_200, xN_800, xN_12000, xN_12602, eq_self, and_self, and_true, true_and, if_true, if_false, decide_true, Nat.reduceLeDiff, xc2_int, xc2_ref, xc2_ra, xc2_null, xc2_long, xc2_none, xisaT_ref, xisaT_ra, xisaT_null, xc1T_int, xc1T_ref, xc1T_ra, xc1T_null, xsum_nil, xsum_int, xsum_ref, xsum_ra, xsum_long, xsum_double, xsum_null, xfl_nil, xfl_int, xfl_ref, xfl_ra, xfl_null, xfl_long, xfl_double, List.length_cons, List.length_nil, p0, ti', hlt, e8, tmd, m0, m1, e12, cn, te, not_true_eq_false, not_false_eq_true, xzb_1, xfk, xfv, xak, xan, xcls, xsv', List.getElem?_cons_zero, List.getElem?_cons_succ, List.getD_cons_zero, List.getD_cons_succ, Option.getD_some, Option.isSome_some, if_true, if_pos, xcont, Option.toList_none, Option.toList_some, List.nil_append, List.cons_append]
      · rw [if_neg hend]
        have pre : ∀ Q, Wx X (d + 8) 124 36 [some (.ref p), some (.int (iI en)), some (.int (iI i)), y3] [] (hp S (gAt g p a)) Q = Wx X (d + 8) 124 82 [some (.ref p), some (.int (iI en)), some (.int (iI i)), y3] [] (hp S (gAt g p a)) Q := fun Q => by
          rw [w_iload_n2 (pc' := 37) q124 d124_36 rfl]
          by_cases hl : st.length = 1
          · have hne : ¬ pch g p a = en := fun e => hend ⟨hl, e⟩
            have z12 : (st.length : Int) - 1 = 0 := by omega
            rw [z12] at e12
            simp (config := { decide := true }) only [w_bipush (z' := (60)) (pc' := 39) q124 d124_37 rfl (by decide), w_icmp_gt (tg := 124) (pc' := 42) q124 d124_39 (by decide) rfl, w_aload_n0 (pc' := 43) q124 d124_42 rfl, w_getI (pc' := 46) q124 d124_43 rfl f124_67, w_if_eq (tg := 57) (pc' := 49) q124 d124_46 (by decide) rfl, w_aload_n0 (pc' := 50) q124 d124_49 rfl, w_getI (pc' := 53) q124 d124_50 rfl f124_67, w_iconst (pc' := 54) q124 d124_53 rfl, w_icmp_ne (tg := 65) (pc' := 57) q124 d124_54 (by decide) rfl, w_aload_n0 (pc' := 58) q124 d124_57 rfl, w_invv0 (ci := 8) (pc' := 61) q124 d124_58 rfl n124_70 k124_70_8 m130.1, w_istore_n3 (pc' := 62) q124 d124_61 rfl, w_goto (tg := 112) q124 d124_62 (by decide), w_aload_n0 (pc' := 66) q124 d124_65 rfl, w_getI (pc' := 69) q124 d124_66 rfl f124_73, w_if_ne (tg := 82) (pc' := 72) q124 d124_69 (by decide) rfl, w_aload_n0 (pc' := 73) q124 d124_72 rfl, w_invv0 (ci := 8) (pc' := 76) q124 d124_73 rfl n124_54 k124_54_8 m126.1, w_iload_n1 (pc' := 77) q124 d124_76 rfl, w_icmp_ne (tg := 82) (pc' := 80) q124 d124_77 (by decide) rfl, gs_off, gs_off0, gs_0off, gs_2, xN_0, xN_2, xN_3, xN_6, xN_7, xN_8, xN_9, xN_10, xN_11, xN_12, xN_13, xN_14, xN_15, xN_16, xN_17, xN_18, xN_19, xN_20, xN_21, xN_22, xN_23, xN_24, xN_25, xN_26, xN_27, xN_28, xN_29, xN_30, xN_31, xN_32, xN_33, xN_34, xN_35, xN_36, xN_37, xN_38, xN_39, xN_40, xN_41, xN_42, xN_43, xN_44, xN_45, xN_46, xN_47, xN_48, xN_49, xN_50, xN_51, xN_52, xN_53, xN_54, xN_55, ti_0, ti_1, ti_2, ti_3, ti_4, ti_5, ti_6, ti_7, ti_8, ti_9, ti_10, ti_16, ti_19, ti_20, ti_29, ti_30, ti_31, ti_32, ti_35, ti_36, ti_38, ti_39, ti_40, ti_41, ti_42, ti_43, ti_44, ti_45, ti_46, ti_47, ti_48, ti_49, ti_50, ti_51, ti_52, ti_53, ti_54, ti_55, ti_56, ti_57, ti_58, ti_59, ti_60, ti_61, ti_62, ti_63, ti_64, ti_65, ti_74, ti_77, ti_126, ti_200, ti_201, ti_202, ti_203, ti_204, ti_205, ti_210, ti_255, ti_256, ti_400, ti_512, ti_600, ti_601, ti_602, ti_1000, ti_1023, ti_1024, ti_2000, ti_10000, ti_12602, ti_999999, ti_m999999, ti_m1, ti_2000000, ti_3000000, xN_1, xN_4, xN_5, xN_60, xN_61, xN_64, xN_200, xN_800, xN_12000, xN_12602, eq_self, and_self, and_true, true_and, if_true, if_false, decide_true, Nat.reduceLeDiff, xc2_int, xc2_ref, xc2_ra, xc2_null, xc2_long, xc2_none, xisaT_ref, xisaT_ra, xisaT_null, xc1T_int, xc1T_ref, xc1T_ra, xc1T_null, xsum_nil, xsum_int, xsum_ref, xsum_ra, xsum_long, xsum_double, xsum_null, xfl_nil, xfl_int, xfl_ref, xfl_ra, xfl_null, xfl_long, xfl_double, List.length_cons, List.length_nil, p0, ti', hlt, e8, tmd, m0, m1, e12, cn, tc, te, hne, not_true_eq_false, not_false_eq_true, xfk, xfv, xak, xan, xcls, xsv', List.getElem?_cons_zero, List.getElem?_cons_succ, List.getD_cons_zero, List.getD_cons_succ, Option.getD_some, Option.isSome_some, if_true, if_pos, xcont, Option.toList_none, Option.toList_some, List.nil_append, List.cons_append]
          · have z12 : ¬ (st.length : Int) - 1 = 0 := by omega
            simp (config := { decide := true }) only [w_bipush (z' := (60)) (pc' := 39) q124 d124_37 rfl (by decide), w_icmp_gt (tg := 124) (pc' := 42) q124 d124_39 (by decide) rfl, w_aload_n0 (pc' := 43) q124 d124_42 rfl, w_getI (pc' := 46) q124 d124_43 rfl f124_67, w_if_eq (tg := 57) (pc' := 49) q124 d124_46 (by decide) rfl, w_aload_n0 (pc' := 50) q124 d124_49 rfl, w_getI (pc' := 53) q124 d124_50 rfl f124_67, w_iconst (pc' := 54) q124 d124_53 rfl, w_icmp_ne (tg := 65) (pc' := 57) q124 d124_54 (by decide) rfl, w_aload_n0 (pc' := 58) q124 d124_57 rfl, w_invv0 (ci := 8) (pc' := 61) q124 d124_58 rfl n124_70 k124_70_8 m130.1, w_istore_n3 (pc' := 62) q124 d124_61 rfl, w_goto (tg := 112) q124 d124_62 (by decide), w_aload_n0 (pc' := 66) q124 d124_65 rfl, w_getI (pc' := 69) q124 d124_66 rfl f124_73, w_if_ne (tg := 82) (pc' := 72) q124 d124_69 (by decide) rfl, gs_off, gs_off0, gs_0off, gs_2, xN_0, xN_2, xN_3, xN_6, xN_7, xN_8, xN_9, xN_10, xN_11, xN_12, xN_13, xN_14, xN_15, xN_16, xN_17, xN_18, xN_19, xN_20, xN_21, xN_22, xN_23, xN_24, xN_25, xN_26, xN_27, xN_28, xN_29, xN_30, xN_31, xN_32, xN_33, xN_34, xN_35, xN_36, xN_37, xN_38, xN_39, xN_40, xN_41, xN_42, xN_43, xN_44, xN_45, xN_46, xN_47, xN_48, xN_49, xN_50, xN_51, xN_52, xN_53, xN_54, xN_55, ti_0, ti_1, ti_2, ti_3, ti_4, ti_5, ti_6, ti_7, ti_8, ti_9, ti_10, ti_16, ti_19, ti_20, ti_29, ti_30, ti_31, ti_32, ti_35, ti_36, ti_38, ti_39, ti_40, ti_41, ti_42, ti_43, ti_44, ti_45, ti_46, ti_47, ti_48, ti_49, ti_50, ti_51, ti_52, ti_53, ti_54, ti_55, ti_56, ti_57, ti_58, ti_59, ti_60, ti_61, ti_62, ti_63, ti_64, ti_65, ti_74, ti_77, ti_126, ti_200, ti_201, ti_202, ti_203, ti_204, ti_205, ti_210, ti_255, ti_256, ti_400, ti_512, ti_600, ti_601, ti_602, ti_1000, ti_1023, ti_1024, ti_2000, ti_10000, ti_12602, ti_999999, ti_m999999, ti_m1, ti_2000000, ti_3000000, xN_1, xN_4, xN_5, xN_60, xN_61, xN_64, xN_200, xN_800, xN_12000, xN_12602, eq_self, and_self, and_true, true_and, if_true, if_false, decide_true, Nat.reduceLeDiff, xc2_int, xc2_ref, xc2_ra, xc2_null, xc2_long, xc2_none, xisaT_ref, xisaT_ra, xisaT_null, xc1T_int, xc1T_ref, xc1T_ra, xc1T_null, xsum_nil, xsum_int, xsum_ref, xsum_ra, xsum_long, xsum_double, xsum_null, xfl_nil, xfl_int, xfl_ref, xfl_ra, xfl_null, xfl_long, xfl_double, List.length_cons, List.length_nil, p0, ti', hlt, e8, tmd, m0, m1, e12, t12, z12, not_true_eq_false, not_false_eq_true, xfk, xfv, xak, xan, xcls, xsv', List.getElem?_cons_zero, List.getElem?_cons_succ, List.getD_cons_zero, List.getD_cons_succ, Option.getD_some, Option.isSome_some, if_true, if_pos, xcont, Option.toList_none, Option.toList_some, List.nil_append, List.cons_append]
        by_cases hsc : md = 3 ∧ pch g p a = 58
        · rw [if_pos hsc]
          obtain ⟨hm3, h58⟩ := hsc
          subst hm3
          obtain ⟨tk0, u, etk, hu⟩ := hT rfl
          have hsc := c_secondCorner' (X := X) (d := d + 5) (a := a) (st := st) (tk := tk0) hS hC ha (by omega) (by rw [← etk]; exact hP) hu (by rw [etk] at hk; simp at hk; omega)
          rw [← etk] at hsc
          have hsck := fun a' md' st' tk' => scF_ok (a' := a') (md' := md') (st' := st') (tk' := tk') hC ha hB hQ hT
          generalize scF (pch g p) st tk a = r at hsc hsck
          rw [h58] at cn
          cases r with
          | inl a' =>
            obtain ⟨g', w1, w2⟩ := hsc
            refine ⟨g', w1, fun Q => ?_⟩
            dsimp only at w2 ⊢
            rw [pre Q]
            simp (config := { decide := true }) only [w_aload_n0 (pc' := 83) q124 d124_82 rfl, w_getI (pc' := 86) q124 d124_83 rfl f124_67, w_iconst (pc' := 87) q124 d124_86 rfl, w_icmp_ne (tg := 107) (pc' := 90) q124 d124_87 (by decide) rfl, w_aload_n0 (pc' := 91) q124 d124_90 rfl, w_invv0 (ci := 8) (pc' := 94) q124 d124_91 rfl n124_54 k124_54_8 m126.1, w_bipush (z' := (58)) (pc' := 96) q124 d124_94 rfl (by decide), w_icmp_ne (tg := 107) (pc' := 99) q124 d124_96 (by decide) rfl, w_aload_n0 (pc' := 100) q124 d124_99 rfl, w_invv0 (ci := 8) (pc' := 103) q124 d124_100 rfl n124_76 k124_76_8 m138.1, w_istore_n3 (pc' := 104) q124 d124_103 rfl, w_goto (tg := 112) q124 d124_104 (by decide), w_aload_n0 (pc' := 108) q124 d124_107 rfl, w_invv0 (ci := 8) (pc' := 111) q124 d124_108 rfl n124_79 k124_79_8 m139.1, w_istore_n3 (pc' := 112) q124 d124_111 rfl, w_iload_n3 (pc' := 113) q124 d124_112 rfl, w_if_ne (tg := 118) (pc' := 116) q124 d124_113 (by decide) rfl, w_iconst (pc' := 117) q124 d124_116 rfl, w_zreturn q124 d124_117 m124.2.1, gs_off, gs_off0, gs_0off, gs_2, xN_0, xN_2, xN_3, xN_6, xN_7, xN_8, xN_9, xN_10, xN_11, xN_12, xN_13, xN_14, xN_15, xN_16, xN_17, xN_18, xN_19, xN_20, xN_21, xN_22, xN_23, xN_24, xN_25, xN_26, xN_27, xN_28, xN_29, xN_30, xN_31, xN_32, xN_33, xN_34, xN_35, xN_36, xN_37, xN_38, xN_39, xN_40, xN_41, xN_42, xN_43, xN_44, xN_45, xN_46, xN_47, xN_48, xN_49, xN_50, xN_51, xN_52, xN_53, xN_54, xN_55, ti_0, ti_1, ti_2, ti_3, ti_4, ti_5, ti_6, ti_7, ti_8, ti_9, ti_10, ti_16, ti_19, ti_20, ti_29, ti_30, ti_31, ti_32, ti_35, ti_36, ti_38, ti_39, ti_40, ti_41, ti_42, ti_43, ti_44, ti_45, ti_46, ti_47, ti_48, ti_49, ti_50, ti_51, ti_52, ti_53, ti_54, ti_55, ti_56, ti_57, ti_58, ti_59, ti_60, ti_61, ti_62, ti_63, ti_64, ti_65, ti_74, ti_77, ti_126, ti_200, ti_201, ti_202, ti_203, ti_204, ti_205, ti_210, ti_255, ti_256, ti_400, ti_512, ti_600, ti_601, ti_602, ti_1000, ti_1023, ti_1024, ti_2000, ti_10000, ti_12602, ti_999999, ti_m999999, ti_m1, ti_2000000, ti_3000000, xN_1, xN_4, xN_5, xN_60, xN_61, xN_64, xN_200, xN_800, xN_12000, xN_12602, eq_self, and_self, and_true, true_and, if_true, if_false, decide_true, Nat.reduceLeDiff, xc2_int, xc2_ref, xc2_ra, xc2_null, xc2_long, xc2_none, xisaT_ref, xisaT_ra, xisaT_null, xc1T_int, xc1T_ref, xc1T_ra, xc1T_null, xsum_nil, xsum_int, xsum_ref, xsum_ra, xsum_long, xsum_double, xsum_null, xfl_nil, xfl_int, xfl_ref, xfl_ra, xfl_null, xfl_long, xfl_double, List.length_cons, List.length_nil, p0, e8, cn, t58, w2, xzb_0, not_true_eq_false, xfk, xfv, xak, xan, xcls, xsv', List.getElem?_cons_zero, List.getElem?_cons_succ, List.getD_cons_zero, List.getD_cons_succ, Option.getD_some, Option.isSome_some, if_true, if_pos, xcont, Option.toList_none, Option.toList_some, List.nil_append, List.cons_append]
          | inr z =>
            obtain ⟨a', md', st', tk'⟩ := z
            obtain ⟨g', w1, w2, w3⟩ := hsc
            refine hgo g' a' md' st' tk' w1 w2 (hsck a' md' st' tk' rfl) (fun Q => ?_)
            dsimp only at w3
            rw [pre Q]
            simp (config := { decide := true }) only [w_aload_n0 (pc' := 83) q124 d124_82 rfl, w_getI (pc' := 86) q124 d124_83 rfl f124_67, w_iconst (pc' := 87) q124 d124_86 rfl, w_icmp_ne (tg := 107) (pc' := 90) q124 d124_87 (by decide) rfl, w_aload_n0 (pc' := 91) q124 d124_90 rfl, w_invv0 (ci := 8) (pc' := 94) q124 d124_91 rfl n124_54 k124_54_8 m126.1, w_bipush (z' := (58)) (pc' := 96) q124 d124_94 rfl (by decide), w_icmp_ne (tg := 107) (pc' := 99) q124 d124_96 (by decide) rfl, w_aload_n0 (pc' := 100) q124 d124_99 rfl, w_invv0 (ci := 8) (pc' := 103) q124 d124_100 rfl n124_76 k124_76_8 m138.1, w_istore_n3 (pc' := 104) q124 d124_103 rfl, w_goto (tg := 112) q124 d124_104 (by decide), w_aload_n0 (pc' := 108) q124 d124_107 rfl, w_invv0 (ci := 8) (pc' := 111) q124 d124_108 rfl n124_79 k124_79_8 m139.1, w_istore_n3 (pc' := 112) q124 d124_111 rfl, w_iload_n3 (pc' := 113) q124 d124_112 rfl, w_if_ne (tg := 118) (pc' := 116) q124 d124_113 (by decide) rfl, w_iconst (pc' := 117) q124 d124_116 rfl, w_zreturn q124 d124_117 m124.2.1, w_iinc2 (z := (1)) (pc' := 121) q124 d124_118 rfl, w_goto (tg := 36) q124 d124_121 (by decide), gs_off, gs_off0, gs_0off, gs_2, xN_0, xN_2, xN_3, xN_6, xN_7, xN_8, xN_9, xN_10, xN_11, xN_12, xN_13, xN_14, xN_15, xN_16, xN_17, xN_18, xN_19, xN_20, xN_21, xN_22, xN_23, xN_24, xN_25, xN_26, xN_27, xN_28, xN_29, xN_30, xN_31, xN_32, xN_33, xN_34, xN_35, xN_36, xN_37, xN_38, xN_39, xN_40, xN_41, xN_42, xN_43, xN_44, xN_45, xN_46, xN_47, xN_48, xN_49, xN_50, xN_51, xN_52, xN_53, xN_54, xN_55, ti_0, ti_1, ti_2, ti_3, ti_4, ti_5, ti_6, ti_7, ti_8, ti_9, ti_10, ti_16, ti_19, ti_20, ti_29, ti_30, ti_31, ti_32, ti_35, ti_36, ti_38, ti_39, ti_40, ti_41, ti_42, ti_43, ti_44, ti_45, ti_46, ti_47, ti_48, ti_49, ti_50, ti_51, ti_52, ti_53, ti_54, ti_55, ti_56, ti_57, ti_58, ti_59, ti_60, ti_61, ti_62, ti_63, ti_64, ti_65, ti_74, ti_77, ti_126, ti_200, ti_201, ti_202, ti_203, ti_204, ti_205, ti_210, ti_255, ti_256, ti_400, ti_512, ti_600, ti_601, ti_602, ti_1000, ti_1023, ti_1024, ti_2000, ti_10000, ti_12602, ti_999999, ti_m999999, ti_m1, ti_2000000, ti_3000000, xN_1, xN_4, xN_5, xN_60, xN_61, xN_64, xN_200, xN_800, xN_12000, xN_12602, eq_self, and_self, and_true, true_and, if_true, if_false, decide_true, Nat.reduceLeDiff, xc2_int, xc2_ref, xc2_ra, xc2_null, xc2_long, xc2_none, xisaT_ref, xisaT_ra, xisaT_null, xc1T_int, xc1T_ref, xc1T_ra, xc1T_null, xsum_nil, xsum_int, xsum_ref, xsum_ra, xsum_long, xsum_double, xsum_null, xfl_nil, xfl_int, xfl_ref, xfl_ra, xfl_null, xfl_long, xfl_double, List.length_cons, List.length_nil, p0, e8, cn, t58, w3, not_true_eq_false, not_false_eq_true, xfk, xfv, xak, xan, xcls, xsv', List.getElem?_cons_zero, List.getElem?_cons_succ, List.getD_cons_zero, List.getD_cons_succ, Option.getD_some, Option.isSome_some, if_true, if_pos, xcont, Option.toList_none, Option.toList_some, List.nil_append, List.cons_append]
        · rw [if_neg hsc]
          have hfo := c_readFollower (X := X) (d := d + 4) (a := a) hS hC ha (by omega) hP hmd hk (by omega) hB
          have hfok := fun a' md' st' tk' => foF_ok (g := g) (p := p) (md := md) (tk := tk) (a' := a') (md' := md') (st' := st') (tk' := tk') ha (by omega) hB hQ
          generalize foF (pch g p) md st tk a = r at hfo hfok
          have pre2 : ∀ Q, Wx X (d + 8) 124 82 [some (.ref p), some (.int (iI en)), some (.int (iI i)), y3] [] (hp S (gAt g p a)) Q = Wx X (d + 8) 124 107 [some (.ref p), some (.int (iI en)), some (.int (iI i)), y3] [] (hp S (gAt g p a)) Q := fun Q => by
            by_cases hm3 : md = 3
            · have hne : ¬ pch g p a = 58 := fun e => hsc ⟨hm3, e⟩
              rw [hm3] at e8
              simp (config := { decide := true }) only [w_aload_n0 (pc' := 83) q124 d124_82 rfl, w_getI (pc' := 86) q124 d124_83 rfl f124_67, w_iconst (pc' := 87) q124 d124_86 rfl, w_icmp_ne (tg := 107) (pc' := 90) q124 d124_87 (by decide) rfl, w_aload_n0 (pc' := 91) q124 d124_90 rfl, w_invv0 (ci := 8) (pc' := 94) q124 d124_91 rfl n124_54 k124_54_8 m126.1, w_bipush (z' := (58)) (pc' := 96) q124 d124_94 rfl (by decide), w_icmp_ne (tg := 107) (pc' := 99) q124 d124_96 (by decide) rfl, gs_off, gs_off0, gs_0off, gs_2, xN_0, xN_2, xN_3, xN_6, xN_7, xN_8, xN_9, xN_10, xN_11, xN_12, xN_13, xN_14, xN_15, xN_16, xN_17, xN_18, xN_19, xN_20, xN_21, xN_22, xN_23, xN_24, xN_25, xN_26, xN_27, xN_28, xN_29, xN_30, xN_31, xN_32, xN_33, xN_34, xN_35, xN_36, xN_37, xN_38, xN_39, xN_40, xN_41, xN_42, xN_43, xN_44, xN_45, xN_46, xN_47, xN_48, xN_49, xN_50, xN_51, xN_52, xN_53, xN_54, xN_55, ti_0, ti_1, ti_2, ti_3, ti_4, ti_5, ti_6, ti_7, ti_8, ti_9, ti_10, ti_16, ti_19, ti_20, ti_29, ti_30, ti_31, ti_32, ti_35, ti_36, ti_38, ti_39, ti_40, ti_41, ti_42, ti_43, ti_44, ti_45, ti_46, ti_47, ti_48, ti_49, ti_50, ti_51, ti_52, ti_53, ti_54, ti_55, ti_56, ti_57, ti_58, ti_59, ti_60, ti_61, ti_62, ti_63, ti_64, ti_65, ti_74, ti_77, ti_126, ti_200, ti_201, ti_202, ti_203, ti_204, ti_205, ti_210, ti_255, ti_256, ti_400, ti_512, ti_600, ti_601, ti_602, ti_1000, ti_1023, ti_1024, ti_2000, ti_10000, ti_12602, ti_999999, ti_m999999, ti_m1, ti_2000000, ti_3000000, xN_1, xN_4, xN_5, xN_60, xN_61, xN_64, xN_200, xN_800, xN_12000, xN_12602, eq_self, and_self, and_true, true_and, if_true, if_false, decide_true, Nat.reduceLeDiff, xc2_int, xc2_ref, xc2_ra, xc2_null, xc2_long, xc2_none, xisaT_ref, xisaT_ra, xisaT_null, xc1T_int, xc1T_ref, xc1T_ra, xc1T_null, xsum_nil, xsum_int, xsum_ref, xsum_ra, xsum_long, xsum_double, xsum_null, xfl_nil, xfl_int, xfl_ref, xfl_ra, xfl_null, xfl_long, xfl_double, List.length_cons, List.length_nil, p0, e8, cn, tc, t58, hne, not_true_eq_false, not_false_eq_true, xfk, xfv, xak, xan, xcls, xsv', List.getElem?_cons_zero, List.getElem?_cons_succ, List.getD_cons_zero, List.getD_cons_succ, Option.getD_some, Option.isSome_some, if_true, if_pos, xcont, Option.toList_none, Option.toList_some, List.nil_append, List.cons_append]
            · simp (config := { decide := true }) only [w_aload_n0 (pc' := 83) q124 d124_82 rfl, w_getI (pc' := 86) q124 d124_83 rfl f124_67, w_iconst (pc' := 87) q124 d124_86 rfl, w_icmp_ne (tg := 107) (pc' := 90) q124 d124_87 (by decide) rfl, gs_off, gs_off0, gs_0off, gs_2, xN_0, xN_2, xN_3, xN_6, xN_7, xN_8, xN_9, xN_10, xN_11, xN_12, xN_13, xN_14, xN_15, xN_16, xN_17, xN_18, xN_19, xN_20, xN_21, xN_22, xN_23, xN_24, xN_25, xN_26, xN_27, xN_28, xN_29, xN_30, xN_31, xN_32, xN_33, xN_34, xN_35, xN_36, xN_37, xN_38, xN_39, xN_40, xN_41, xN_42, xN_43, xN_44, xN_45, xN_46, xN_47, xN_48, xN_49, xN_50, xN_51, xN_52, xN_53, xN_54, xN_55, ti_0, ti_1, ti_2, ti_3, ti_4, ti_5, ti_6, ti_7, ti_8, ti_9, ti_10, ti_16, ti_19, ti_20, ti_29, ti_30, ti_31, ti_32, ti_35, ti_36, ti_38, ti_39, ti_40, ti_41, ti_42, ti_43, ti_44, ti_45, ti_46, ti_47, ti_48, ti_49, ti_50, ti_51, ti_52, ti_53, ti_54, ti_55, ti_56, ti_57, ti_58, ti_59, ti_60, ti_61, ti_62, ti_63, ti_64, ti_65, ti_74, ti_77, ti_126, ti_200, ti_201, ti_202, ti_203, ti_204, ti_205, ti_210, ti_255, ti_256, ti_400, ti_512, ti_600, ti_601, ti_602, ti_1000, ti_1023, ti_1024, ti_2000, ti_10000, ti_12602, ti_999999, ti_m999999, ti_m1, ti_2000000, ti_3000000, xN_1, xN_4, xN_5, xN_60, xN_61, xN_64, xN_200, xN_800, xN_12000, xN_12602, eq_self, and_self, and_true, true_and, if_true, if_false, decide_true, Nat.reduceLeDiff, xc2_int, xc2_ref, xc2_ra, xc2_null, xc2_long, xc2_none, xisaT_ref, xisaT_ra, xisaT_null, xc1T_int, xc1T_ref, xc1T_ra, xc1T_null, xsum_nil, xsum_int, xsum_ref, xsum_ra, xsum_long, xsum_double, xsum_null, xfl_nil, xfl_int, xfl_ref, xfl_ra, xfl_null, xfl_long, xfl_double, List.length_cons, List.length_nil, p0, e8, tmd, hm3, not_true_eq_false, not_false_eq_true, xfk, xfv, xak, xan, xcls, xsv', List.getElem?_cons_zero, List.getElem?_cons_succ, List.getD_cons_zero, List.getD_cons_succ, Option.getD_some, Option.isSome_some, if_true, if_pos, xcont, Option.toList_none, Option.toList_some, List.nil_append, List.cons_append]
          cases r with
          | inl a' =>
            obtain ⟨g', w1, w2⟩ := hfo
            refine ⟨g', w1, fun Q => ?_⟩
            dsimp only at w2 ⊢
            rw [pre Q, pre2 Q]
            simp (config := { decide := true }) only [w_aload_n0 (pc' := 108) q124 d124_107 rfl, w_invv0 (ci := 8) (pc' := 111) q124 d124_108 rfl n124_79 k124_79_8 m139.1, w_istore_n3 (pc' := 112) q124 d124_111 rfl, w_iload_n3 (pc' := 113) q124 d124_112 rfl, w_if_ne (tg := 118) (pc' := 116) q124 d124_113 (by decide) rfl, w_iconst (pc' := 117) q124 d124_116 rfl, w_zreturn q124 d124_117 m124.2.1, gs_off, gs_off0, gs_0off, gs_2, xN_0, xN_2, xN_3, xN_6, xN_7, xN_8, xN_9, xN_10, xN_11, xN_12, xN_13, xN_14, xN_15, xN_16, xN_17, xN_18, xN_19, xN_20, xN_21, xN_22, xN_23, xN_24, xN_25, xN_26, xN_27, xN_28, xN_29, xN_30, xN_31, xN_32, xN_33, xN_34, xN_35, xN_36, xN_37, xN_38, xN_39, xN_40, xN_41, xN_42, xN_43, xN_44, xN_45, xN_46, xN_47, xN_48, xN_49, xN_50, xN_51, xN_52, xN_53, xN_54, xN_55, ti_0, ti_1, ti_2, ti_3, ti_4, ti_5, ti_6, ti_7, ti_8, ti_9, ti_10, ti_16, ti_19, ti_20, ti_29, ti_30, ti_31, ti_32, ti_35, ti_36, ti_38, ti_39, ti_40, ti_41, ti_42, ti_43, ti_44, ti_45, ti_46, ti_47, ti_48, ti_49, ti_50, ti_51, ti_52, ti_53, ti_54, ti_55, ti_56, ti_57, ti_58, ti_59, ti_60, ti_61, ti_62, ti_63, ti_64, ti_65, ti_74, ti_77, ti_126, ti_200, ti_201, ti_202, ti_203, ti_204, ti_205, ti_210, ti_255, ti_256, ti_400, ti_512, ti_600, ti_601, ti_602, ti_1000, ti_1023, ti_1024, ti_2000, ti_10000, ti_12602, ti_999999, ti_m999999, ti_m1, ti_2000000, ti_3000000, xN_1, xN_4, xN_5, xN_60, xN_61, xN_64, xN_200, xN_800, xN_12000, xN_12602, eq_self, and_self, and_true, true_and, if_true, if_false, decide_true, Nat.reduceLeDiff, xc2_int, xc2_ref, xc2_ra, xc2_null, xc2_long, xc2_none, xisaT_ref, xisaT_ra, xisaT_null, xc1T_int, xc1T_ref, xc1T_ra, xc1T_null, xsum_nil, xsum_int, xsum_ref, xsum_ra, xsum_long, xsum_double, xsum_null, xfl_nil, xfl_int, xfl_ref, xfl_ra, xfl_null, xfl_long, xfl_double, List.length_cons, List.length_nil, p0, w2, xzb_0, not_true_eq_false, xfk, xfv, xak, xan, xcls, xsv', List.getElem?_cons_zero, List.getElem?_cons_succ, List.getD_cons_zero, List.getD_cons_succ, Option.getD_some, Option.isSome_some, if_true, if_pos, xcont, Option.toList_none, Option.toList_some, List.nil_append, List.cons_append]
          | inr z =>
            obtain ⟨a', md', st', tk'⟩ := z
            obtain ⟨g', w1, w2, w3⟩ := hfo
            refine hgo g' a' md' st' tk' w1 w2 (hfok a' md' st' tk' rfl) (fun Q => ?_)
            dsimp only at w3
            rw [pre Q, pre2 Q]
            simp (config := { decide := true }) only [w_aload_n0 (pc' := 108) q124 d124_107 rfl, w_invv0 (ci := 8) (pc' := 111) q124 d124_108 rfl n124_79 k124_79_8 m139.1, w_istore_n3 (pc' := 112) q124 d124_111 rfl, w_iload_n3 (pc' := 113) q124 d124_112 rfl, w_if_ne (tg := 118) (pc' := 116) q124 d124_113 (by decide) rfl, w_iconst (pc' := 117) q124 d124_116 rfl, w_zreturn q124 d124_117 m124.2.1, w_iinc2 (z := (1)) (pc' := 121) q124 d124_118 rfl, w_goto (tg := 36) q124 d124_121 (by decide), gs_off, gs_off0, gs_0off, gs_2, xN_0, xN_2, xN_3, xN_6, xN_7, xN_8, xN_9, xN_10, xN_11, xN_12, xN_13, xN_14, xN_15, xN_16, xN_17, xN_18, xN_19, xN_20, xN_21, xN_22, xN_23, xN_24, xN_25, xN_26, xN_27, xN_28, xN_29, xN_30, xN_31, xN_32, xN_33, xN_34, xN_35, xN_36, xN_37, xN_38, xN_39, xN_40, xN_41, xN_42, xN_43, xN_44, xN_45, xN_46, xN_47, xN_48, xN_49, xN_50, xN_51, xN_52, xN_53, xN_54, xN_55, ti_0, ti_1, ti_2, ti_3, ti_4, ti_5, ti_6, ti_7, ti_8, ti_9, ti_10, ti_16, ti_19, ti_20, ti_29, ti_30, ti_31, ti_32, ti_35, ti_36, ti_38, ti_39, ti_40, ti_41, ti_42, ti_43, ti_44, ti_45, ti_46, ti_47, ti_48, ti_49, ti_50, ti_51, ti_52, ti_53, ti_54, ti_55, ti_56, ti_57, ti_58, ti_59, ti_60, ti_61, ti_62, ti_63, ti_64, ti_65, ti_74, ti_77, ti_126, ti_200, ti_201, ti_202, ti_203, ti_204, ti_205, ti_210, ti_255, ti_256, ti_400, ti_512, ti_600, ti_601, ti_602, ti_1000, ti_1023, ti_1024, ti_2000, ti_10000, ti_12602, ti_999999, ti_m999999, ti_m1, ti_2000000, ti_3000000, xN_1, xN_4, xN_5, xN_60, xN_61, xN_64, xN_200, xN_800, xN_12000, xN_12602, eq_self, and_self, and_true, true_and, if_true, if_false, decide_true, Nat.reduceLeDiff, xc2_int, xc2_ref, xc2_ra, xc2_null, xc2_long, xc2_none, xisaT_ref, xisaT_ra, xisaT_null, xc1T_int, xc1T_ref, xc1T_ra, xc1T_null, xsum_nil, xsum_int, xsum_ref, xsum_ra, xsum_long, xsum_double, xsum_null, xfl_nil, xfl_int, xfl_ref, xfl_ra, xfl_null, xfl_long, xfl_double, List.length_cons, List.length_nil, p0, w3, not_true_eq_false, not_false_eq_true, xfk, xfv, xak, xan, xcls, xsv', List.getElem?_cons_zero, List.getElem?_cons_succ, List.getD_cons_zero, List.getD_cons_succ, Option.getD_some, Option.isSome_some, if_true, if_pos, xcont, Option.toList_none, Option.toList_some, List.nil_append, List.cons_append]
end
