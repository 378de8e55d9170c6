/-! p53: the reader's steps over what is typed -/
section
variable {ch : Int → Int} {en a v s : Int} {m : Nat} {md : Int} {st rest : List Fr} {tk tk0 : List Int} {o q cc c : Int}
theorem wd_two : ∀ k : Nat, k < 6 → ∃ c0 c1 L, wdL k = c0 :: c1 :: L ∧ 65 ≤ c0 ∧ 65 ≤ c1
  | 0, _ => ⟨_, _, _, rfl, by decide, by decide⟩
  | 1, _ => ⟨_, _, _, rfl, by decide, by decide⟩
  | 2, _ => ⟨_, _, _, rfl, by decide, by decide⟩
  | 3, _ => ⟨_, _, _, rfl, by decide, by decide⟩
  | 4, _ => ⟨_, _, _, rfl, by decide, by decide⟩
  | 5, _ => ⟨_, _, _, rfl, by decide, by decide⟩
theorem wd_sml {k : Nat} (hk : k < 6) (h : ch a = 36 ∨ ch (a + 1) < 65) : 0 ≤ sml ch a (wdL k) ∧ sml ch a (wdL k) ≤ 1 ∧ ¬ sml ch a (wdL k) = (wdL k).length := by
  obtain ⟨c0, c1, L, e, h0, h1⟩ := wd_two k hk
  have hl : 2 ≤ (wdL k).length := by rw [e]; simp only [List.length_cons]; omega
  have hs : 0 ≤ sml ch a (wdL k) ∧ sml ch a (wdL k) ≤ 1 := by
    rw [e, sml]
    split
    · next hc =>
      rw [sml, if_neg (by omega)]
      omega
    · omega
  omega
theorem wd_none (h : ch a = 36 ∨ ch (a + 1) < 65) : ∀ (m k : Nat) (l : Int), k + m = 6 → 0 ≤ l → l ≤ 1 → (wdF ch a m k l).1 = -1 ∧ 0 ≤ (wdF ch a m k l).2 ∧ (wdF ch a m k l).2 ≤ 1 := by
  intro m
  induction m with
  | zero => intro k l _ h1 h2; rw [wdF]; exact ⟨rfl, h1, h2⟩
  | succ m ih =>
    intro k l hk h1 h2
    obtain ⟨s1, s2, s3⟩ := wd_sml (ch := ch) (a := a) (k := k) (by omega) h
    rw [wdF, if_neg s3]
    exact ih (k + 1) _ (by omega) (by unfold imax; split <;> omega) (by unfold imax; split <;> omega)
theorem sml_TL : ∀ (L : List Int) (a : Int), TL ch a L → sml ch a L = L.length := by
  intro L
  induction L with
  | nil => intro a _; rfl
  | cons c L ih =>
    intro a h
    rw [sml, if_pos h.1, ih (a + 1) h.2]
    simp only [List.length_cons]
    omega
theorem wd_diff : ∀ j : Fin 6, ∀ k : Fin 6, ¬ j = k → ∃ i : Fin 2, ¬ (wdL j.val).getD i.val 0 = (wdL k.val).getD i.val 0 := by decide
theorem wdF_at {k : Nat} (hk : k < 6) (h : TL ch a (wdL k)) : ∀ (m j : Nat) (l : Int), j + m = 6 → j ≤ k → wdF ch a m j l = ((k : Int), ((wdL k).length : Int)) := by
  intro m
  induction m with
  | zero => intro j l h1 h2; omega
  | succ m ih =>
    intro j l h1 h2
    rw [wdF]
    by_cases e : j = k
    · subst e
      rw [if_pos (sml_TL _ _ h)]
    · rw [if_neg (fun hs => ?_)]
      · exact ih (j + 1) _ (by omega) (by omega)
      · obtain ⟨i, hi⟩ := wd_diff ⟨j, by omega⟩ ⟨k, hk⟩ (fun x => e (Fin.mk.inj x))
        obtain ⟨-, -, -, -, -, -⟩ := wd_two k hk
        have l1 : 2 ≤ (wdL k).length := by obtain ⟨c0, c1, L, e, -, -⟩ := wd_two k hk; rw [e]; simp only [List.length_cons]; omega
        have l2 : 2 ≤ (wdL j).length := by obtain ⟨c0, c1, L, e, -, -⟩ := wd_two j (by omega); rw [e]; simp only [List.length_cons]; omega
        have a1 := sml_in (wdL j) a hs i.val (by omega)
        have a2 := sml_in (wdL k) a (sml_TL _ _ h) i.val (by omega)
        exact hi (a1.symm.trans a2)
/-! operands -/
theorem cS_op {r : Rd} (hm : md ≤ 1) {a' md' : Int} {st' : List Fr} {tk' : List Int} (h : opF ch md st tk a = .inr (a', md', st', tk')) : cnT ch en (m + 1) md st tk a = cnT ch en m md' st' tk' a' := by
  rw [cnT, if_pos hm, h]
theorem cS_neg (hm : md ≤ 1) (h : ch a = 45) : cnT ch en (m + 1) md st tk a = cnT ch en m 0 st (tk ++ [365]) (a + 1) := cS_op (r := .inl 0) hm (by unfold opF; rw [if_pos h])
theorem cS_par (hm : md ≤ 1) (h : ch a = 40) : cnT ch en (m + 1) md st tk a = cnT ch en m 0 ((6, 1, 0) :: st) (tk ++ [325]) (a + 1) := cS_op (r := .inl 0) hm (by unfold opF; rw [if_neg (by omega), if_pos h])
theorem nuF_t (hv : 0 ≤ v ∧ v < 100) (h : TL ch a (dec v)) (hn : ndg (ch (a + (dec v).length))) : nuF ch a = (v, a + (dec v).length) ∧ 48 ≤ ch a ∧ ch a ≤ 57 := by
  unfold ndg at hn
  by_cases e : v < 10
  · rw [dec_1 hv.1 e] at h hn ⊢
    have h1 : ch a = 48 + v := h.1
    have hn' : ¬ (48 ≤ ch (a + 1) ∧ ch (a + 1) ≤ 57) := hn
    refine ⟨?_, by omega, by omega⟩
    unfold nuF
    rw [h1]
    by_cases e0 : 48 + v = 48
    · rw [if_pos e0, nmF, if_pos (by omega), nmF, h1]
      exact Prod.ext (by dsimp only; omega) rfl
    · rw [if_neg e0, nmF, if_pos (by omega), nmF, if_neg hn', h1]
      exact Prod.ext (by dsimp only; omega) rfl
  · rw [dec_2 (by omega) hv.2] at h hn ⊢
    have h1 : ch a = 48 + v / 10 := h.1
    have h2 : ch (a + 1) = 48 + v % 10 := h.2.1
    have hn' : ¬ (48 ≤ ch (a + 1 + 1) ∧ ch (a + 1 + 1) ≤ 57) := by
      have := hn
      rw [show a + (([48 + v / 10, 48 + v % 10] : List Int).length : Int) = a + 1 + 1 by show a + 2 = _; omega] at this
      exact this
    refine ⟨?_, by omega, by omega⟩
    unfold nuF
    rw [h1, if_neg (by omega), nmF, if_pos (by omega), nmF, if_pos (by omega), nmF, if_neg hn', h1, h2]
    exact Prod.ext (by dsimp only; omega) (by show a + 1 + 1 = a + 2; omega)
theorem cS_num (hm : md ≤ 1) (hv : 0 ≤ v ∧ v < 100) (h : TL ch a (dec v)) (hn : ndg (ch (a + (dec v).length))) : cnT ch en (m + 1) md st tk a = cnT ch en m 2 st (tk ++ [v * 8 + 1]) (a + (dec v).length) := by
  obtain ⟨e, h1, h2⟩ := nuF_t hv h hn
  refine cS_op (r := .inl 0) hm ?_
  unfold opF
  rw [if_neg (by omega), if_neg (by omega), if_pos ⟨h1, h2⟩, e]
theorem cS_ref (hm : md ≤ 1) (ho : okS s) (h : TL ch a (spT s)) (hn : ndg (ch (a + (spT s).length))) : cnT ch en (m + 1) md st tk a = cnT ch en m (if md = 1 then 3 else 2) st (tk ++ [s * 8 + 2]) (a + (spT s).length) := by
  obtain ⟨e, h1⟩ := spF_t ho h hn
  have hw := wd_none (ch := ch) (a := a) (by omega) 6 0 0 (by decide) (by decide) (by decide)
  refine cS_op (r := .inl 0) hm ?_
  unfold opF
  rw [if_neg (by omega), if_neg (by omega), if_neg (by omega)]
  unfold woF
  dsimp only
  rw [if_neg (by omega), if_neg (by omega), e]
  dsimp only
  rw [if_neg (by have := ho.1; omega)]
theorem cS_word {k : Nat} (hm : md ≤ 1) (hk : k < 6) (h : TL ch a (wdL k)) : cnT ch en (m + 1) md st tk a = cnT ch en m (if (k : Int) ≤ 3 then 1 else 0) (((k : Int), 1, 0) :: st) (tk ++ [(k : Int) * 8 + 6]) (a + (wdL k).length) := by
  have hw := wdF_at hk h 6 0 0 rfl (Nat.zero_le _)
  have h65 : 65 ≤ ch a := by
    obtain ⟨c0, c1, L, e, h0, -⟩ := wd_two k hk
    rw [e] at h
    rw [h.1]; exact h0
  refine cS_op (r := .inl 0) hm ?_
  unfold opF
  rw [if_neg (by omega), if_neg (by omega), if_neg (by omega)]
  unfold woF
  dsimp only
  rw [hw, if_pos (by dsimp only; omega)]
/-! what follows -/
theorem cS_fo (hm : ¬ md ≤ 1) (he : ¬ (st.length = 1 ∧ ch a = en)) (h3 : ¬ (md = 3 ∧ ch a = 58)) {a' md' : Int} {st' : List Fr} {tk' : List Int} (h : foF ch md st tk a = .inr (a', md', st', tk')) : cnT ch en (m + 1) md st tk a = cnT ch en m md' st' tk' a' := by
  rw [cnT, if_neg hm, if_neg he, if_neg h3, h]
theorem cS_close (hm : ¬ md ≤ 1) (h : ch a = 41) (hr : ¬ rest = []) (ho : ¬ (o = 5 ∧ q < 3)) : cnT ch en (m + 1) md ((o, q, cc) :: rest) tk a = cnT ch en m 2 rest (tk ++ [333]) (a + 1) := by
  refine cS_fo hm (fun e => hr ?_) (fun e => by omega) ?_
  · have := e.1
    rw [List.length_cons] at this
    exact List.length_eq_zero_iff.mp (by omega)
  · unfold foF
    dsimp only
    rw [if_pos h, if_neg (fun e => e.elim hr ho)]
theorem cS_comma (hm : ¬ md ≤ 1) (h : ch a = 44) (hen : ¬ en = 44) (ho : o ≤ 3 ∨ (o = 5 ∧ q < 3)) : cnT ch en (m + 1) md ((o, q, cc) :: rest) tk a = cnT ch en m (if o ≤ 3 then 1 else 0) ((o, q + 1, 0) :: rest) (tk ++ [357]) (a + 1) := by
  refine cS_fo hm (fun e => hen (by omega)) (fun e => by omega) ?_
  unfold foF
  dsimp only
  rw [if_neg (by omega), if_pos h, if_pos ho]
theorem cS_cmp (hm : ¬ md ≤ 1) (h4 : ¬ md = 4) (hc : ch a = c) (hen : ¬ en = c) (h : c = 60 ∨ c = 61 ∨ c = 62) : cnT ch en (m + 1) md ((o, q, 0) :: rest) tk a = cnT ch en m 0 ((o, q, 1) :: rest) (tk ++ [c * 8 + 5]) (a + 1) := by
  refine cS_fo hm (fun e => hen (by omega)) (fun e => by omega) ?_
  unfold foF
  dsimp only
  rw [hc, if_neg (by omega), if_neg (by omega), if_pos ⟨h4, .inl ⟨by omega, rfl⟩⟩, if_pos (by omega)]
theorem cS_sign (hm : ¬ md ≤ 1) (h4 : ¬ md = 4) (hc : ch a = c) (hen : ¬ en = c) (h : c = 42 ∨ c = 47 ∨ c = 45 ∨ c = 43) : cnT ch en (m + 1) md ((o, q, cc) :: rest) tk a = cnT ch en m 0 ((o, q, cc) :: rest) (tk ++ [c * 8 + 5]) (a + 1) := by
  refine cS_fo hm (fun e => hen (by omega)) (fun e => by omega) ?_
  unfold foF
  dsimp only
  rw [hc, if_neg (by omega), if_neg (by omega), if_pos ⟨h4, .inr (by omega)⟩, if_neg (by omega)]
theorem cS_colon {s2 : Int} (h : ch a = 58) (hen : ¬ en = 58) (ho : okS s2) (hs : okS s) (ht : TL ch (a + 1) (spT s2)) (hn : ndg (ch (a + 1 + (spT s2).length))) : cnT ch en (m + 1) 3 st (tk ++ [s * 8 + 2]) a = cnT ch en m 4 st (tk ++ [(s + 1024 * s2) * 8 + 3]) (a + 1 + (spT s2).length) := by
  obtain ⟨e, -⟩ := spF_t ho ht hn
  rw [cnT, if_neg (by decide), if_neg (fun e => hen (by omega)), if_pos ⟨rfl, h⟩]
  unfold scF
  rw [e]
  dsimp only
  rw [if_neg (by have := ho.1; omega), rgL_app, show (s * 8 + 2) / 8 = s by omega]
theorem cS_end (hm : ¬ md ≤ 1) (hs : st.length = 1) (h : ch a = en) : cnT ch en (m + 1) md st tk a = .inr (a, tk) := by
  rw [cnT, if_neg hm, if_pos ⟨hs, h⟩]
theorem cS_bad (hm : md = 2) (h : ch a = 41 ∨ ch a = 59) (hen : en = 0) : cnT ch en (m + 1) md [(7, 1, cc)] tk a = .inl a := by
  have hf : foF ch md [(7, 1, cc)] tk a = .inl a := by
    unfold foF
    dsimp only
    rcases h with h | h
    · rw [if_pos h, if_pos (.inl rfl)]
    · rw [if_neg (by omega), if_neg (by omega), if_neg (by omega)]
  rw [cnT, if_neg (by omega), if_neg (by omega), if_neg (by omega), hf]
end
