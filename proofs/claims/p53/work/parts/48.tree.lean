/-! rows of whole that the class needs (written by wip/p53/extract.py) -/
section
def Aw (c : Int) (ts : List Int) : Prop := ∀ r n L v, Tr 0 r n L v → 4 ≤ r → ∃ r' n' v', Tr 0 r' n' (ts ++ L) v' ∧ (c = 0 → 2 ≤ r')
def Cp (c : Int) (ts : List Int) : Prop := ∃ r n v, Tr 0 r n ts v ∧ (c = 0 → 2 ≤ r)
theorem Aw_nil (c : Int) : Aw c [] := fun r n L v h h4 => ⟨r, n, v, h, fun _ => by omega⟩
theorem Aw_neg {c : Int} {ts : List Int} (h : Aw c ts) : Aw c (ts ++ [365]) := fun r n L v hT h4 => by
  obtain ⟨r', n', v', h1, h2⟩ := h 4 n (365 :: L) _ (Tr_neg hT h4) (by decide)
  exact ⟨r', n', v', by rw [List.append_assoc]; exact h1, h2⟩
theorem Aw_prim {c : Int} {ts L : List Int} {n : Nat} {v : Ev} (h : Aw c ts) (hL : Tr 0 5 n L v) : Cp c (ts ++ L) := by
  obtain ⟨r', n', v', h1, h2⟩ := h 5 n L v hL (by decide)
  exact ⟨r', n', v', h1, h2⟩
theorem Cp_op {c c' op : Int} {ts : List Int} (h : Cp c ts) (ho : isO op) (h1 : prc op = 1 → c = 0) (h2 : c' = 0 → c = 0 ∧ 2 ≤ prc op) : Aw c' (ts ++ [op * 8 + 5]) := fun r n L v hT h4 => by
  obtain ⟨r0, n0, v0, k1, k2⟩ := h
  obtain ⟨r', n', v', j1, j2⟩ := Tr_ins ho hT h4 _ _ _ _ _ k1 rfl (fun e => by have := k2 (h1 e); omega)
  refine ⟨r', n', v', by rw [List.append_assoc]; exact j1, fun e => ?_⟩
  obtain ⟨e1, e2⟩ := h2 e
  have := k2 e1
  unfold imin at j2; split at j2 <;> omega
def opn (o : Int) : Int := if o = 6 then 325 else o * 8 + 6
def PaO (o q : Int) (par : List Int) : Prop :=
  ((o = 6 ∨ o = 4) ∧ q = 1 ∧ par = []) ∨
  (0 ≤ o ∧ o ≤ 3 ∧ (par = [] ∨ ∃ L r n v, par = L ++ [357] ∧ Tr 1 r n L v)) ∨
  (o = 5 ∧ ((q = 1 ∧ par = []) ∨ (q = 2 ∧ ∃ L r n v, par = L ++ [357] ∧ Tr 0 r n L v) ∨ (q = 3 ∧ ∃ L r n v L1 r1 n1 v1, par = L ++ 357 :: (L1 ++ [357]) ∧ Tr 0 r n L v ∧ Tr 0 r1 n1 L1 v1)))
def Pt : List Fr → List Int → Prop
  | [], _ => False
  | [(o, _, _)], pre => o = 7 ∧ pre = []
  | (o, q, _) :: (o2, q2, c2) :: st, pre => ∃ pre2 cur2 par, Pt ((o2, q2, c2) :: st) pre2 ∧ Aw c2 cur2 ∧ pre = pre2 ++ (cur2 ++ (opn o :: par)) ∧ PaO o q par
theorem Pt_c {o q c c' : Int} {st : List Fr} {pre : List Int} (h : Pt ((o, q, c) :: st) pre) : Pt ((o, q, c') :: st) pre := by
  cases st with
  | nil => exact h
  | cons f st => obtain ⟨o2, q2, c2⟩ := f; exact h
/-- what the state of the reader says of the words -/
def Iv (md : Int) (st : List Fr) (tk : List Int) : Prop := ∃ o q c rest pre cur, st = (o, q, c) :: rest ∧ tk = pre ++ cur ∧ Pt st pre ∧
  ((md = 0 ∧ Aw c cur) ∨ (md = 1 ∧ cur = [] ∧ c = 0 ∧ 0 ≤ o ∧ o ≤ 3) ∨ (md = 2 ∧ Cp c cur) ∨ (md = 3 ∧ 0 ≤ o ∧ o ≤ 3 ∧ c = 0 ∧ ∃ u, okS u ∧ cur = [u * 8 + 2]) ∨ (md = 4 ∧ 0 ≤ o ∧ o ≤ 3 ∧ ∃ t, okR t ∧ cur = [t]))
theorem Rd_inj {a a' md md' : Int} {st st' : List Fr} {tk tk' : List Int} (h : (Sum.inr (a, md, st, tk) : Rd) = .inr (a', md', st', tk')) : a = a' ∧ md = md' ∧ st = st' ∧ tk = tk' := by
  injection h with h; injection h with h1 h; injection h with h2 h; injection h with h3 h4
  exact ⟨h1, h2, h3, h4⟩
theorem leaf_spot {u : Int} (h : okS u) : Tr 0 5 0 [u * 8 + 2] (vLeaf (u * 8 + 2)) := Tr_leaf (.inr (.inl ⟨by omega, by rw [show (u * 8 + 2) / 8 = u by omega]; exact h⟩))
theorem Iv_op {ch : Int → Int} {md a a' md' : Int} {st st' : List Fr} {tk tk' : List Int} (hI : Iv md st tk) (hm : md ≤ 1) (h : opF ch md st tk a = .inr (a', md', st', tk')) : Iv md' st' tk' := by
  obtain ⟨o, q, c, rest, pre, cur, est, etk, hP, hc⟩ := hI
  have hAw : Aw c cur := by
    rcases hc with h | h | h | h | h
    · exact h.2
    · rw [h.2.1]; exact Aw_nil c
    · omega
    · omega
    · omega
  have push : ∀ o', (0 ≤ o' ∧ o' ≤ 6) → PaO o' 1 [] → ∀ md', (md' = 0 ∨ (md' = 1 ∧ o' ≤ 3)) → Iv md' ((o', 1, 0) :: st) (tk ++ [opn o']) := fun o' ho hpa md' hmd => by
    refine ⟨o', 1, 0, st, tk ++ [opn o'], [], rfl, by simp, ?_, ?_⟩
    · rw [est]
      exact ⟨pre, cur, [], by rw [← est]; exact hP, hAw, by rw [etk]; simp, hpa⟩
    · rcases hmd with e | ⟨e, e2⟩
      · exact .inl ⟨e, Aw_nil 0⟩
      · exact .inr (.inl ⟨e, rfl, rfl, ho.1, e2⟩)
  unfold opF at h
  split at h
  · obtain ⟨rfl, rfl, rfl, rfl⟩ := Rd_inj h
    exact ⟨o, q, c, rest, pre, cur ++ [365], est, by rw [etk, List.append_assoc], hP, .inl ⟨rfl, Aw_neg hAw⟩⟩
  split at h
  · obtain ⟨rfl, rfl, rfl, rfl⟩ := Rd_inj h
    exact push 6 (by decide) (.inl ⟨.inl rfl, rfl, rfl⟩) 0 (.inl rfl)
  split at h
  · obtain ⟨rfl, rfl, rfl, rfl⟩ := Rd_inj h
    have hv := nuF_v (ch := ch) (a := a)
    refine ⟨o, q, c, rest, pre, cur ++ [(nuF ch a).1 * 8 + 1], est, by rw [etk, List.append_assoc], hP, .inr (.inr (.inl ⟨rfl, Aw_prim hAw (Tr_leaf (.inl ?_))⟩))⟩
    omega
  · unfold woF at h
    dsimp only at h
    have hwr := wdF_rng (ch := ch) (a := a) 6 0 0 (by decide) (by decide) (by decide)
    split at h
    · next hw =>
      obtain ⟨rfl, rfl, rfl, rfl⟩ := Rd_inj h
      have e6 : opn (wdF ch a 6 0 0).1 = (wdF ch a 6 0 0).1 * 8 + 6 := by unfold opn; rw [if_neg (by omega)]
      rw [← e6]
      refine push _ (by omega) ?_ _ ?_
      · by_cases h3 : (wdF ch a 6 0 0).1 ≤ 3
        · exact .inr (.inl ⟨hw, h3, .inl rfl⟩)
        · by_cases h4 : (wdF ch a 6 0 0).1 = 4
          · exact .inl ⟨.inr h4, rfl, rfl⟩
          · exact .inr (.inr ⟨by omega, .inl ⟨rfl, rfl⟩⟩)
      · by_cases h3 : (wdF ch a 6 0 0).1 ≤ 3
        · rw [if_pos h3]; exact .inr ⟨rfl, h3⟩
        · rw [if_neg h3]; exact .inl rfl
    · split at h
      · cases h
      · split at h
        · cases h
        · next h3 =>
          obtain ⟨rfl, rfl, rfl, rfl⟩ := Rd_inj h
          have hsr := (spF_rng (ch := ch) (fx := true) (a := a)).2.2
          have hok : okS (spF ch true a).1 := by
            rcases hsr with e | e
            · omega
            · exact e
          refine ⟨o, q, c, rest, pre, cur ++ [(spF ch true a).1 * 8 + 2], est, by rw [etk, List.append_assoc], hP, ?_⟩
          rcases hc with h | h | h | h | h
          · rw [if_neg (by omega)]
            exact .inr (.inr (.inl ⟨rfl, Aw_prim hAw (leaf_spot hok)⟩))
          · rw [if_pos h.1, h.2.1]
            exact .inr (.inr (.inr (.inl ⟨rfl, h.2.2.2.1, h.2.2.2.2, h.2.2.1, _, hok, rfl⟩)))
          · omega
          · omega
          · omega
theorem Iv_sc {ch : Int → Int} {a a' md' : Int} {st st' : List Fr} {tk tk' : List Int} (hI : Iv 3 st tk) (h : scF ch st tk a = .inr (a', md', st', tk')) : Iv md' st' tk' := by
  obtain ⟨o, q, c, rest, pre, cur, est, etk, hP, hc⟩ := hI
  obtain ⟨h1, h2, h3, u, hu, ecur⟩ : 0 ≤ o ∧ o ≤ 3 ∧ c = 0 ∧ ∃ u, okS u ∧ cur = [u * 8 + 2] := by
    rcases hc with h | h | h | h | h
    · exact absurd h.1 (by decide)
    · exact absurd h.1 (by decide)
    · exact absurd h.1 (by decide)
    · exact h.2
    · exact absurd h.1 (by decide)
  unfold scF at h
  split at h
  · cases h
  · next h4 =>
    obtain ⟨rfl, rfl, rfl, rfl⟩ := Rd_inj h
    have hsr := (spF_rng (ch := ch) (fx := true) (a := a + 1)).2.2
    have hok : okS (spF ch true (a + 1)).1 := by
      rcases hsr with e | e
      · omega
      · exact e
    have hu' := hu
    have hok' := hok
    unfold okS at hu' hok'
    refine ⟨o, q, c, rest, pre, [((u * 8 + 2) / 8 + 1024 * (spF ch true (a + 1)).1) * 8 + 3], est, by rw [etk, ecur, rgL_app], hP, .inr (.inr (.inr (.inr ⟨rfl, h1, h2, _, ⟨by omega, ?_, ?_⟩, rfl⟩)))⟩
    · rw [show (((u * 8 + 2) / 8 + 1024 * (spF ch true (a + 1)).1) * 8 + 3) / 8 % 1024 = u by omega]; exact hu
    · rw [show (((u * 8 + 2) / 8 + 1024 * (spF ch true (a + 1)).1) * 8 + 3) / 8 / 1024 = (spF ch true (a + 1)).1 by omega]; exact hok
theorem Iv_fo {ch : Int → Int} {md a a' md' : Int} {st st' : List Fr} {tk tk' : List Int} (hI : Iv md st tk) (hm : ¬ md ≤ 1) (h : foF ch md st tk a = .inr (a', md', st', tk')) : Iv md' st' tk' := by
  obtain ⟨o, q, c, rest, pre, cur, est, etk, hP, hc⟩ := hI
  have hCp : ¬ md = 4 → Cp c cur := fun h4 => by
    rcases hc with h | h | h | h | h
    · omega
    · omega
    · exact h.2
    · obtain ⟨_, _, _, _, u, hu, e⟩ := h
      rw [e]; exact ⟨_, _, _, leaf_spot hu, fun _ => by decide⟩
    · exact absurd h.1 h4
  have hArg : ∃ r n v, Tr 2 r n cur v := by
    by_cases h4 : md = 4
    · rcases hc with h | h | h | h | h
      · omega
      · omega
      · omega
      · omega
      · obtain ⟨_, _, _, t, ht, e⟩ := h
        rw [e]; exact ⟨_, _, _, Tr_rng ht⟩
    · obtain ⟨r, n, v, h1, _⟩ := hCp h4
      exact ⟨_, _, _, Tr_one h1⟩
  have h4o : md = 4 → 0 ≤ o ∧ o ≤ 3 := fun h4 => by
    rcases hc with h | h | h | h | h
    · omega
    · omega
    · omega
    · omega
    · exact ⟨h.2.1, h.2.2.1⟩
  unfold foF at h
  rw [est] at h hP
  dsimp only at h
  split at h
  · split at h
    · cases h
    · next h2 =>
      obtain ⟨rfl, rfl, rfl, rfl⟩ := Rd_inj h
      cases rest with
      | nil => exact absurd (.inl rfl) h2
      | cons f rest =>
        obtain ⟨o2, q2, c2⟩ := f
        obtain ⟨pre2, cur2, par, hP2, hA2, epre, hPa⟩ := hP
        have hprim : ∃ n v, Tr 0 5 n (opn o :: (par ++ (cur ++ [333]))) v := by
          rcases hPa with ⟨ho, hq, e⟩ | ⟨ho, ho3, e⟩ | ⟨ho, e⟩
          · have h4 : ¬ md = 4 := fun h4 => by have := h4o h4; omega
            obtain ⟨r, n, v, h1, _⟩ := hCp h4
            rw [e]
            rcases ho with ho | ho
            · rw [ho]; exact ⟨_, _, Tr_par h1⟩
            · rw [ho]; exact ⟨_, _, Tr_abs h1⟩
          · obtain ⟨r, n, v, h1⟩ := hArg
            have eo : opn o = o * 8 + 6 := by unfold opn; rw [if_neg (by omega)]
            rw [eo]
            rcases e with e | ⟨L, r1, n1, v1, e, hL⟩
            · rw [e]; exact ⟨_, _, Tr_agg ho ho3 (Tr_sing h1)⟩
            · rw [e]
              have := Tr_agg ho ho3 (Tr_more hL h1)
              rw [show L ++ [357] ++ (cur ++ [333]) = L ++ 357 :: cur ++ [333] by simp]
              exact ⟨_, _, this⟩
          · have h4 : ¬ md = 4 := fun h4 => by have := h4o h4; omega
            obtain ⟨r, n, v, h1, _⟩ := hCp h4
            rcases e with ⟨hq, _⟩ | ⟨hq, _⟩ | ⟨hq, L, r1, n1, v1, L2, r2, n2, v2, e, hL, hL2⟩
            · exact absurd (.inr ⟨ho, by omega⟩) h2
            · exact absurd (.inr ⟨ho, by omega⟩) h2
            · rw [e, ho]
              have := Tr_iff hL hL2 h1
              rw [show opn 5 :: (L ++ 357 :: (L2 ++ [357]) ++ (cur ++ [333])) = 46 :: (L ++ 357 :: (L2 ++ 357 :: (cur ++ [333]))) by unfold opn; simp]
              exact ⟨_, _, this⟩
        obtain ⟨n, v, hp⟩ := hprim
        refine ⟨o2, q2, c2, rest, pre2, cur2 ++ (opn o :: (par ++ (cur ++ [333]))), rfl, ?_, hP2, .inr (.inr (.inl ⟨rfl, Aw_prim hA2 hp⟩))⟩
        rw [etk, epre]; simp
  · split at h
    · split at h
      · next h2 =>
        obtain ⟨rfl, rfl, rfl, rfl⟩ := Rd_inj h
        cases rest with
        | nil => have := hP.1; omega
        | cons f rest =>
          obtain ⟨o2, q2, c2⟩ := f
          obtain ⟨pre2, cur2, par, hP2, hA2, epre, hPa⟩ := hP
          have hPa' : PaO o (q + 1) (par ++ (cur ++ [357])) := by
            rcases hPa with ⟨ho, hq, e⟩ | ⟨ho, ho3, e⟩ | ⟨ho, e⟩
            · omega
            · obtain ⟨r, n, v, h1⟩ := hArg
              refine .inr (.inl ⟨ho, ho3, .inr ?_⟩)
              rcases e with e | ⟨L, r1, n1, v1, e, hL⟩
              · rw [e]; exact ⟨cur, _, _, _, rfl, Tr_sing h1⟩
              · rw [e]; exact ⟨L ++ 357 :: cur, _, _, _, by simp, Tr_more hL h1⟩
            · have h4 : ¬ md = 4 := fun h4 => by have := h4o h4; omega
              obtain ⟨r, n, v, h1, _⟩ := hCp h4
              refine .inr (.inr ⟨ho, ?_⟩)
              rcases e with ⟨hq, e⟩ | ⟨hq, L, r1, n1, v1, e, hL⟩ | ⟨hq, _⟩
              · rw [e]; exact .inr (.inl ⟨by omega, cur, _, _, _, rfl, h1⟩)
              · rw [e]; exact .inr (.inr ⟨by omega, L, _, _, _, cur, _, _, _, by simp, hL, h1⟩)
              · omega
          refine ⟨o, q + 1, 0, (o2, q2, c2) :: rest, tk ++ [357], [], rfl, by simp, ⟨pre2, cur2, par ++ (cur ++ [357]), hP2, hA2, by rw [etk, epre]; simp, hPa'⟩, ?_⟩
          by_cases ho3 : o ≤ 3
          · rw [if_pos ho3]
            have ho0 : 0 ≤ o := by
              rcases hPa with ⟨ho, _⟩ | ⟨ho, _⟩ | ⟨ho, _⟩ <;> omega
            exact .inr (.inl ⟨rfl, rfl, rfl, ho0, ho3⟩)
          · rw [if_neg ho3]; exact .inl ⟨rfl, Aw_nil 0⟩
      · cases h
    · split at h
      · next h1 =>
        obtain ⟨rfl, rfl, rfl, rfl⟩ := Rd_inj h
        obtain ⟨hm4, hs⟩ := h1
        have hcp := hCp hm4
        refine ⟨o, q, _, rest, pre, cur ++ [ch a * 8 + 5], rfl, by rw [etk, List.append_assoc], Pt_c hP, .inl ⟨rfl, ?_⟩⟩
        have hO : isO (ch a) := by unfold isO; omega
        refine Cp_op hcp hO (fun e => ?_) (fun e => ?_)
        · unfold prc at e
          rcases hs with ⟨_, hs⟩ | hs
          · exact hs
          · split at e
            · omega
            · split at e <;> omega
        · split at e
          · omega
          · next hne =>
            refine ⟨e, ?_⟩
            unfold prc
            split
            · decide
            · split
              · decide
              · omega
      · cases h
theorem cnT_tree {ch : Int → Int} {en : Int} : ∀ (m : Nat) (md : Int) (st : List Fr) (tk : List Int) (a a' : Int) (tk' : List Int), Iv md st tk → cnT ch en m md st tk a = .inr (a', tk') → ∃ v : Ev, ∃ r n, Tr 0 r n tk' v := by
  intro m
  induction m with
  | zero => intro md st tk a a' tk' _ h; rw [cnT] at h; cases h
  | succ m ih =>
    intro md st tk a a' tk' hI h
    rw [cnT] at h
    split at h
    · next hm =>
      generalize e : opF ch md st tk a = r at h
      cases r with
      | inl z => cases h
      | inr z =>
        obtain ⟨a1, md1, st1, tk1⟩ := z
        exact ih _ _ _ _ _ _ (Iv_op hI hm e) h
    · next hm =>
      split at h
      · next h1 =>
        injection h with h; injection h with h2 h3
        rw [← h3]
        obtain ⟨o, q, c, rest, pre, cur, est, etk, hP, hc⟩ := hI
        have hr : rest = [] := by
          have := h1.1
          rw [est] at this
          simp only [List.length_cons] at this
          exact List.length_eq_zero_iff.mp (by omega)
        rw [est, hr] at hP
        obtain ⟨ho, epre⟩ := hP
        rw [epre, List.nil_append] at etk
        rw [etk]
        rcases hc with h | h | h | h | h
        · omega
        · omega
        · obtain ⟨r, n, v, k1, _⟩ := h.2
          exact ⟨v, r, n, k1⟩
        · omega
        · omega
      · generalize e : (if md = 3 ∧ ch a = 58 then scF ch st tk a else foF ch md st tk a) = r at h
        cases r with
        | inl z => cases h
        | inr z =>
          obtain ⟨a1, md1, st1, tk1⟩ := z
          refine ih _ _ _ _ _ _ ?_ h
          split at e
          · next hs => rw [hs.1] at hI; exact Iv_sc hI e
          · exact Iv_fo hI hm e
/-- the words of a formula that was read are a tree -/
theorem ctF_tree {ch : Int → Int} {en a a' kd nu : Int} {tk : List Int} (h : ctF ch en a = .inr (a', kd, nu, tk)) : (kd = 2 ∧ ∃ v : Ev, ∃ r n, Tr 0 r n tk v) ∨ ((kd = 0 ∨ kd = 1) ∧ tk = [] ∧ -999999 ≤ nu ∧ nu ≤ 999999 ∧ (kd = 0 → nu = 0)) := by
  unfold ctF at h
  split at h
  · generalize e : cnT ch en 61 0 [(7, 1, 0)] [] (a + 1) = r at h
    cases r with
    | inl z => cases h
    | inr z =>
      obtain ⟨a1, tk1⟩ := z
      have := cnT_tree 61 0 [(7, 1, 0)] [] (a + 1) a1 tk1 ⟨7, 1, 0, [], [], [], rfl, rfl, ⟨rfl, rfl⟩, .inl ⟨rfl, Aw_nil 0⟩⟩ e
      injection h with h; injection h with h2 h; injection h with h3 h; injection h with h4 h5
      rw [← h5]
      exact .inl ⟨h3.symm, this⟩
  · split at h
    · injection h with h; injection h with h2 h; injection h with h3 h; injection h with h4 h5
      exact .inr ⟨.inl h3.symm, h5.symm, by omega, by omega, fun _ => h4.symm⟩
    · generalize a + (if ch a = 45 then 1 else 0) = x at h
      have hv := nuF_v (ch := ch) (a := x)
      by_cases h2 : ¬ (48 ≤ ch x ∧ ch x ≤ 57)
      · rw [if_pos h2] at h; cases h
      · rw [if_neg h2] at h
        by_cases h3 : ch (nuF ch x).2 = en
        · rw [if_pos h3] at h
          injection h with h; injection h with h4 h; injection h with h5 h; injection h with h6 h7
          refine .inr ⟨.inr h5.symm, h7.symm, ?_, ?_, fun e => by omega⟩
          · rw [← h6]; split <;> omega
          · rw [← h6]; split <;> omega
        · rw [if_neg h3] at h; cases h
end
