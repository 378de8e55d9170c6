/-! rows of whole that the class needs (written by wip/p53/extract.py) -/
section
theorem woF_ge {ch : Int → Int} {md a a' md' : Int} {st st' : List Fr} {tk tk' : List Int} (h : woF ch md st tk a = .inr (a', md', st', tk')) : a ≤ a' := by
  have hw := (wdF_rng (ch := ch) (a := a) 6 0 0 rfl (by decide) (by decide)).1
  have hs := spF_rng (ch := ch) (fx := true) (a := a)
  unfold woF at h
  dsimp only at h
  split at h
  · obtain ⟨e, -⟩ := Rd_inj h; omega
  split at h
  · cases h
  split at h
  · cases h
  · obtain ⟨e, -⟩ := Rd_inj h; omega
theorem opF_ge {ch : Int → Int} {md a a' md' : Int} {st st' : List Fr} {tk tk' : List Int} (h : opF ch md st tk a = .inr (a', md', st', tk')) : a ≤ a' := by
  unfold opF at h
  split at h
  · obtain ⟨e, -⟩ := Rd_inj h; omega
  split at h
  · obtain ⟨e, -⟩ := Rd_inj h; omega
  split at h
  · next hd => have := nuF_at hd; obtain ⟨e, -⟩ := Rd_inj h; omega
  · exact woF_ge h
theorem foF_ge {ch : Int → Int} {md a a' md' : Int} {st st' : List Fr} {tk tk' : List Int} (h : foF ch md st tk a = .inr (a', md', st', tk')) : a ≤ a' := by
  unfold foF at h
  split at h
  · cases h
  split at h
  · split at h
    · cases h
    · obtain ⟨e, -⟩ := Rd_inj h; omega
  split at h
  · split at h
    · obtain ⟨e, -⟩ := Rd_inj h; omega
    · cases h
  split at h
  · obtain ⟨e, -⟩ := Rd_inj h; omega
  · cases h
theorem scF_ge {ch : Int → Int} {a a' md' : Int} {st st' : List Fr} {tk tk' : List Int} (h : scF ch st tk a = .inr (a', md', st', tk')) : a ≤ a' := by
  have hs := spF_rng (ch := ch) (fx := true) (a := a + 1)
  unfold scF at h
  split at h
  · cases h
  · obtain ⟨e, -⟩ := Rd_inj h; omega
theorem onF_ge {ch : Int → Int} {md a a' md' : Int} {st st' : List Fr} {tk tk' : List Int} (h : onF ch md st tk a = .inr (a', md', st', tk')) : a ≤ a' := by
  unfold onF at h
  split at h
  · exact opF_ge h
  split at h
  · exact scF_ge h
  · exact foF_ge h
theorem cnT_ge {ch : Int → Int} {en : Int} : ∀ (k : Nat) (md : Int) (st : List Fr) (tk : List Int) (a a' : Int) (tk' : List Int), cnT ch en k md st tk a = .inr (a', tk') → a ≤ a'
  | 0, _, _, _, _, _, _, h => by cases h
  | k + 1, md, st, tk, a, a', tk', h => by
    rw [cnT_on] at h
    split at h
    · injection h with h; injection h with h1 h2; omega
    · generalize e : onF ch md st tk a = r at h
      cases r with
      | inl x => cases h
      | inr x =>
        obtain ⟨b, md', st', tk1⟩ := x
        have := onF_ge e
        have := cnT_ge k md' st' tk1 b a' tk' h
        omega
/-- a step goes no further than 7 characters -/
def RdB (a : Int) (r : Rd) : Prop := match r with | .inl a' => a ≤ a' ∧ a' ≤ a + 7 | .inr (a', _) => a ≤ a' ∧ a' ≤ a + 7
theorem onF_B {ch : Int → Int} {md a : Int} {st : List Fr} {tk : List Int} : RdB a (onF ch md st tk a) := by
  have hw := (wdF_rng (ch := ch) (a := a) 6 0 0 rfl (by decide) (by decide)).1
  have hs := spF_rng (ch := ch) (fx := true) (a := a)
  have hs2 := spF_rng (ch := ch) (fx := true) (a := a + 1)
  have hn : a ≤ (nuF ch a).2 ∧ (nuF ch a).2 ≤ a + 6 := by
    unfold nuF
    split
    · have := nmF_at (ch := ch) 1 0 a; omega
    · have := nmF_at (ch := ch) 6 0 a; omega
  unfold onF
  split
  · unfold opF
    split
    · show a ≤ a + 1 ∧ a + 1 ≤ a + 7; omega
    split
    · show a ≤ a + 1 ∧ a + 1 ≤ a + 7; omega
    split
    · show a ≤ (nuF ch a).2 ∧ (nuF ch a).2 ≤ a + 7; omega
    · unfold woF
      dsimp only
      split
      · show a ≤ a + _ ∧ a + _ ≤ a + 7; omega
      split
      · show a ≤ a + _ ∧ a + _ ≤ a + 7; omega
      split
      · show a ≤ _ ∧ _ ≤ a + 7; omega
      · show a ≤ _ ∧ _ ≤ a + 7; omega
  split
  · unfold scF
    split
    · show a ≤ _ ∧ _ ≤ a + 7; omega
    · show a ≤ _ ∧ _ ≤ a + 7; omega
  · unfold foF
    split
    · show a ≤ a ∧ a ≤ a + 7; omega
    split
    · split
      · show a ≤ a ∧ a ≤ a + 7; omega
      · show a ≤ a + 1 ∧ a + 1 ≤ a + 7; omega
    split
    · split
      · show a ≤ a + 1 ∧ a + 1 ≤ a + 7; omega
      · show a ≤ a ∧ a ≤ a + 7; omega
    split
    · show a ≤ a + 1 ∧ a + 1 ≤ a + 7; omega
    · show a ≤ a ∧ a ≤ a + 7; omega
theorem cnT_B {ch : Int → Int} {en : Int} : ∀ (k : Nat) (md : Int) (st : List Fr) (tk : List Int) (a a' : Int), cnT ch en k md st tk a = .inl a' → a ≤ a' ∧ a' ≤ a + 7 * k
  | 0, _, _, _, a, a', h => by
    injection h with h
    omega
  | k + 1, md, st, tk, a, a', h => by
    have hB := onF_B (ch := ch) (md := md) (st := st) (tk := tk) (a := a)
    rw [cnT_on] at h
    split at h
    · cases h
    · generalize onF ch md st tk a = r at h hB
      cases r with
      | inl x =>
        injection h with h
        have hB' : a ≤ x ∧ x ≤ a + 7 := hB
        omega
      | inr x =>
        obtain ⟨b, md', st', tk1⟩ := x
        have hB' : a ≤ b ∧ b ≤ a + 7 := hB
        have := cnT_B k md' st' tk1 b a' h
        omega
theorem ctF_eq (ch : Int → Int) (en a : Int) : ∃ b v : Int, (0 ≤ b ∧ b ≤ 1) ∧ (v = (nuF ch (a + b)).1 ∨ v = -(nuF ch (a + b)).1) ∧ ctF ch en a = if ch a = 61 then (match cnT ch en 61 0 [(7, 1, 0)] [] (a + 1) with | .inl a' => .inl a' | .inr (a', tk) => .inr (a', 2, 0, tk)) else if ch a = en then .inr (a, 0, 0, []) else if ¬ (48 ≤ ch (a + b) ∧ ch (a + b) ≤ 57) then .inl (a + b) else if ch (nuF ch (a + b)).2 = en then .inr ((nuF ch (a + b)).2, 1, v, []) else .inl (nuF ch (a + b)).2 := by
  obtain ⟨b, eb, hb⟩ : ∃ b : Int, (if ch a = 45 then (1 : Int) else 0) = b ∧ 0 ≤ b ∧ b ≤ 1 := ⟨_, rfl, by split <;> decide⟩
  obtain ⟨v, ev, hv⟩ : ∃ v : Int, (if ch a = 45 then -(nuF ch (a + b)).1 else (nuF ch (a + b)).1) = v ∧ (v = (nuF ch (a + b)).1 ∨ v = -(nuF ch (a + b)).1) := ⟨_, rfl, by split <;> simp⟩
  refine ⟨b, v, hb, hv, ?_⟩
  unfold ctF
  rw [eb, ev]
  rfl
theorem ctF_B {ch : Int → Int} {en a a' : Int} (h : ctF ch en a = .inl a') : a ≤ a' ∧ a' ≤ a + 500 := by
  obtain ⟨b, v, hb, -, e0⟩ := ctF_eq ch en a
  have hn : ∀ b, b ≤ (nuF ch b).2 ∧ (nuF ch b).2 ≤ b + 6 := fun b => by
    unfold nuF
    split
    · have := nmF_at (ch := ch) 1 0 b; omega
    · have := nmF_at (ch := ch) 6 0 b; omega
  rw [e0] at h
  split at h
  · generalize e : cnT ch en 61 0 [(7, 1, 0)] [] (a + 1) = r at h
    cases r with
    | inl x =>
      have := cnT_B _ _ _ _ _ _ e
      injection h with h; omega
    | inr x => cases h
  split at h
  · cases h
  split at h
  · injection h with h; omega
  · split at h
    · cases h
    · have := hn (a + b)
      injection h with h; omega
theorem ctF_ge2 {ch : Int → Int} {en a a' kd nu : Int} {tk : List Int} (h : ctF ch en a = .inr (a', kd, nu, tk)) : a ≤ a' := by
  obtain ⟨b, v, hb, -, e0⟩ := ctF_eq ch en a
  rw [e0] at h
  split at h
  · generalize e : cnT ch en 61 0 [(7, 1, 0)] [] (a + 1) = r at h
    cases r with
    | inl x => cases h
    | inr x =>
      obtain ⟨b, tk1⟩ := x
      have := cnT_ge _ _ _ _ _ _ _ e
      injection h with h; injection h with h1 h2; omega
  split at h
  · injection h with h; injection h with h1 h2; omega
  split at h
  · cases h
  · next hd =>
    have := nuF_at (Decidable.not_not.mp hd)
    split at h
    · injection h with h; injection h with h1 h2; omega
    · cases h
theorem orF_gt {ch : Int → Int} {a a' tg kd nu : Int} {tk : List Int} (h : orF ch a = .inr (a', tg, kd, nu, tk)) : a + 1 ≤ a' := by
  have hs := spF_rng (ch := ch) (fx := false) (a := a)
  unfold orF at h
  split at h
  · cases h
  split at h
  · cases h
  · generalize e : ctF ch 59 ((spF ch false a).2 + 1) = r at h
    cases r with
    | inl x => cases h
    | inr x =>
      obtain ⟨b, kd', nu', tk1⟩ := x
      have := ctF_ge2 e
      injection h with h; injection h with h1 h2; omega
variable {X : xX} {S : xLm} {g : xGm} {d : Nat} {w : xH} {Q : xO → xH → Prop}
theorem orF_B {ch : Int → Int} {a a' : Int} (h : orF ch a = .inl a') : a ≤ a' := by
  have hs := spF_rng (ch := ch) (fx := false) (a := a)
  unfold orF at h
  split at h
  · injection h with h; omega
  split at h
  · injection h with h; omega
  · generalize e : ctF ch 59 ((spF ch false a).2 + 1) = r at h
    cases r with
    | inl x =>
      have := ctF_B e
      injection h with h; omega
    | inr x => cases h
end
