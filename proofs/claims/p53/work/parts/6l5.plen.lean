/-! p53: the words of a content are no more than its characters -/
section
variable {g : xGm}
def wn (tk : List Int) : Int := ((mks tk).length : Int)
theorem wn_s {tk : List Int} {t : Int} (h : t % 8 = 1 ∨ t % 8 = 2 ∨ t % 8 = 5) : wn (tk ++ [t]) = wn tk + 1 := (mks_t1 tk t).2.1 h
theorem wn_6 {tk : List Int} {t : Int} (h : t % 8 = 6) : wn (tk ++ [t]) = wn tk + 2 := (mks_t1 tk t).2.2.1 h
theorem wn_r {tk : List Int} {u s : Int} (h : okS u) : wn (tk ++ [((u * 8 + 2) / 8 + 1024 * s) * 8 + 3]) = wn tk + 3 := by
  unfold wn
  rw [mks_rng3 tk u s h]
  simp only [List.length_append, List.length_cons, List.length_nil]
  omega
theorem opF_wn {p : Nat} {a md a' md' : Int} {st st' : List Fr} {tk tk' : List Int} (hC : PcI g p) (ha : 0 ≤ a) (h : opF (pch g p) md st tk a = .inr (a', md', st', tk')) : wn tk' - wn tk ≤ a' - a := by
  unfold opF at h
  split at h
  · injection h with h; injection h with h1 h; injection h with h2 h; injection h with h3 h4
    rw [← h1, ← h4, wn_s (by decide)]; omega
  split at h
  · injection h with h; injection h with h1 h; injection h with h2 h; injection h with h3 h4
    rw [← h1, ← h4, wn_s (by decide)]; omega
  split at h
  · next hd =>
    injection h with h; injection h with h1 h; injection h with h2 h; injection h with h3 h4
    have hn := nuF_at hd
    rw [← h1, ← h4, wn_s (by omega)]; omega
  · unfold woF at h
    dsimp only at h
    have hwr := wdF_rng (ch := pch g p) (a := a) 6 0 0 (by decide) (by decide) (by decide)
    split at h
    · next hu =>
      injection h with h; injection h with h1 h; injection h with h2 h; injection h with h3 h4
      rw [← h1, ← h4, wn_6 (by omega)]; omega
    · split at h
      · cases h
      · split at h
        · cases h
        · next h5 =>
          injection h with h; injection h with h1 h; injection h with h2 h; injection h with h3 h4
          have hin := spF_in (g := g) (p := p) (fx := true) (a := a) (by omega) hC ha
          rw [← h1, ← h4, wn_s (by omega)]; omega
theorem foF_wn {p : Nat} {a md a' md' : Int} {st st' : List Fr} {tk tk' : List Int} (h : foF (pch g p) md st tk a = .inr (a', md', st', tk')) : wn tk' - wn tk ≤ a' - a := by
  cases st with
  | nil => unfold foF at h; cases h
  | cons f rest =>
    obtain ⟨o, q, cc⟩ := f
    unfold foF at h
    dsimp only at h
    split at h
    · split at h
      · cases h
      · injection h with h; injection h with h1 h; injection h with h2 h; injection h with h3 h4
        rw [← h1, ← h4, wn_s (by decide)]; omega
    · split at h
      · split at h
        · injection h with h; injection h with h1 h; injection h with h2 h; injection h with h3 h4
          rw [← h1, ← h4, wn_s (by decide)]; omega
        · cases h
      · split at h
        · injection h with h; injection h with h1 h; injection h with h2 h; injection h with h3 h4
          rw [← h1, ← h4, wn_s (by omega)]; omega
        · cases h
theorem scF_wn {p : Nat} {a a' md' : Int} {st st' : List Fr} {tk tk' : List Int} (hC : PcI g p) (ha : 0 ≤ a) (hT : IT 3 tk) (h : scF (pch g p) st tk a = .inr (a', md', st', tk')) : wn tk' - wn tk ≤ a' - a := by
  unfold scF at h
  split at h
  · cases h
  · next h5 =>
    injection h with h; injection h with h1 h; injection h with h2 h; injection h with h3 h4
    have hin := spF_in (g := g) (p := p) (fx := true) (a := a + 1) (by omega) hC (by omega)
    obtain ⟨tk0, u, e, hu⟩ := hT rfl
    rw [← h1, ← h4, e, rgL_app, wn_r hu, wn_s (by omega)]; omega
theorem cnT_wn {p : Nat} {en : Int} (hC : PcI g p) : ∀ (m : Nat) (md : Int) (st : List Fr) (tk : List Int) (a a' : Int) (tk' : List Int), 0 ≤ a → a ≤ g p 1 → (0 ≤ md ∧ md ≤ 4) → SkB st → QB a st → IT md tk → cnT (pch g p) en m md st tk a = .inr (a', tk') → wn tk' - wn tk ≤ a' - a ∧ a' ≤ g p 1 := by
  intro m
  induction m with
  | zero => intro md st tk a a' tk' ha ha2 hm hB hQ hT h; rw [cnT] at h; cases h
  | succ m ih =>
    intro md st tk a a' tk' ha ha2 hm hB hQ hT h
    have ha3 : a ≤ 60 := by have := hC.2.1; omega
    rw [cnT] at h
    split at h
    · cases e : opF (pch g p) md st tk a with
      | inl x => rw [e] at h; cases h
      | inr q =>
        obtain ⟨a1, md1, st1, tk1⟩ := q
        rw [e] at h
        obtain ⟨s1, s2, s3, s4, s5, s6, s7, s8⟩ := opF_ok hC ha hB hQ e
        have w := opF_wn hC ha e
        have r := ih md1 st1 tk1 a1 a' tk' (by omega) s2 s7 s5 s6 s8 h
        omega
    · split at h
      · injection h with h; injection h with h1 h2
        rw [← h1, ← h2]; omega
      · split at h
        · cases h
        · next e =>
          split at e
          · next h5 =>
            obtain ⟨s1, s2, s3, s4, s5, s6, s7, s8⟩ := scF_ok hC ha hB hQ (by rw [← h5.1]; exact hT) e
            have w := scF_wn hC ha (by rw [← h5.1]; exact hT) e
            have r := ih _ _ _ _ a' tk' (by omega) s2 s7 s5 s6 s8 h
            omega
          · obtain ⟨s1, s2, s3, s4, s5, s6, s7, s8⟩ := foF_ok ha ha3 hB hQ e
            have w := foF_wn e
            have r := ih _ _ _ _ a' tk' (by omega) s2 s7 s5 s6 s8 h
            omega
theorem wn_nil : wn [] = 0 := rfl
theorem ctF_wn {p : Nat} {en a a' kd nu : Int} {tk : List Int} (hC : PcI g p) (ha : 0 ≤ a) (h : ctF (pch g p) en a = .inr (a', kd, nu, tk)) : wn tk ≤ 60 := by
  have key : ∀ i, 1 ≤ pch g p i → i < g p 1 := fun i hi => by
    unfold pch at hi; split at hi <;> omega
  have h60 := hC.2.1
  obtain ⟨b, v, -, -, e0⟩ := ctF_eq (pch g p) en a
  rw [e0] at h
  split at h
  · next h1 =>
    have hlt := key a (by omega)
    cases e : cnT (pch g p) en 61 0 [(7, 1, 0)] [] (a + 1) with
    | inl x => rw [e] at h; cases h
    | inr q =>
      obtain ⟨a1, tk1⟩ := q
      rw [e] at h
      injection h with h; injection h with h1 h; injection h with h2 h; injection h with h3 h4
      have w := cnT_wn hC 61 0 [(7, 1, 0)] [] (a + 1) a1 tk1 (by omega) (by omega) (by decide) ⟨rfl, rfl, .inl rfl⟩ (fun f hf => by cases List.mem_singleton.mp hf; show (1 : Int) ≤ _; omega) (fun e => absurd e (by decide)) e
      rw [wn_nil] at w
      rw [← h4]; omega
  · split at h
    · injection h with h; injection h with h1 h; injection h with h2 h; injection h with h3 h4
      rw [← h4, wn_nil]; decide
    · split at h
      · cases h
      · split at h
        · injection h with h; injection h with h1 h; injection h with h2 h; injection h with h3 h4
          rw [← h4, wn_nil]; decide
        · cases h
theorem wn_len {tk : List Int} (h : wn tk ≤ 60) : (mks tk).length ≤ 60 ∧ tk.length ≤ 60 := by
  have h2 := mks_len tk
  unfold wn at h
  omega
theorem ctF_lenP {p : Nat} {P : Pd} (hC : PcI g p) (hP : pch g p = pdc P) : ∀ a kd nu tk, ctF (pdc P) 0 0 = .inr (a, kd, nu, tk) → (mks tk).length ≤ 60 ∧ tk.length ≤ 60 := fun a kd nu tk e => by
  rw [← hP] at e
  exact wn_len (ctF_wn hC (by decide) e)
theorem orF_lenP {p : Nat} {P : Pd} (hC : PcI g p) (hP : pch g p = pdc P) : ∀ a a' tg kd nu tk, 0 ≤ a → a ≤ P.1 → orF (pdc P) a = .inr (a', tg, kd, nu, tk) → (mks tk).length ≤ 60 ∧ tk.length ≤ 60 := fun a a' tg kd nu tk ha ha2 e => by
  rw [← hP] at e
  unfold orF at e
  split at e
  · cases e
  · next h1 =>
    split at e
    · cases e
    · cases e2 : ctF (pch g p) 59 ((spF (pch g p) false a).2 + 1) with
      | inl x => rw [e2] at e; cases e
      | inr q =>
        obtain ⟨a1, kd1, nu1, tk1⟩ := q
        rw [e2] at e
        injection e with e; injection e with h1 e; injection e with h2 e; injection e with h3 e; injection e with h4 h5
        have hsr := spF_rng (ch := pch g p) (fx := false) (a := a)
        rw [← h5]
        exact wn_len (ctF_wn hC (by omega) e2)
end
