/-! rows of whole that the class needs (written by wip/p53/extract.py) -/
section
variable {X : xX} {S : xLm} {g : xGm} {d : Nat} {w : xH} {Q : xO → xH → Prop}
theorem mk1_len (t : Int) : ((mk1 t).length : Int) ≤ 3 ∧ (t % 8 = 1 ∨ t % 8 = 2 ∨ t % 8 = 5 → ((mk1 t).length : Int) = 1) ∧ (t % 8 = 6 → ((mk1 t).length : Int) = 2) := by
  unfold mk1
  by_cases h1 : t % 8 = 1
  · rw [if_pos h1]; simp only [List.length_cons, List.length_nil]; omega
  · rw [if_neg h1]
    by_cases h2 : t % 8 = 2
    · rw [if_pos h2]; simp only [List.length_cons, List.length_nil]; omega
    · rw [if_neg h2]
      by_cases h3 : t % 8 = 3
      · rw [if_pos h3]; simp only [List.length_cons, List.length_nil]; omega
      · rw [if_neg h3]
        by_cases h4 : t % 8 = 4
        · rw [if_pos h4]; simp only [List.length_cons, List.length_nil]; omega
        · rw [if_neg h4]
          by_cases h5 : t % 8 = 5
          · rw [if_pos h5]; simp only [List.length_cons, List.length_nil]; omega
          · rw [if_neg h5]; simp only [List.length_cons, List.length_nil]; omega
theorem mks_t1 (tk : List Int) (t : Int) : ((mks (tk ++ [t])).length : Int) ≤ (mks tk).length + 3 ∧ (t % 8 = 1 ∨ t % 8 = 2 ∨ t % 8 = 5 → ((mks (tk ++ [t])).length : Int) = (mks tk).length + 1) ∧ (t % 8 = 6 → ((mks (tk ++ [t])).length : Int) = (mks tk).length + 2) ∧ ((mks tk).length : Int) ≤ (mks (tk ++ [t])).length := by
  have h := mk1_len t
  have e : ((mks (tk ++ [t])).length : Int) = (mks tk).length + (mk1 t).length := by
    rw [mks_app, List.length_append]
    have : mks [t] = mk1 t := List.append_nil _
    rw [this]
    exact Int.natCast_add _ _
  rw [e]
  exact ⟨by omega, fun h' => by have := h.2.1 h'; omega, fun h' => by have := h.2.2 h'; omega, by omega⟩
theorem cnT_on (ch : Int → Int) (en : Int) (k : Nat) (md : Int) (st : List Fr) (tk : List Int) (a : Int) :
    cnT ch en (k + 1) md st tk a = if 1 < md ∧ st.length = 1 ∧ ch a = en then .inr (a, tk) else (match onF ch md st tk a with | .inl a' => .inl a' | .inr (a', md', st', tk') => cnT ch en k md' st' tk' a') := by
  rw [cnT]
  unfold onF
  by_cases h1 : md ≤ 1
  · rw [if_pos h1, if_neg (fun h => absurd h.1 (by omega)), if_pos h1]
    rfl
  · by_cases h2 : st.length = 1 ∧ ch a = en
    · rw [if_neg h1, if_pos h2, if_pos ⟨by omega, h2⟩]
    · rw [if_neg h1, if_neg h2, if_neg (show ¬ (1 < md ∧ st.length = 1 ∧ ch a = en) from fun h => h2 h.2), if_neg h1]
      rfl
end
