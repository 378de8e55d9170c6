/-! rows of whole that the class needs (written by wip/p53/extract.py) -/
section
def okG (t : Int) : Prop := (t % 8 = 1 ∧ 0 ≤ t / 8 ∧ t / 8 ≤ 999999) ∨ (t % 8 = 2 ∧ okS (t / 8)) ∨ t = 4 ∨ okR t ∨ (t % 8 = 5 ∧ 1 ≤ t / 8 ∧ t / 8 < 200 ∧ ¬ t / 8 = 58) ∨ (t % 8 = 6 ∧ 0 ≤ t / 8 ∧ t / 8 ≤ 5)
theorem Tr_okG : ∀ s r n L v, Tr s r n L v → ∀ t ∈ L, okG t := by
  have g333 : okG 333 := by unfold okG; omega
  have g325 : okG 325 := by unfold okG; omega
  have g357 : okG 357 := by unfold okG; omega
  have g365 : okG 365 := by unfold okG; omega
  have g38 : okG 38 := by unfold okG; omega
  have g46 : okG 46 := by unfold okG; omega
  refine Tr_ind ?_ ?_ ?_ ?_ ?_ ?_ ?_ ?_ ?_ ?_ ?_
  · intro t ht x hx
    rw [List.mem_singleton] at hx
    subst hx
    rcases ht with h | h | h
    · exact .inl h
    · exact .inr (.inl h)
    · exact .inr (.inr (.inl h))
  · intro r n L v _ h x hx
    simp only [List.mem_cons, List.mem_append, List.not_mem_nil, or_false] at hx
    rcases hx with rfl | hx | rfl
    · exact g325
    · exact h x hx
    · exact g333
  · intro r n L v _ h x hx
    simp only [List.mem_cons, List.mem_append, List.not_mem_nil, or_false] at hx
    rcases hx with rfl | hx | rfl
    · exact g38
    · exact h x hx
    · exact g333
  · intro r n L v r1 n1 L1 v1 r2 n2 L2 v2 _ _ _ h h1 h2 x hx
    simp only [List.mem_cons, List.mem_append, List.not_mem_nil, or_false] at hx
    rcases hx with rfl | hx | rfl | hx | rfl | hx | rfl
    · exact g46
    · exact h x hx
    · exact g357
    · exact h1 x hx
    · exact g357
    · exact h2 x hx
    · exact g333
  · intro w r n L v hw hw3 _ h x hx
    simp only [List.mem_cons, List.mem_append, List.not_mem_nil, or_false] at hx
    rcases hx with rfl | hx | rfl
    · unfold okG; omega
    · exact h x hx
    · exact g333
  · intro r n L v _ h _ x hx
    simp only [List.mem_cons] at hx
    rcases hx with rfl | hx
    · exact g365
    · exact h x hx
  · intro op r n L v r1 n1 L1 v1 ho _ _ h h1 _ _ _ x hx
    simp only [List.mem_cons, List.mem_append] at hx
    rcases hx with hx | rfl | hx
    · exact h x hx
    · unfold isO at ho; unfold okG; omega
    · exact h1 x hx
  · intro r n L v _ h; exact h
  · intro t ht x hx
    rw [List.mem_singleton] at hx
    subst hx
    exact .inr (.inr (.inr (.inl ht)))
  · intro r n L v _ h; exact h
  · intro r n L v r1 n1 L1 v1 _ _ h h1 x hx
    simp only [List.mem_cons, List.mem_append] at hx
    rcases hx with hx | rfl | hx
    · exact h x hx
    · exact g357
    · exact h1 x hx
theorem mkat_0 (x : Int) (l : List Int) : mkat (x :: l) 0 = x := rfl
theorem mkat_s (x : Int) (l : List Int) {a : Int} (h : 1 ≤ a) : mkat (x :: l) a = mkat l (a - 1) := by
  unfold mkat
  obtain ⟨n, e⟩ : ∃ n : Nat, a.toNat = n + 1 := ⟨a.toNat - 1, by omega⟩
  rw [e, show (a - 1).toNat = n by omega]
  rfl
variable {X : xX} {S : xLm} {g : xGm} {d : Nat} {w : xH} {Q : xO → xH → Prop}
end
