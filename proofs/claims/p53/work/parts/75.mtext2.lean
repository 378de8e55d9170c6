/-! rows of whole that the class needs (written by wip/p53/extract.py) -/
section
variable {X : xX} {S : xLm} {g : xGm} {d m : Nat} {w : xH} {Q : xO → xH → Prop} {P : Pd} {A : Sh} {sn : Option Sh} {H : List Sh}
def rfX (k : Int) : List Int := (if (k - 2000000) / 1000 % 2 = 1 then [36] else []) ++ ([65 + tgt k % 10] ++ ((if (k - 2000000) / 1000 / 2 = 1 then [36] else []) ++ dec (tgt k / 10 + 1)))
def txM (k : Int) : List Int := if k < 200 then [k] else if k ≤ 205 then fnL k else if k < 2000000 then dec (k - 10000) else if k = 3000000 then [35, 82, 69, 70] else rfX k
/-- a mark that has a text -/
def okT (k : Int) : Prop := (1 ≤ k ∧ k < 200) ∨ (200 ≤ k ∧ k ≤ 205) ∨ (10000 ≤ k ∧ k ≤ 1009999) ∨ (2000000 ≤ k ∧ k < 2004000 ∧ tgt k < 200) ∨ k = 3000000
theorem spm_okT {s : Int} (h : okS s) : okT (spm s) := by
  unfold okS at h
  refine .inr (.inr (.inr (.inl ?_)))
  unfold spm tgt
  have h1 : s / 256 % 2 = 0 ∨ s / 256 % 2 = 1 := by omega
  have h2 : s / 512 % 2 = 0 ∨ s / 512 % 2 = 1 := by omega
  rcases h1 with h1 | h1 <;> rcases h2 with h2 | h2 <;> rw [h1, h2] <;> simp only [if_true, if_false, show ¬ (0 : Int) = 1 by decide] <;> omega
theorem mk1_okT {t : Int} (h : okG t) : ∀ x ∈ mk1 t, okT x := by
  intro x hx
  rcases h with h | h | h | h | h | h
  · unfold mk1 at hx; rw [if_pos h.1, List.mem_singleton] at hx; unfold okT; omega
  · unfold mk1 at hx; rw [if_neg (by omega), if_pos h.1, List.mem_singleton] at hx; rw [hx]; exact spm_okT h.2
  · subst h
    rw [show mk1 4 = [3000000] by decide, List.mem_singleton] at hx; unfold okT; omega
  · rw [mk1_rng h] at hx
    obtain ⟨-, h2, h3⟩ := h
    simp only [List.mem_cons, List.not_mem_nil, or_false] at hx
    rcases hx with e | e | e
    · rw [e]; exact spm_okT h2
    · rw [e]; unfold okT; omega
    · rw [e]; exact spm_okT h3
  · unfold mk1 at hx; rw [if_neg (by omega), if_neg (by omega), if_neg (by omega), if_neg (by omega), if_pos h.1, List.mem_singleton] at hx; unfold okT; omega
  · unfold mk1 at hx; rw [if_neg (by omega), if_neg (by omega), if_neg (by omega), if_neg (by omega), if_neg (by omega)] at hx
    simp only [List.mem_cons, List.not_mem_nil, or_false] at hx
    unfold okT; omega
theorem mks_okT : ∀ (L : List Int), (∀ t ∈ L, okG t) → ∀ x ∈ mks L, okT x
  | [], _, x, hx => by simp [mks] at hx
  | t :: L, h, x, hx => by
    rw [mks_cons, List.mem_append] at hx
    rcases hx with hx | hx
    · exact mk1_okT (h t (List.mem_cons_self ..)) x hx
    · exact mks_okT L (fun y hy => h y (List.mem_cons_of_mem _ hy)) x hx
end
