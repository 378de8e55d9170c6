/-! rows of whole that the class needs (written by wip/p53/extract.py) -/
section
variable {X : xX} {S : xLm} {g : xGm} {d m : Nat} {w : xH} {Q : xO → xH → Prop} {P : Pd} {A : Sh} {sn : Option Sh} {H : List Sh}
/-- the sheet after the orders from a, and how many they are -/
def orA (ch : Int → Int) (n : Int) : Nat → Int → Sh → Sh × Int
  | 0, _, B => (B, 0)
  | f + 1, a, B => if n ≤ a then (B, 0) else match orF ch a with
    | .inl _ => (B, 0)
    | .inr (a', tg, kd, nu, tk) => ((orA ch n f a' (shP B tg kd nu tk)).1, (orA ch n f a' (shP B tg kd nu tk)).2 + 1)
theorem orA_end {ch : Int → Int} {n a : Int} {f : Nat} {B : Sh} (h : n ≤ a) : orA ch n f a B = (B, 0) := by
  cases f with
  | zero => rfl
  | succ f => rw [orA, if_pos h]
theorem orF_tree {ch : Int → Int} {a a' tg kd nu : Int} {tk : List Int} (h : orF ch a = .inr (a', tg, kd, nu, tk)) : ((kd = 2 ∧ ∃ v : Ev, ∃ r n, Tr 0 r n tk v) ∨ ((kd = 0 ∨ kd = 1) ∧ tk = [] ∧ -999999 ≤ nu ∧ nu ≤ 999999 ∧ (kd = 0 → nu = 0))) ∧ -999999 ≤ nu ∧ nu ≤ 999999 := by
  unfold orF at h
  split at h
  · cases h
  split at h
  · cases h
  · generalize e : ctF ch 59 ((spF ch false a).2 + 1) = r at h
    cases r with
    | inl x => cases h
    | inr x =>
      obtain ⟨b, kd', nu', tk1⟩ := x
      injection h with h; injection h with h1 h2; injection h2 with h2 h3; injection h3 with h3 h4; injection h4 with h4 h5
      subst h3; subst h4; subst h5
      exact ⟨ctF_tree e, ctF_nu e⟩
noncomputable def ruS (P : Pd) (A : Sh) : Sh := shC (orA (pdc P) P.1 60 0 A).1 (cnA (orA (pdc P) P.1 60 0 A).1.1)
theorem orA_all {ch : Int → Int} {n : Int} : ∀ (f : Nat) (a : Int) (B : Sh), (orA ch n f a B).1.2.2.2 = B.2.2.2
  | 0, _, _ => rfl
  | f + 1, a, B => by
    rw [orA]
    split
    · rfl
    · generalize orF ch a = r
      cases r with
      | inl x => rfl
      | inr x => exact orA_all f _ _
end
