/-! rows of whole that the class needs (written by wip/p53/extract.py) -/
section
variable {X : xX} {S : xLm} {g : xGm} {d m : Nat} {w : xH} {Q : xO → xH → Prop} {P : Pd} {A : Sh} {sn : Option Sh} {H : List Sh}
theorem lnF_lt {b ln i : Int} (hb : b = 0 ∨ b = 1) (hl : 0 ≤ ln) : ∀ x, 0 ≤ x → x < 200 → lnF b ln i x < 200 := fun x x1 x2 => by
  have hT := lnT_pos (b := b)
  have hv := lnO_rng (b := b) x1 x2
  unfold lnF
  split
  · exact x2
  split
  · split
    · decide
    · obtain ⟨-, d2, -⟩ := ln_up (b := b) hb x1 x2 (by omega)
      exact d2
  · split
    · decide
    · omega
/-- formulas are rebuilt behind a change of lines, and all is computed -/
noncomputable def liS (A : Sh) (b ln i : Int) : Sh := shC (shW (srA A (lnF b ln i)) (tkF (lnS b ln i) (lnC b ln i))) (cnA (srA A (lnF b ln i)).1)
end
