/-! rows of whole that the class needs (written by wip/p53/extract.py) -/
section
variable {X : xX} {S : xLm} {g : xGm} {d : Nat} {w : xH} {Q : xO → xH → Prop}
theorem mks_rng3 (tk : List Int) (u s : Int) (hu : okS u) : mks (tk ++ [((u * 8 + 2) / 8 + 1024 * s) * 8 + 3]) = mks tk ++ [spm u] ++ [58] ++ [spm s] := by
  unfold okS at hu
  rw [mks_app]
  unfold mks mks mk1
  rw [if_neg (by omega), if_neg (by omega), if_pos (by omega), show (((u * 8 + 2) / 8 + 1024 * s) * 8 + 3) / 8 % 1024 = u by omega, show (((u * 8 + 2) / 8 + 1024 * s) * 8 + 3) / 8 / 1024 = s by omega]
  simp
/-- one step of the reader -/
def onF (ch : Int → Int) (md : Int) (st : List Fr) (tk : List Int) (a : Int) : Rd := if md ≤ 1 then opF ch md st tk a else if md = 3 ∧ ch a = 58 then scF ch st tk a else foF ch md st tk a
end
