/-! rows of whole that the class needs (written by wip/p53/extract.py) -/
section
variable {X : xX} {S : xLm} {g : xGm} {d : Nat} {w : xH} {Q : xO → xH → Prop}
/-- the marks of cell c are ms -/
def MrS (g : xGm) (m : Nat) (c : Int) (ms : List Int) : Prop := g (m + 1) (400 + c) = ms.length ∧ ms.length ≤ 60 ∧ ∀ k : Int, 0 ≤ k → k < ms.length → g (m + 1) (602 + 60 * c + k) = mkat ms k
def GrS (g : xGm) (m : Nat) : Prop := rg g (m + 1) (-1000000000) 1000000000
end
