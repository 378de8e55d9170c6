/-! rows of whole that the class needs (written by wip/p53/extract.py) -/
section
/-- the cells of the model: their kinds, words, numbers -/
def CeM (g : xGm) (m : Nat) (T : Int → List Int) : Prop := GrS g m ∧ ∀ c, 0 ≤ c → c < 200 → (g (m + 1) c = 0 ∨ g (m + 1) c = 1 ∨ g (m + 1) c = 2) ∧ (g (m + 1) c = 2 → MrS g m c (mks (T c)) ∧ ∃ v : Ev, ∃ r n, Tr 0 r n (T c) v) ∧ (g (m + 1) c = 1 → -999999 ≤ g (m + 1) (200 + c) ∧ g (m + 1) (200 + c) ≤ 999999)
def nvM (g : xGm) (m : Nat) (c : Int) : Int := if g (m + 1) c = 1 then g (m + 1) (200 + c) else 0
/-- the rows of the model are in their ranges -/
def MoR (g : xGm) (m : Nat) : Prop := rg g (m + 12) (-999999999) 999999999 ∧ rg g (m + 13) 0 5 ∧ rg g (m + 18) 0 199 ∧ rg g (m + 19) (-1) 199 ∧ rg g (m + 20) 0 200
variable {X : xX} {S : xLm} {g : xGm} {d : Nat} {w : xH} {Q : xO → xH → Prop}
end
