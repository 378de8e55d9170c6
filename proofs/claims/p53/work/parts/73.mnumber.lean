/-! rows of whole that the class needs (written by wip/p53/extract.py) -/
section
variable {X : xX} {S : xLm} {g : xGm} {d m : Nat} {w : xH} {Q : xO → xH → Prop} {P : Pd} {A : Sh} {sn : Option Sh} {H : List Sh}
noncomputable def nfP (A : Sh) (z a y : Int) (v : Int) : Bool := decide (flA (tmpA A z 1 v) a = 0) && decide (vlA (tmpA A z 1 v) a = y)
end
