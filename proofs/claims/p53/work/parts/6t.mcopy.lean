/-! rows of whole that the class needs (written by wip/p53/extract.py) -/
section
variable {X : xX} {S : xLm} {g : xGm} {d m : Nat} {w : xH} {Q : xO → xH → Prop} {P : Pd} {A : Sh} {sn : Option Sh} {H : List Sh}
/-- how many cells are not empty -/
def flN (K : Int → Int) : Int := 200 - sumf (ind (fun c => decide (K c = 0))) 0 200
end
