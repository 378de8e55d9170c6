/-! rows of whole that the class needs (written by wip/p53/extract.py) -/
section
variable {X : xX} {S : xLm} {g : xGm} {d m : Nat} {w : xH} {Q : xO → xH → Prop}
def shW (A : Sh) (f : Int → Int) : Sh := (A.1, A.2.1, fun x => (A.2.2.1 x).map f, A.2.2.2)
end
