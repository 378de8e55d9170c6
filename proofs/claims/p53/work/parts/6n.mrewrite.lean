/-! rows of whole that the class needs (written by wip/p53/extract.py) -/
section
variable {X : xX} {S : xLm} {g : xGm} {d m : Nat} {w : xH} {Q : xO → xH → Prop}
/-- a cell in another line -/
def wlM (b c v : Int) : Int := if b = 0 then c / 10 * 10 + v else 10 * v + c % 10
end
