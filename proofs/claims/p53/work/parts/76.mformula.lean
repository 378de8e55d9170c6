/-! rows of whole that the class needs (written by wip/p53/extract.py) -/
section
variable {X : xX} {S : xLm} {g : xGm} {d m : Nat} {w : xH} {Q : xO → xH → Prop} {P : Pd} {A : Sh} {sn : Option Sh} {H : List Sh}
/-- a formula's text, behind its = -/
def fmT (ms : List Int) : List Int := ms.flatMap txM
/-- the length of a formula's text, and its places -/
noncomputable def qLen (A : Sh) (c : Int) : Int := if A.1 c = 2 then 1 + (fmT (mks (A.2.2.1 c))).length else 0
noncomputable def qChr (A : Sh) (c p : Int) : Int := if A.1 c = 2 then atL (61 :: fmT (mks (A.2.2.1 c))) p else -1
end
