/-! rows of whole that the class needs (written by wip/p53/extract.py) -/
section
variable {X : xX} {S : xLm} {g : xGm} {d m : Nat} {w : xH} {Q : xO → xH → Prop} {P : Pd} {A : Sh} {sn : Option Sh} {H : List Sh}
def qFil (A : Sh) : Int := sumf (fun c => if A.1 c = 0 then 0 else 1) 0 200
def qFor (A : Sh) : Int := sumf (ind (fun c => decide (A.1 c = 2))) 0 200
noncomputable def qErr (A : Sh) : Int := sumf (fun c => if flA A c = 0 then 0 else 1) 0 200
noncomputable def qTot (A : Sh) (b z : Int) : Int := sumf (fun c => if lnO b c = z ∧ flA A c = 0 then vlA A c else 0) 0 200
noncomputable def qOne (A : Sh) (c : Int) : Bool := decide (¬ A.1 c = 0) && decide (flA A c = 0)
noncomputable def qSum (A : Sh) : Int := sumf (fun c => if qOne A c = true then vlA A c else 0) 0 200
noncomputable def qMny (A : Sh) : Int := sumf (ind (qOne A)) 0 200
noncomputable def qFnd (A : Sh) (v : Int) : Int := low (fun c => qOne A c && decide (vlA A c = v)) 0 200
theorem sumf_not {p : Int → Prop} [DecidablePred p] : ∀ (n : Nat) (c : Int), n - sumf (ind (fun c => decide (p c))) c n = sumf (fun c => if p c then 0 else 1) c n
  | 0, _ => rfl
  | n + 1, c => by
    have ih := sumf_not (p := p) n (c + 1)
    rw [sumf, sumf, ← ih]
    unfold ind
    by_cases e : p c
    · simp only [e, decide_true, if_true]; omega
    · simp only [e, decide_false, if_false, Bool.false_eq_true]; omega
end
