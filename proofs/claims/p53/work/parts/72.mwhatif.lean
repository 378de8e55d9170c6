/-! rows of whole that the class needs (written by wip/p53/extract.py) -/
section
variable {X : xX} {S : xLm} {g : xGm} {d m : Nat} {w : xH} {Q : xO → xH → Prop} {P : Pd} {A : Sh} {sn : Option Sh} {H : List Sh}
def tmpA (A : Sh) (c k v : Int) : Sh := (fun x => if x = c then k else A.1 x, fun x => if x = c then v else A.2.1 x, A.2.2.1, A.2.2.2)
theorem tmpA_ok {c k v : Int} (hA : ShOK A) (hk : k = 0 ∨ k = 1) (hv : k = 1 → -999999 ≤ v ∧ v ≤ 999999) : ShOK (tmpA A c k v) := fun x x1 x2 => by
  unfold tmpA
  dsimp only
  by_cases e : x = c
  · rw [if_pos e, if_pos e]
    exact ⟨by omega, fun h => by omega, hv⟩
  · rw [if_neg e, if_neg e]
    exact hA x x1 x2
end
