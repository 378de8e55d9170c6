/-! rows of whole that the class needs (written by wip/p53/extract.py) -/
section
variable {X : xX} {S : xLm} {g : xGm} {d m : Nat} {w : xH} {Q : xO → xH → Prop}
/-- a reference to one of the two cells -/
def tcM (fr to s : Int) : Int := if s % 256 = fr ∨ s % 256 = to then 1 else 0
def tcS (tch : Int → Int) : List Int → Int
  | [] => 0
  | t :: L => (if t % 8 = 2 then tch (t / 8) else 0) + tcS tch L
theorem TL_snoc {r : Int → Int} {l : List Int} {n t : Int} (h : TL r 0 l) (hn : n = l.length) : TL (fun i => if i = n then t else r i) 0 (l ++ [t]) := by
  rw [TL_app]
  refine ⟨TL_congr l 0 (fun j j1 j2 => ?_) h, ?_, trivial⟩
  · rw [if_neg (by omega)]
  · dsimp only; rw [if_pos (by omega)]
end
