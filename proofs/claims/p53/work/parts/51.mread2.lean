/-! rows of whole that the class needs (written by wip/p53/extract.py) -/
section
variable {X : xX} {S : xLm} {g : xGm} {d : Nat} {w : xH} {Q : xO → xH → Prop}
/-- marks of words -/
def spm (s : Int) : Int := 2000000 + s % 256 + (if s / 256 % 2 = 1 then 1000 else 0) + (if s / 512 % 2 = 1 then 2000 else 0)
def mk1 (t : Int) : List Int :=
  if t % 8 = 1 then [10000 + t / 8] else if t % 8 = 2 then [spm (t / 8)] else if t % 8 = 3 then [spm (t / 8 % 1024), 58, spm (t / 8 / 1024)]
  else if t % 8 = 4 then [3000000] else if t % 8 = 5 then [t / 8] else [200 + t / 8, 40]
def mks : List Int → List Int
  | [] => []
  | t :: L => mk1 t ++ mks L
theorem mks_app : ∀ (L L' : List Int), mks (L ++ L') = mks L ++ mks L'
  | [], L' => rfl
  | t :: L, L' => by rw [List.cons_append, mks, mks, mks_app L L', List.append_assoc]
end
