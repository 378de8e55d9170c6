/-! rows of whole that the class needs (written by wip/p53/extract.py) -/
section
/-- kinds, numbers, words, the latest count, all counts -/
abbrev Sh : Type := (Int → Int) × (Int → Int) × (Int → List Int) × Int × Int
def ShOK (A : Sh) : Prop := ∀ c, 0 ≤ c → c < 200 → (A.1 c = 0 ∨ A.1 c = 1 ∨ A.1 c = 2) ∧ (A.1 c = 2 → (∃ v : Ev, ∃ r n, Tr 0 r n (A.2.2.1 c) v) ∧ (mks (A.2.2.1 c)).length ≤ 60) ∧ (A.1 c = 1 → -999999 ≤ A.2.1 c ∧ A.2.1 c ≤ 999999)
def MkR (r : Int → Int) (c : Int) (ms : List Int) : Prop := r (400 + c) = ms.length ∧ ms.length ≤ 60 ∧ ∀ k : Int, 0 ≤ k → k < ms.length → r (602 + 60 * c + k) = mkat ms k
/-- a row of the model holds a sheet -/
def ShM (r : Int → Int) (A : Sh) : Prop := (r 600 = A.2.2.2.1 ∧ r 601 = A.2.2.2.2) ∧ ∀ c, 0 ≤ c → c < 200 → r c = A.1 c ∧ (A.1 c = 1 → r (200 + c) = A.2.1 c) ∧ (A.1 c = 2 → MkR r c (mks (A.2.2.1 c))) ∧ (¬ A.1 c = 2 → r (400 + c) = 0)
def rgR (r : Int → Int) : Prop := ∀ i, -1000000000 ≤ r i ∧ r i ≤ 1000000000
/-- a cell becomes another -/
def shP (A : Sh) (c kd nu : Int) (tk : List Int) : Sh := (fun x => if x = c then kd else A.1 x, fun x => if x = c then nu else A.2.1 x, fun x => if x = c then tk else A.2.2.1 x, A.2.2.2)
theorem ShOK_put {A : Sh} {c kd nu : Int} {tk : List Int} (h : ShOK A) (h0 : kd = 0 ∨ kd = 1 ∨ kd = 2) (h2 : kd = 2 → (∃ v : Ev, ∃ r n, Tr 0 r n tk v) ∧ (mks tk).length ≤ 60) (h1 : kd = 1 → -999999 ≤ nu ∧ nu ≤ 999999) : ShOK (shP A c kd nu tk) := by
  intro x x1 x2
  unfold shP
  dsimp only
  by_cases e : x = c
  · rw [if_pos e, if_pos e, if_pos e]; exact ⟨h0, h2, h1⟩
  · rw [if_neg e, if_neg e, if_neg e]; exact h x x1 x2
variable {X : xX} {S : xLm} {g : xGm} {d : Nat} {w : xH} {Q : xO → xH → Prop}
end
