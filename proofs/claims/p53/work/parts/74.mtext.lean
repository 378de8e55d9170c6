/-! rows of whole that the class needs (written by wip/p53/extract.py) -/
section
variable {X : xX} {S : xLm} {g : xGm} {d m : Nat} {w : xH} {Q : xO → xH → Prop} {P : Pd} {A : Sh} {sn : Option Sh} {H : List Sh}
/-- decimal digits, of numbers below 10 ^ (f + 1) -/
def decF : Nat → Int → List Int
  | 0, v => [48 + v % 10]
  | f + 1, v => if v ≤ 9 then [48 + v % 10] else decF f (v / 10) ++ [48 + v % 10]
def dec (v : Int) : List Int := decF 6 v
theorem decF_len : ∀ (f : Nat) (v : Int), 1 ≤ (decF f v).length ∧ (decF f v).length ≤ f + 1
  | 0, v => ⟨Nat.le_refl _, Nat.le_refl _⟩
  | f + 1, v => by
    have ih := decF_len f (v / 10)
    rw [decF]
    split
    · exact ⟨Nat.le_refl _, by simp⟩
    · rw [List.length_append, List.length_singleton]; omega
/-- a place in a text; -1 beside it -/
def atL (L : List Int) (k : Int) : Int := if k < 0 then -1 else (L[k.toNat]?).getD (-1)
theorem atL_out {L : List Int} {k : Int} (h : (L.length : Int) ≤ k) : atL L k = -1 := by
  unfold atL
  split
  · rfl
  · rw [List.getElem?_eq_none (by omega)]; rfl
theorem div10 {v : Int} (h : 0 ≤ v) (h2 : v < 2147483648) : xdiv v 10 = v / 10 ∧ xrem v 10 = v % 10 := ⟨xdiv_eq h h2 (by decide) (by decide), xrem_eq h h2 (by decide) (by decide)⟩
/-- the names of the functions -/
def fnL (f : Int) : List Int := if f = 200 then [83, 85, 77] else if f = 201 then [77, 73, 78] else if f = 202 then [77, 65, 88] else if f = 203 then [67, 79, 85, 78, 84] else if f = 204 then [65, 66, 83] else [73, 70]
end
