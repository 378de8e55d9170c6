/-! rows of whole that the class needs (written by wip/p53/extract.py) -/
section
/-- a pad: how many characters, which -/
abbrev Pd : Type := Int × (Int → Int)
def pdc (P : Pd) (i : Int) : Int := if 0 ≤ i ∧ i < P.1 then P.2 i else 0
def PdM (g : xGm) (m : Nat) (P : Pd) : Prop := McI g m ∧ g m 10 = P.1 ∧ ∀ i, 0 ≤ i → i < P.1 → g (m + 7) i = P.2 i
def HiM (g : xGm) (m : Nat) (H : List Sh) : Prop := (0 ≤ g m 7 ∧ g m 7 ≤ 3) ∧ g m 8 = H.length ∧ H.length ≤ 4 ∧ ∀ (i : Nat) (B : Sh), H[i]? = some B → ShOK B ∧ ∃ q : Nat, q < 4 ∧ (g m 7 + H.length - 1 - i) % 4 = q ∧ ShM (g (m + (3 + q))) B
def SnM (g : xGm) (m : Nat) (sn : Option Sh) : Prop := match sn with
  | none => g m 2 = 0
  | some B => g m 2 = 1 ∧ ShOK B ∧ ShM (g (m + 2)) B
/-- the model holds this -/
def MdI (g : xGm) (m : Nat) (P : Pd) (A : Sh) (sn : Option Sh) (H : List Sh) : Prop :=
  PdM g m P ∧ (MoI g m A.2.2.1 ∧ ShM (g (m + 1)) A ∧ ShOK A) ∧ (∀ j, 1 ≤ j → j ≤ 6 → rgR (g (m + j))) ∧ HiM g m H ∧ SnM g m sn
variable {X : xX} {S : xLm} {g : xGm} {d m : Nat} {w : xH} {Q : xO → xH → Prop} {P : Pd} {A : Sh} {sn : Option Sh} {H : List Sh}
/-- the fault of the pad as a content -/
def faC (P : Pd) : Int := match ctF (pdc P) 0 0 with | .inl a => a | .inr _ => -1
end
