/-! rows of whole that the class needs (written by wip/p53/extract.py) -/
section
/-- the model between its calls: cells, results, order, places, chains, bits -/
def MoI (g : xGm) (m : Nat) (T : Int → List Int) : Prop :=
  CeM g m T ∧ MoR g m ∧ Sol (g (m + 1)) T (g (m + 13)) (g (m + 12)) (g (m + 18)) (g m 30) ∧ ChS (RfA (g (m + 1)) T) (g (m + 18)) (g (m + 20)) (g m 30) ∧
  ((∀ i, 0 ≤ i → i < g m 30 → g (m + 19) (g (m + 18) i) = i) ∧ ∀ c, 0 ≤ c → c < 200 → ¬ oin (g (m + 18)) (g m 30) c → g (m + 19) c = -1 ∧ g (m + 20) c = 0) ∧
  (∀ c o, 0 ≤ c → c < 200 → 0 ≤ o → o < 256 → (bt (g (m + 8)) c o = true ↔ RfA (g (m + 1)) T c o)) ∧ ∀ c, 0 ≤ c → c < 200 → ¬ g (m + 1) c = 2 → g (m + 12) c = nvM g m c
variable {X : xX} {S : xLm} {g : xGm} {d : Nat} {w : xH} {Q : xO → xH → Prop}
end
