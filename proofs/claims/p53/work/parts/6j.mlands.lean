/-! rows of whole that the class needs (written by wip/p53/extract.py) -/
section
theorem TL_mk {r : Int → Int} : ∀ (ms : List Int) (i : Int), TL r i ms → ∀ k : Int, 0 ≤ k → k < ms.length → r (i + k) = mkat ms k
  | [], _, _, k, h1, h2 => by simp only [List.length_nil] at h2; omega
  | x :: ms, i, h, k, h1, h2 => by
    simp only [List.length_cons] at h2
    by_cases e : k = 0
    · subst e
      rw [Int.add_zero, mkat_0]
      exact h.1
    · rw [mkat_s _ _ (by omega), ← TL_mk ms (i + 1) h.2 (k - 1) (by omega) (by omega), show i + 1 + (k - 1) = i + k by omega]
theorem mkat_mem {ms : List Int} {k : Int} (h1 : 0 ≤ k) (h2 : k < ms.length) : mkat ms k ∈ ms := by
  unfold mkat
  rw [List.getD_eq_getElem?_getD, List.getElem?_eq_getElem (show k.toNat < ms.length by omega)]
  exact List.getElem_mem _
variable {X : xX} {S : xLm} {g : xGm} {d : Nat} {w : xH} {Q : xO → xH → Prop}
end
