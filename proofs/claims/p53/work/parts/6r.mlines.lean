/-! rows of whole that the class needs (written by wip/p53/extract.py) -/
section
variable {X : xX} {S : xLm} {g : xGm} {d m : Nat} {w : xH} {Q : xO → xH → Prop} {P : Pd} {A : Sh} {sn : Option Sh} {H : List Sh}
/-- how many cells from a line up to another one are filled -/
noncomputable def fiN (K : Int → Int) (b a z : Int) : Int := sumf (ind (fun x => cb ((a ≤ lnO b x ∧ lnO b x ≤ z) ∧ ¬ K x = 0))) 0 200
theorem fiN_zero {K : Int → Int} {b a z : Int} : fiN K b a z = 0 ↔ ∀ c, 0 ≤ c → c < 200 → a ≤ lnO b c → lnO b c ≤ z → K c = 0 := by
  unfold fiN
  rw [ind_zero]
  constructor
  · intro h c c1 c2 h1 h2
    have := h c c1 (by omega)
    rw [cb_not] at this
    exact Decidable.not_not.mp (fun hn => this ⟨⟨h1, h2⟩, hn⟩)
  · intro h c c1 c2
    rw [cb_not]
    rintro ⟨⟨h1, h2⟩, h3⟩
    exact h3 (h c c1 (by omega) h1 h2)
/-- the sheet whose cells come from others -/
def srA (A : Sh) (s : Int → Int) : Sh := (fun x => if s x < 0 then 0 else A.1 (s x), fun x => if s x < 0 then 0 else A.2.1 (s x), fun x => if s x < 0 then [] else A.2.2.1 (s x), A.2.2.2)
theorem srA_ok {s : Int → Int} (h : ShOK A) (hs : ∀ x, 0 ≤ x → x < 200 → s x < 200) : ShOK (srA A s) := fun c c1 c2 => by
  unfold srA
  dsimp only
  by_cases e : s c < 0
  · rw [if_pos e, if_pos e, if_pos e]
    exact ⟨.inl rfl, fun h => absurd h (by decide), fun h => absurd h (by decide)⟩
  · rw [if_neg e, if_neg e, if_neg e]
    exact h (s c) (by omega) (hs c c1 c2)
theorem ln_up {b y : Int} (hb : b = 0 ∨ b = 1) (hy : 0 ≤ y) (hy2 : y < 200) (h : lnO b y < lnL b) : wlM b y (lnO b y + 1) = y + lnT b ∧ y + lnT b < 200 ∧ lnO b (y + lnT b) = lnO b y + 1 := by
  unfold wlM lnT lnO lnL at *
  rcases hb with rfl | rfl
  · rw [if_pos rfl] at h ⊢
    rw [if_pos rfl] at h
    rw [if_pos rfl, if_pos rfl, if_pos rfl]
    omega
  · rw [if_neg (by decide)] at h ⊢
    rw [if_neg (by decide)] at h
    rw [if_neg (by decide), if_neg (by decide), if_neg (by decide)]
    omega
theorem lnT_pos {b : Int} : 1 ≤ lnT b ∧ lnT b ≤ 10 := by unfold lnT; split <;> omega
end
