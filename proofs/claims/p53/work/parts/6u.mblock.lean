/-! rows of whole that the class needs (written by wip/p53/extract.py) -/
section
variable {X : xX} {S : xLm} {g : xGm} {d m : Nat} {w : xH} {Q : xO → xH → Prop} {P : Pd} {A : Sh} {sn : Option Sh} {H : List Sh}
def inBk (to h w x : Int) : Prop := to / 10 ≤ x / 10 ∧ x / 10 < to / 10 + h ∧ to % 10 ≤ x % 10 ∧ x % 10 < to % 10 + w
/-- the cells with p are copied -/
noncomputable def cpQ (A : Sh) (fi to h w : Int) (f : Int → Int) (p : Int → Bool) : Sh :=
  (fun x => if cb (inBk to h w x ∧ p x = true) = true then A.1 (x - to + fi) else A.1 x, fun x => if cb (inBk to h w x ∧ p x = true) = true then A.2.1 (x - to + fi) else A.2.1 x, fun x => if cb (inBk to h w x ∧ p x = true) = true then (A.2.2.1 (x - to + fi)).map f else A.2.2.1 x, A.2.2.2)
theorem cpQ_y {fi to h w x : Int} {f : Int → Int} {p : Int → Bool} (hx : inBk to h w x ∧ p x = true) : (cpQ A fi to h w f p).1 x = A.1 (x - to + fi) ∧ (cpQ A fi to h w f p).2.1 x = A.2.1 (x - to + fi) ∧ (cpQ A fi to h w f p).2.2.1 x = (A.2.2.1 (x - to + fi)).map f := by
  unfold cpQ
  dsimp only
  rw [if_pos (cb_iff.mpr hx), if_pos (cb_iff.mpr hx), if_pos (cb_iff.mpr hx)]
  exact ⟨rfl, rfl, rfl⟩
theorem cpQ_n {fi to h w x : Int} {f : Int → Int} {p : Int → Bool} (hx : ¬ (inBk to h w x ∧ p x = true)) : (cpQ A fi to h w f p).1 x = A.1 x ∧ (cpQ A fi to h w f p).2.1 x = A.2.1 x ∧ (cpQ A fi to h w f p).2.2.1 x = A.2.2.1 x := by
  unfold cpQ
  dsimp only
  rw [if_neg (fun e => hx (cb_iff.mp e)), if_neg (fun e => hx (cb_iff.mp e)), if_neg (fun e => hx (cb_iff.mp e))]
  exact ⟨rfl, rfl, rfl⟩
theorem cpQ_congr {fi to h w : Int} {f : Int → Int} {p q : Int → Bool} (hpq : ∀ x, inBk to h w x → p x = q x) : cpQ A fi to h w f p = cpQ A fi to h w f q := by
  have e : ∀ x, cb (inBk to h w x ∧ p x = true) = cb (inBk to h w x ∧ q x = true) := fun x => bool_ext (by
    rw [cb_iff, cb_iff]
    constructor
    · rintro ⟨a, b⟩; exact ⟨a, by rw [← hpq x a]; exact b⟩
    · rintro ⟨a, b⟩; exact ⟨a, by rw [hpq x a]; exact b⟩)
  unfold cpQ
  simp only [e]
/-- the copied block -/
noncomputable def cpA (A : Sh) (fi to h w : Int) (f : Int → Int) : Sh := cpQ A fi to h w f (fun _ => true)
theorem src_rng {fi to h w x : Int} (hf : 0 ≤ fi) (h1 : fi % 10 + w ≤ 10) (h2 : fi / 10 + h ≤ 20) (ht : 0 ≤ to) (h3 : to % 10 + w ≤ 10) (hx : inBk to h w x) : 0 ≤ x - to + fi ∧ x - to + fi < 200 := by
  unfold inBk at hx
  omega
theorem cpA_ok {fi to h w : Int} {sp : Int → Int} {co : Int → Int → Int} (ok1 : ∀ s, okS s → okM (sp s)) (ok2 : ∀ s o, okS s → okS o → okM (co s o)) (hA : ShOK A) (hf : 0 ≤ fi) (h1 : fi % 10 + w ≤ 10) (h2 : fi / 10 + h ≤ 20) (ht : 0 ≤ to) (h3 : to % 10 + w ≤ 10) : ShOK (cpA A fi to h w (tkF sp co)) := fun c c1 c2 => by
  by_cases e : inBk to h w c
  · obtain ⟨e1, e2, e3⟩ := cpQ_y (A := A) (fi := fi) (f := tkF sp co) (p := fun _ => true) ⟨e, rfl⟩
    obtain ⟨b1, b2⟩ := src_rng hf h1 h2 ht h3 e
    obtain ⟨a1, a2, a3⟩ := hA _ b1 b2
    unfold cpA
    rw [e1, e2, e3]
    exact ⟨a1, fun k => words_ok ok1 ok2 (a2 k), a3⟩
  · obtain ⟨e1, e2, e3⟩ := cpQ_n (A := A) (fi := fi) (f := tkF sp co) (p := fun _ => true) (fun k => e k.1)
    unfold cpA
    rw [e1, e2, e3]
    exact hA c c1 c2
noncomputable def cbkS (A : Sh) (fi to h w : Int) : Sh := shC (cpA A fi to h w (tkF (cpS (to / 10 - fi / 10) (to % 10 - fi % 10)) (fun s _ => cpS (to / 10 - fi / 10) (to % 10 - fi % 10) s))) (cnA (cpA A fi to h w (tkF (cpS (to / 10 - fi / 10) (to % 10 - fi % 10)) (fun s _ => cpS (to / 10 - fi / 10) (to % 10 - fi % 10) s))).1)
def isB (c : Int) : Prop := 0 ≤ c ∧ c < 200
end
