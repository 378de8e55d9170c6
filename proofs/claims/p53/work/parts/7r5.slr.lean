/-! p53: a right Calculation has a solution with chains -/
section
variable {X : xX} {S : xLm} {g g' : xGm} {d c p k t o y b m : Nat} {P : Pd} {A B : Sh} {sn : Option Sh} {H : List Sh}
theorem mx_ex {R : Int → Int → Prop} {r ln : Int → Int} {x : Int} : ∀ n : Nat, (∀ q : Int, 0 ≤ q → q < n → 1 ≤ ln (r q) ∧ ln (r q) ≤ q + 1) → ∃ M : Int, 0 ≤ M ∧ M ≤ n ∧ (M = 0 ∨ ∃ q : Int, 0 ≤ q ∧ q < n ∧ R x (r q) ∧ ln (r q) = M) ∧ ∀ q : Int, 0 ≤ q → q < n → R x (r q) → ln (r q) ≤ M := by
  intro n
  induction n with
  | zero => exact fun _ => ⟨0, by decide, by decide, .inl rfl, fun q h1 h2 => by omega⟩
  | succ n ih =>
    intro h
    obtain ⟨M, m1, m2, m3, m4⟩ := ih (fun q h1 h2 => h q h1 (by omega))
    have hn := h n (by omega) (by omega)
    by_cases hb : R x (r n) ∧ M < ln (r n)
    · refine ⟨ln (r n), by omega, by omega, .inr ⟨n, by omega, by omega, hb.1, rfl⟩, fun q h1 h2 h3 => ?_⟩
      by_cases e : q = n
      · rw [e]; exact Int.le_refl _
      · have := m4 q h1 (by omega) h3; omega
    · refine ⟨M, m1, by omega, ?_, fun q h1 h2 h3 => ?_⟩
      · rcases m3 with e | ⟨q, q1, q2, q3, q4⟩
        · exact .inl e
        · exact .inr ⟨q, q1, by omega, q3, q4⟩
      · by_cases e : q = n
        · subst e
          refine Classical.byContradiction fun hn => hb ⟨h3, by omega⟩
        · exact m4 q h1 (by omega) h3
theorem ChS_ex {R : Int → Int → Prop} {r : Int → Int} : ∀ n : Nat, (∀ i j : Int, 0 ≤ i → i < n → 0 ≤ j → j < n → r i = r j → i = j) → ∃ ln, ChS R r ln n := by
  intro n
  induction n with
  | zero => exact fun _ => ⟨fun _ => 0, fun i h1 h2 => by omega⟩
  | succ n ih =>
    intro hi
    obtain ⟨ln, hl⟩ := ih (fun i j i1 i2 j1 j2 e => hi i j i1 (by omega) j1 (by omega) e)
    obtain ⟨M, m1, m2, m3, m4⟩ := mx_ex (R := R) (r := r) (ln := ln) (x := r n) n (fun q h1 h2 => ⟨(hl q h1 h2).1, (hl q h1 h2).2.1⟩)
    have hne : ∀ q : Int, 0 ≤ q → q < n → ¬ r q = r n := fun q h1 h2 e => by have := hi q n h1 (by omega) (by omega) (by omega) e; omega
    refine ⟨fun x => if x = r n then M + 1 else ln x, fun i h1 h2 => ?_⟩
    by_cases e : i = n
    · subst e
      dsimp only
      rw [if_pos rfl]
      refine ⟨by omega, by omega, ?_, fun q q1 q2 q3 => ?_⟩
      · rcases m3 with e | ⟨q, q1, q2, q3, q4⟩
        · exact .inl (by omega)
        · exact .inr ⟨q, q1, q2, q3, by rw [if_neg (hne q q1 q2)]; omega⟩
      · rw [if_neg (hne q q1 q2)]
        have := m4 q q1 q2 q3; omega
    · obtain ⟨a1, a2, a3, a4⟩ := hl i h1 (by omega)
      dsimp only
      rw [if_neg (hne i h1 (by omega))]
      refine ⟨a1, a2, ?_, fun q q1 q2 q3 => ?_⟩
      · rcases a3 with e | ⟨q, q1, q2, q3, q4⟩
        · exact .inl e
        · exact .inr ⟨q, q1, q2, q3, by rw [if_neg (hne q q1 (by omega))]; exact q4⟩
      · rw [if_neg (hne q q1 (by omega))]
        exact a4 q q1 q2 q3
/-- kinds, numbers and words are a sheet's -/
def StK (g : xGm) (a : Nat) (B : Sh) : Prop := ∀ x, 0 ≤ x → x < 200 → g (a + 1) x = B.1 x ∧ (B.1 x = 1 → g (a + 2) x = B.2.1 x) ∧ (B.1 x = 2 → tkl g a x = B.2.2.1 x)
theorem ClI_slR (h : ClI g k) (hB : ShOK B) (hM : StK g (k + 1) B) : SlR B (flA B) (vlA B) (odA B) (onA B) (lnA B) (plA B) := by
  obtain ⟨h1, h2, h3, h4, h5⟩ := h
  obtain ⟨l1, l2, l3, l4, l5, l6, l7⟩ := h3
  obtain ⟨o1, o2, o3, o4, -, -⟩ := l5
  have hn := h5.2.1
  obtain ⟨ln, hl⟩ := ChS_ex (R := RfA (g (k + 1 + 1)) (tkl g (k + 1))) (r := g (k + 7 + 3)) (g (k + 7) 4).toNat (fun i j i1 i2 j1 j2 e => by
    have e1 := o3 i i1 (by omega)
    have e2 := o3 j j1 (by omega)
    rw [e] at e1
    omega)
  rw [Int.toNat_of_nonneg hn] at hl
  have hO : ∀ i, 0 ≤ i → i < g (k + 7) 4 → oin (g (k + 7 + 3)) (g (k + 7) 4) (g (k + 7 + 3) i) := fun i i1 i2 => ⟨i, i1, i2, rfl⟩
  refine SlR_slA (Er := g (k + 1 + 3)) (R := g (k + 1 + 2)) (r := g (k + 7 + 3)) (n := g (k + 7) 4) (ln := fun x => @ite _ (oin (g (k + 7 + 3)) (g (k + 7) 4) x) (Classical.propDecidable _) (ln x) 0) (pl := g (k + 7 + 4)) ⟨g (k + 1 + 1), tkl g (k + 1), fun x x1 x2 => ⟨(hM x x1 x2).1, (hM x x1 x2).2.2⟩, h5, ?_, o3, fun x x1 x2 hx => ⟨o4 x x1 x2 hx, if_neg hx⟩, fun x x1 x2 hx => ?_⟩
  · intro i i1 i2
    obtain ⟨a1, a2, a3, a4⟩ := hl i i1 i2
    dsimp only
    rw [if_pos (hO i i1 i2)]
    refine ⟨a1, a2, ?_, fun q q1 q2 q3 => ?_⟩
    · rcases a3 with e | ⟨q, q1, q2, q3, q4⟩
      · exact .inl e
      · exact .inr ⟨q, q1, q2, q3, by rw [if_pos (hO q q1 (by omega))]; exact q4⟩
    · rw [if_pos (hO q q1 (by omega))]
      exact a4 q q1 q2 q3
  · obtain ⟨b1, b2, b3⟩ := hM x x1 x2
    have hk := (hB x x1 x2).1
    by_cases e : B.1 x = 1
    · rw [if_pos e]; exact b2 e
    · rw [if_neg e]
      exact (h5.2.2.2 x x1 x2).2.2.2 (by rw [b1]; omega)
theorem CdI_sl (h : CdI g c p k t o y P A sn H) : SlR A (flA A) (vlA A) (odA A) (onA A) (lnA A) (plA A) := ClI_slR h.2.1.1 h.2.1.2.2 (fun x x1 x2 => ⟨(h.2.1.2.1.1 x x1 x2).1, (h.2.1.2.1.1 x x1 x2).2.1, (h.2.1.2.1.1 x x1 x2).2.2.1⟩)
end
