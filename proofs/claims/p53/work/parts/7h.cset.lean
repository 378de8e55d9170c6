/-! The class: a cell is changed and what depends on it computed -/
section
variable {X : xX} {S : xLm} {g g' : xGm} {d c p k t o y b m : Nat} {w : xH} {Q : xO → xH → Prop} {P P' : Pd} {A A' B : Sh} {sn : Option Sh} {H : List Sh}
theorem c_chgC {z kd nu : Int} {tk : List Int} {G : xGm} (hS : CsS S c p k t o y b m) (hI : CdI g c p k t o y P A sn H) (hz : 0 ≤ z ∧ z < 200) (hA' : ShOK (shP A z kd nu tk))
    (hf : ∀ h, ¬ h = k + 1 + 1 → ¬ h = k + 1 + 2 → ¬ h = k + 1 + 3 → ¬ h = k + 1 + 4 → ¬ h = k + 1 + 5 → G h = g h) (hG : StI G (k + 1))
    (hx : ∀ x, 0 ≤ x → x < 200 → ¬ x = z → G (k + 1 + 1) x = g (k + 1 + 1) x ∧ G (k + 1 + 2) x = g (k + 1 + 2) x ∧ G (k + 1 + 3) x = g (k + 1 + 3) x ∧ G (k + 1 + 4) x = g (k + 1 + 4) x ∧ tkl G (k + 1) x = tkl g (k + 1) x)
    (hk : G (k + 1 + 1) z = kd) (hk1 : kd = 1 → G (k + 1 + 2) z = nu) (hk0 : kd = 0 → G (k + 1 + 2) z = 0) (hk2 : kd = 2 → tkl G (k + 1) z = tk) (hkn : ¬ kd = 2 → G (k + 1 + 4) z = 0 ∧ G (k + 1 + 3) z = 0) :
    ∃ g', (∀ h, h < k ∨ k + 15 < h → g' h = g h) ∧ CdI g' c p k t o y P (chS A z kd nu tk) sn H ∧ ∀ Q, Cw X (d + 272) 63 [.ref k, .int (iI z)] (hp S G) Q = Q (.inl (some (.int (iI (chN A z kd nu tk))))) (hp S g') := by
  obtain ⟨c0, ⟨hp0, hkS, ht0, ho0, hy0⟩, hL⟩ := hS
  obtain ⟨hP, ⟨hC, hM, hA⟩, hT, hSn, hH⟩ := id hI
  have hA2 : ∀ x, 0 ≤ x → x < 200 → G (k + 1 + 1) x = (shP A z kd nu tk).1 x ∧ ((shP A z kd nu tk).1 x = 2 → tkl G (k + 1) x = (shP A z kd nu tk).2.2.1 x) := fun x x1 x2 => by
    unfold shP
    dsimp only
    by_cases e : x = z
    · rw [if_pos e, if_pos e, e]
      exact ⟨hk, hk2⟩
    · rw [if_neg e, if_neg e]
      obtain ⟨a1, -, -, -, a5⟩ := hx x x1 x2 e
      rw [a1, a5]
      exact ⟨(hM.1 x x1 x2).1, (hM.1 x x1 x2).2.2.1⟩
  have hV : VfA (G (k + 1 + 1)) (tkl G (k + 1)) := fun x x1 x2 e => by
    obtain ⟨q1, q2⟩ := hA2 x x1 x2
    rw [q1] at e
    rw [q2 e]
    exact ((hA' x x1 x2).2.1 e).1
  have hLk : LkR G (k + 7) := by
    have h := hC.2.2.2.1
    unfold LkR rg at h ⊢
    rw [hf (k + 7 + 2) (by omega) (by omega) (by omega) (by omega) (by omega), hf (k + 7 + 3) (by omega) (by omega) (by omega) (by omega) (by omega), hf (k + 7 + 4) (by omega) (by omega) (by omega) (by omega) (by omega), hf (k + 7 + 5) (by omega) (by omega) (by omega) (by omega) (by omega), hf (k + 7 + 6) (by omega) (by omega) (by omega) (by omega) (by omega), hf (k + 7 + 7) (by omega) (by omega) (by omega) (by omega) (by omega)]
    exact h
  obtain ⟨g', f1, ⟨f5, f6⟩, f2, f3, -, f4⟩ := c_computeFrom (X := X) (g := G) (D := d + 272) (c := z) hkS hG hV hLk hz.1 hz.2 hC.2.2.2.2 (fun x x1 x2 e => by
    obtain ⟨a1, a2, a3, a4, a5⟩ := hx x x1 x2 e
    exact ⟨a1, a5, a3, a2⟩) (fun e => by
    rw [hk] at e ⊢
    exact ⟨(hkn e).2, hk0⟩) (by omega)
  have ecn : cnF (G (k + 1 + 1)) (tkl G (k + 1)) z = chN A z kd nu tk := cnF_congr (fun x x1 x2 => ⟨(hA2 x x1 x2).1, fun e => (hA2 x x1 x2).2 (by rw [← (hA2 x x1 x2).1]; exact e)⟩)
  rw [ecn] at f4 f5 f6
  have hrow : ∀ h, h < k ∨ k + 15 < h → g' h = g h := fun h hh => (f1 h (by omega) (by omega) (by omega) (by omega) (by omega)).trans (hf h (by omega) (by omega) (by omega) (by omega) (by omega))
  refine ⟨g', hrow, CdI_calc (by omega) hrow f3 ⟨fun x x1 x2 => ?_, f5, ?_⟩ (shC_ok hA') hI, f4⟩
  · have r1 : g' (k + 1 + 1) = G (k + 1 + 1) := f1 _ (by omega) (by omega) (by omega) (by omega) (by omega)
    have r4 : g' (k + 1 + 4) = G (k + 1 + 4) := f1 _ (by omega) (by omega) (by omega) (by omega) (by omega)
    have rt : tkl g' (k + 1) = tkl G (k + 1) := tkl_congr r4 (f1 _ (by omega) (by omega) (by omega) (by omega) (by omega))
    obtain ⟨q1, q2⟩ := hA2 x x1 x2
    have q3 := f2 x x1 x2
    rw [r1, r4, rt]
    refine ⟨q1, fun e => ?_, q2, fun e => ?_⟩
    · have e' : (shP A z kd nu tk).1 x = 1 := e
      rw [q3 (by omega)]
      show G (k + 1 + 2) x = (shP A z kd nu tk).2.1 x
      unfold shP at e' ⊢
      dsimp only at e' ⊢
      by_cases ez : x = z
      · rw [if_pos ez] at e' ⊢
        rw [ez]
        exact hk1 e'
      · rw [if_neg ez] at e' ⊢
        rw [(hx x x1 x2 ez).2.1]
        exact (hM.1 x x1 x2).2.1 e'
    · have e' : ¬ (shP A z kd nu tk).1 x = 2 := e
      unfold shP at e'
      dsimp only at e'
      by_cases ez : x = z
      · rw [if_pos ez] at e'
        rw [ez]
        exact (hkn e').1
      · rw [if_neg ez] at e'
        rw [(hx x x1 x2 ez).2.2.2.1]
        exact (hM.1 x x1 x2).2.2.2 e'
  · rw [f6, hf (k + 1) (by omega) (by omega) (by omega) (by omega) (by omega), hM.2.2]
    rfl
end
