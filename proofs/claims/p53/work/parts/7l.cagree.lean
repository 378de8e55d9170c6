/-! Class and model: small agreements; a sheet computed whole -/
section
variable {X : xX} {S : xLm} {g g' : xGm} {d c p k t o y b m : Nat} {w : xH} {Q : xO → xH → Prop} {P P' : Pd} {A A' B : Sh} {sn : Option Sh} {H : List Sh}
theorem flN_eq : flN A.1 = qFil A := sumf_not (p := fun c => A.1 c = 0) 200 0
theorem mk1_lenA (x : Int) : 1 ≤ (mk1 x).length := by
  unfold mk1
  repeat' split
  all_goals simp
theorem mks_lenA : ∀ (L : List Int), L.length ≤ (mks L).length
  | [] => Nat.le_refl _
  | x :: L => by
    rw [mks_cons, List.length_append, List.length_cons]
    have h1 := mk1_lenA x
    have h2 := mks_lenA L
    omega
/-- the whole sheet is computed -/
theorem c_chgAllC {G : xGm} (hS : CsS S c p k t o y b m) (hI : CdI g c p k t o y P A sn H) (hA' : ShOK A')
    (hf : ∀ h, ¬ h = k + 1 + 1 → ¬ h = k + 1 + 2 → ¬ h = k + 1 + 3 → ¬ h = k + 1 + 4 → ¬ h = k + 1 + 5 → G h = g h) (hG : StI G (k + 1))
    (hM' : ∀ x, 0 ≤ x → x < 200 → G (k + 1 + 1) x = A'.1 x ∧ (A'.1 x = 1 → G (k + 1 + 2) x = A'.2.1 x) ∧ (A'.1 x = 2 → tkl G (k + 1) x = A'.2.2.1 x) ∧ (¬ A'.1 x = 2 → G (k + 1 + 4) x = 0))
    (hE : ∀ x, 0 ≤ x → x < 200 → ¬ A'.1 x = 2 → G (k + 1 + 3) x = 0 ∧ (A'.1 x = 0 → G (k + 1 + 2) x = 0)) (hall : A'.2.2.2.2 = A.2.2.2.2) :
    ∃ g', (∀ h, h < k ∨ k + 15 < h → g' h = g h) ∧ CdI g' c p k t o y P (shC A' (cnA A'.1)) sn H ∧ ∀ Q, Cw X (d + 272) 83 [.ref k] (hp S G) Q = Q (.inl (some (.int (iI (cnA A'.1))))) (hp S g') := by
  obtain ⟨c0, ⟨hp0, hkS, ht0, ho0, hy0⟩, hL⟩ := hS
  obtain ⟨hP, ⟨hC, hM, hA⟩, hT, hSn, hH⟩ := id hI
  have hV : VfA (G (k + 1 + 1)) (tkl G (k + 1)) := fun x x1 x2 e => by
    obtain ⟨q1, -, q2, -⟩ := hM' x x1 x2
    rw [q1] at e
    rw [q2 e]
    exact ((hA' x x1 x2).2.1 e).1
  have hLk : LkR G (k + 7) := by
    have h := hC.2.2.2.1
    unfold LkR rg at h ⊢
    rw [hf (k + 7 + 2) (by omega) (by omega) (by omega) (by omega) (by omega), hf (k + 7 + 3) (by omega) (by omega) (by omega) (by omega) (by omega), hf (k + 7 + 4) (by omega) (by omega) (by omega) (by omega) (by omega), hf (k + 7 + 5) (by omega) (by omega) (by omega) (by omega) (by omega), hf (k + 7 + 6) (by omega) (by omega) (by omega) (by omega) (by omega), hf (k + 7 + 7) (by omega) (by omega) (by omega) (by omega) (by omega)]
    exact h
  obtain ⟨g', f1, ⟨f5, f6⟩, f2, f3, f4⟩ := c_computeAll (X := X) (g := G) (D := d + 272) hkS hG hV hLk (fun x x1 x2 e => by
    rw [(hM' x x1 x2).1] at e ⊢
    exact hE x x1 x2 e) (by omega)
  have ecn : cnA (G (k + 1 + 1)) = cnA A'.1 := cnA_congr (fun x x1 x2 => (hM' x x1 x2).1)
  rw [ecn] at f4 f5 f6
  have hrow : ∀ h, h < k ∨ k + 15 < h → g' h = g h := fun h hh => (f1 h (by omega) (by omega) (by omega) (by omega) (by omega)).trans (hf h (by omega) (by omega) (by omega) (by omega) (by omega))
  refine ⟨g', hrow, CdI_calc (by omega) hrow f3 ⟨fun x x1 x2 => ?_, f5, ?_⟩ (shC_ok hA') hI, f4⟩
  · have r1 : g' (k + 1 + 1) = G (k + 1 + 1) := f1 _ (by omega) (by omega) (by omega) (by omega) (by omega)
    have r4 : g' (k + 1 + 4) = G (k + 1 + 4) := f1 _ (by omega) (by omega) (by omega) (by omega) (by omega)
    have rt : tkl g' (k + 1) = tkl G (k + 1) := tkl_congr r4 (f1 _ (by omega) (by omega) (by omega) (by omega) (by omega))
    obtain ⟨q1, q2, q3, q4⟩ := hM' x x1 x2
    have q5 := f2 x x1 x2
    rw [r1, r4, rt]
    refine ⟨q1, fun e => ?_, q3, q4⟩
    have e' : A'.1 x = 1 := e
    rw [q5 (by omega)]
    exact q2 e'
  · rw [f6, hf (k + 1) (by omega) (by omega) (by omega) (by omega) (by omega), hM.2.2, ← hall]
    rfl
end
