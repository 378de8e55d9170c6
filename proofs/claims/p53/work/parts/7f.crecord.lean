/-! The class: a state is recorded -/
section
variable {X : xX} {S : xLm} {g g' : xGm} {d c p k t o y b m : Nat} {w : xH} {Q : xO → xH → Prop} {P P' : Pd} {A A' : Sh} {sn : Option Sh} {H : List Sh}
theorem recH_at {i : Nat} {B : Sh} (h : (recH A H)[i]? = some B) : i < 4 ∧ ((i = 0 ∧ B = A) ∨ ∃ j, i = j + 1 ∧ H[j]? = some B) := by
  unfold recH at h
  rw [List.getElem?_take] at h
  split at h
  · next h4 =>
    refine ⟨h4, ?_⟩
    cases i with
    | zero => rw [List.getElem?_cons_zero] at h; injection h with h; exact .inl ⟨rfl, h.symm⟩
    | succ j => rw [List.getElem?_cons_succ] at h; exact .inr ⟨j, rfl, h⟩
  · cases h
theorem c_rec (hS : CsS S c p k t o y b m) (hI : CdI g c p k t o y P A sn H) :
    ∃ q : Nat, ∃ g', q < 4 ∧ (∀ h, h < y ∨ y + 25 < h → g' h = g h) ∧ CdI g' c p k t o y P A sn (recH A H) ∧ StE g (k + 1) g' (y + 2 + 6 * q) ∧ StI g' (y + 2 + 6 * q) ∧ ∀ Q, Cw X (d + 5) 90 [.ref y, .ref (k + 1)] (hp S g) Q = Q (.inl (some (.ref (y + 2 + 6 * q)))) (hp S g') := by
  obtain ⟨c0, ⟨hp0, hk0, ht0, ho0, hy0⟩, hL⟩ := hS
  obtain ⟨k0, kS, kL⟩ := id hk0
  obtain ⟨hP, ⟨hC, hM, hA⟩, hT, hSn, hHs, hHi, hn2, hlen, hall⟩ := id hI
  have hr := hC.1
  obtain ⟨i1, i2, i3⟩ := id hHs
  obtain ⟨q, hq⟩ : ∃ q : Nat, (g y 1 + 1) % 4 = q := ⟨((g y 1 + 1) % 4).toNat, by omega⟩
  have hq4 : q < 4 := by omega
  have hrec := fun Q => c_record (X := X) (d := d) (g := g) (Q := Q) hy0 hHs kS (by omega) (fun j _ _ => hr.2.2.2.1 j) rfl rfl hq
  obtain ⟨G, eG⟩ : ∃ G, G = gs (gB' (gs g y 1 q) (y + 2 + 6 * q) (k + 1)) y 2 (if 4 < g y 2 + 1 then 4 else g y 2 + 1) := ⟨_, rfl⟩
  rw [← eG] at hrec
  have ho : ∀ h, ¬ h = y → (h < y + 2 + 6 * q ∨ y + 2 + 6 * q + 5 < h) → G h = g h := fun h h1 h2 => by rw [eG, gs_row _ _ _ h1, gB'_row h2, gs_row _ _ _ h1]
  have hn : ∀ h, ¬ h = y → G h = gB' (gs g y 1 q) (y + 2 + 6 * q) (k + 1) h := fun h h1 => by rw [eG, gs_row _ _ _ h1]
  have hrow : ∀ h, h < y ∨ y + 25 < h → G h = g h := fun h hh => ho h (by omega) (by omega)
  have y1 : G y 1 = q := by rw [eG, gs_at, if_neg (by decide), gB'_row (by omega), gs_at, if_pos rfl]
  have y2 : G y 2 = if 4 < g y 2 + 1 then 4 else g y 2 + 1 := by rw [eG, gs_at, if_pos rfl]
  have rg0 : StI (gs g y 1 q) (k + 1) := StI_congr (fun j _ _ => gs_row _ _ _ (by omega)) hr
  have rgq : StI (gs g y 1 q) (y + 2 + 6 * q) := StI_congr (fun j _ _ => gs_row _ _ _ (by omega)) (hHi q hq4)
  have iG : StI G (y + 2 + 6 * q) := StI_congr (fun j _ _ => hn _ (by omega)) (gB'_StI rgq rg0)
  have eE : StE g (k + 1) G (y + 2 + 6 * q) := fun x x1 x2 => by
    have h := gB'_StE (b := y + 2 + 6 * q) rg0 x x1 x2
    rw [gs_row _ _ _ (show ¬ k + 1 + 1 = y by omega), gs_row _ _ _ (show ¬ k + 1 + 2 = y by omega), gs_row _ _ _ (show ¬ k + 1 + 3 = y by omega), tkl_congr (g := g) (g' := gs g y 1 q) (b := k + 1) (gs_row _ _ _ (by omega)) (gs_row _ _ _ (by omega))] at h
    rw [hn _ (by omega), hn _ (by omega), hn _ (by omega), tkl_congr (g := gB' (gs g y 1 q) (y + 2 + 6 * q) (k + 1)) (g' := G) (b := y + 2 + 6 * q) (hn _ (by omega)) (hn _ (by omega))]
    exact h
  have e5 : G (y + 2 + 6 * q) 5 = g (k + 1) 5 := by rw [hn _ (by omega), gB'_5, gs_row _ _ _ (by omega)]
  have e6 : G (y + 2 + 6 * q) 6 = g (k + 1) 6 := by rw [hn _ (by omega), gB'_6, gs_row _ _ _ (by omega)]
  refine ⟨q, G, hq4, hrow, ⟨PdC_congr (by rw [hrow p (by omega)]) (hrow _ (by omega)) hP, ⟨ClI_congr (fun j _ _ => hrow j (by omega)) hC, StA_congr (fun j _ => hrow _ (by omega)) hM, hA⟩, TrI_congr (fun j _ _ => hrow j (by omega)) hT, SnC_congr (by rw [hrow c (by omega)]) (fun j _ => hrow _ (by omega)) hSn, ⟨?_, ?_, ?_⟩, fun q' hq' => ?_, ?_, ?_, fun i B hB => ?_⟩, eE, iG, hrec⟩
  · intro q' hq'
    rw [ho (y + 1) (by omega) (by omega)]
    exact i1 q' hq'
  · rw [y1]; omega
  · rw [y2]; split <;> omega
  · by_cases e : q' = q
    · rw [e]; exact iG
    · exact StI_congr (fun j _ _ => ho _ (by omega) (by omega)) (hHi q' hq')
  · rw [y2, hn2]
    unfold recH
    rw [List.length_take, List.length_cons]
    split <;> omega
  · unfold recH
    rw [List.length_take]
    omega
  · obtain ⟨hi4, hh⟩ := recH_at hB
    rcases hh with ⟨rfl, rfl⟩ | ⟨j, rfl, hj⟩
    · exact ⟨hA, q, hq4, by rw [y1]; omega, StR_copy (StR_of hC) eE iG, StA_copy hM eE iG hr e5 e6⟩
    · obtain ⟨b1, q', b2, b3, b4, b5⟩ := hall j B hj
      have hne : ¬ q' = q := by omega
      exact ⟨b1, q', b2, by rw [y1]; omega, StR_congr (fun j _ => ho _ (by omega) (by omega)) b4, StA_congr (fun j _ => ho _ (by omega) (by omega)) b5⟩
end
