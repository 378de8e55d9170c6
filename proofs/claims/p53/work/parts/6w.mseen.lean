/-! rows of whole that the class needs (written by wip/p53/extract.py) -/
section
/-- faults, values, order, how many are in it, chains, places -/
def SlR (A : Sh) (Er R r : Int → Int) (n : Int) (ln pl : Int → Int) : Prop := ∃ K : Int → Int, ∃ T : Int → List Int, (∀ c, 0 ≤ c → c < 200 → K c = A.1 c ∧ (A.1 c = 2 → T c = A.2.2.1 c)) ∧ Sol K T Er R r n ∧ ChS (RfA K T) r ln n ∧ (∀ i, 0 ≤ i → i < n → pl (r i) = i) ∧ (∀ c, 0 ≤ c → c < 200 → ¬ oin r n c → pl c = -1 ∧ ln c = 0) ∧ ∀ c, 0 ≤ c → c < 200 → ¬ A.1 c = 2 → R c = if A.1 c = 1 then A.2.1 c else 0
theorem Sol_uniq {A : Sh} (hA : ShOK A) {K K' Er R r Er' R' r' : Int → Int} {T T' : Int → List Int} {n n' : Int} (hK : ∀ c, 0 ≤ c → c < 200 → K c = A.1 c ∧ (A.1 c = 2 → T c = A.2.2.1 c)) (hK' : ∀ c, 0 ≤ c → c < 200 → K' c = A.1 c ∧ (A.1 c = 2 → T' c = A.2.2.1 c)) (h : Sol K T Er R r n) (h' : Sol K' T' Er' R' r' n') (hN : ∀ c, 0 ≤ c → c < 200 → A.1 c = 1 → R c = R' c) :
    n = n' ∧ (∀ i, 0 ≤ i → i < n → r i = r' i) ∧ (∀ c, 0 ≤ c → c < 200 → Er c = Er' c ∧ R c = R' c) ∧ ∀ c o, 0 ≤ c → c < 200 → (RfA K T c o ↔ RfA K' T' c o) := by
  obtain ⟨a1, a2, a3, a4⟩ := h
  obtain ⟨b1, b2, b3, b4⟩ := h'
  have eK : ∀ c, 0 ≤ c → c < 200 → K c = K' c := fun c c1 c2 => by rw [(hK c c1 c2).1, (hK' c c1 c2).1]
  have eT : ∀ c, 0 ≤ c → c < 200 → K c = 2 → T c = T' c := fun c c1 c2 k => by
    rw [(hK c c1 c2).1] at k
    rw [(hK c c1 c2).2 k, (hK' c c1 c2).2 k]
  have eR : ∀ c o, 0 ≤ c → c < 200 → (RfA K T c o ↔ RfA K' T' c o) := fun c o c1 c2 => by
    unfold RfA
    rw [← eK c c1 c2]
    constructor
    · rintro ⟨k, h⟩; rw [eT c c1 c2 k] at h; exact ⟨k, h⟩
    · rintro ⟨k, h⟩; rw [← eT c c1 c2 k] at h; exact ⟨k, h⟩
  obtain ⟨u1, u2⟩ := OdF_uniq (F := FmA K) (F' := FmA K') (R := RfA K T) (R' := RfA K' T') (fun c c1 c2 => by unfold FmA; rw [eK c c1 c2]) (fun c o c1 c2 _ _ => eR c o c1 c2) a1 a3 b1 b3 a2 b2
  refine ⟨u1, u2, ?_, eR⟩
  exact ResOK_uniq (F := FmA K) (Rf := RfA K T) a4 b4 eK eT (fun c c1 c2 k => hN c c1 c2 (by rw [← (hK c c1 c2).1]; exact k)) (fun c c1 c2 => by rw [(hK c c1 c2).1]; exact (hA c c1 c2).1) (fun c c1 c2 => by unfold FmA; exact decide_eq_true_iff) (fun c c1 c2 k => by
    rw [(hK c c1 c2).1] at k
    rw [(hK c c1 c2).2 k]
    exact ((hA c c1 c2).2.1 k).1) (fun c o c1 c2 _ _ k ht => ⟨k, ht⟩) a1 u1 u2
abbrev Sx := (Int → Int) × (Int → Int) × (Int → Int) × Int × (Int → Int) × (Int → Int)
noncomputable def slA (A : Sh) : Sx := @dite Sx (∃ s : Sx, SlR A s.1 s.2.1 s.2.2.1 s.2.2.2.1 s.2.2.2.2.1 s.2.2.2.2.2) (Classical.propDecidable _) (fun h => Classical.choose h) (fun _ => (fun _ => 0, fun _ => 0, fun _ => 0, 0, fun _ => 0, fun _ => 0))
noncomputable def flA (A : Sh) : Int → Int := (slA A).1
noncomputable def vlA (A : Sh) : Int → Int := (slA A).2.1
noncomputable def odA (A : Sh) : Int → Int := (slA A).2.2.1
noncomputable def onA (A : Sh) : Int := (slA A).2.2.2.1
noncomputable def lnA (A : Sh) : Int → Int := (slA A).2.2.2.2.1
noncomputable def plA (A : Sh) : Int → Int := (slA A).2.2.2.2.2
theorem SlR_slA {A : Sh} {Er R r : Int → Int} {n : Int} {ln pl : Int → Int} (h : SlR A Er R r n ln pl) : SlR A (flA A) (vlA A) (odA A) (onA A) (lnA A) (plA A) := by
  have he : ∃ s : Sx, SlR A s.1 s.2.1 s.2.2.1 s.2.2.2.1 s.2.2.2.2.1 s.2.2.2.2.2 := ⟨(Er, R, r, n, ln, pl), h⟩
  unfold flA vlA odA onA lnA plA slA
  rw [dif_pos he]
  exact Classical.choose_spec he
/-- which cells refer to which -/
noncomputable def rfQ (A : Sh) (c o : Int) : Bool := cb (RfA A.1 A.2.2.1 c o)
end
