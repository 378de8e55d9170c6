/-! What a sheet answers: one solution, and it is the model's -/
section
/-- faults, values, order, how many are in it, chains, places -/
def SlR (A : Sh) (Er R r : Int → Int) (n : Int) (ln pl : Int → Int) : Prop := ∃ K : Int → Int, ∃ T : Int → List Int, (∀ c, 0 ≤ c → c < 200 → K c = A.1 c ∧ (A.1 c = 2 → T c = A.2.2.1 c)) ∧ Sol K T Er R r n ∧ ChS (RfA K T) r ln n ∧ (∀ i, 0 ≤ i → i < n → pl (r i) = i) ∧ (∀ c, 0 ≤ c → c < 200 → ¬ oin r n c → pl c = -1 ∧ ln c = 0) ∧ ∀ c, 0 ≤ c → c < 200 → ¬ A.1 c = 2 → R c = if A.1 c = 1 then A.2.1 c else 0
theorem Sol_uniq {A : Sh} (hA : ShOK A) {K K' Er R r Er' R' r' : Int → Int} {T T' : Int → List Int} {n n' : Int} (hK : ∀ c, 0 ≤ c → c < 200 → K c = A.1 c ∧ (A.1 c = 2 → T c = A.2.2.1 c)) (hK' : ∀ c, 0 ≤ c → c < 200 → K' c = A.1 c ∧ (A.1 c = 2 → T' c = A.2.2.1 c)) (h : Sol K T Er R r n) (h' : Sol K' T' Er' R' r' n') (hN : ∀ c, 0 ≤ c → c < 200 → A.1 c = 1 → R c = R' c) :
    n = n' ∧ (∀ i, 0 ≤ i → i < n → r i = r' i) ∧ (∀ c, 0 ≤ c → c < 200 → Er c = Er' c ∧ R c = R' c) ∧ ∀ c o, 0 ≤ c → c < 200 → (RfA K T c o ↔ RfA K' T' c o) := by
  obtain ⟨a1, a2, a3, a4⟩ := h
  obtain ⟨b1, b2, b3, b4⟩ := h'
  have eK : ∀ c, 0 ≤ c → c < 200 → K c = K' c := fun c c1 c2 => by rw [(hK c c1 c2).1, (hK' c c1 c2).1]
  have eT : ∀ c, 0 ≤ c → c < 200 → K c = 2 → T c = T' c := fun c c1 c2 k => by
    rw [(hK c c1 c2).1] at k
    rw [(hK c c1 c2).2 k, (hK' c c1 c2).2 k]
  have eR : ∀ c o, 0 ≤ c → c < 200 → (RfA K T c o ↔ RfA K' T' c o) := fun c o c1 c2 => by
    unfold RfA
    rw [← eK c c1 c2]
    constructor
    · rintro ⟨k, h⟩; rw [eT c c1 c2 k] at h; exact ⟨k, h⟩
    · rintro ⟨k, h⟩; rw [← eT c c1 c2 k] at h; exact ⟨k, h⟩
  obtain ⟨u1, u2⟩ := OdF_uniq (F := FmA K) (F' := FmA K') (R := RfA K T) (R' := RfA K' T') (fun c c1 c2 => by unfold FmA; rw [eK c c1 c2]) (fun c o c1 c2 _ _ => eR c o c1 c2) a1 a3 b1 b3 a2 b2
  refine ⟨u1, u2, ?_, eR⟩
  exact ResOK_uniq (F := FmA K) (Rf := RfA K T) a4 b4 eK eT (fun c c1 c2 k => hN c c1 c2 (by rw [← (hK c c1 c2).1]; exact k)) (fun c c1 c2 => by rw [(hK c c1 c2).1]; exact (hA c c1 c2).1) (fun c c1 c2 => by unfold FmA; exact decide_eq_true_iff) (fun c c1 c2 k => by
    rw [(hK c c1 c2).1] at k
    rw [(hK c c1 c2).2 k]
    exact ((hA c c1 c2).2.1 k).1) (fun c o c1 c2 _ _ k ht => ⟨k, ht⟩) a1 u1 u2
theorem SlR_uniq {A : Sh} (hA : ShOK A) {Er R r Er' R' r' ln pl ln' pl' : Int → Int} {n n' : Int} (h : SlR A Er R r n ln pl) (h' : SlR A Er' R' r' n' ln' pl') :
    n = n' ∧ (∀ i, 0 ≤ i → i < n → r i = r' i) ∧ ∀ c, 0 ≤ c → c < 200 → Er c = Er' c ∧ R c = R' c ∧ ln c = ln' c ∧ pl c = pl' c := by
  obtain ⟨K, T, hK, hs, hc, hp, hq, hv⟩ := h
  obtain ⟨K', T', hK', hs', hc', hp', hq', hv'⟩ := h'
  obtain ⟨u1, u2, u3, u4⟩ := Sol_uniq hA hK hK' hs hs' (fun c c1 c2 k => by rw [hv c c1 c2 (by omega), hv' c c1 c2 (by omega)])
  refine ⟨u1, u2, fun c c1 c2 => ⟨(u3 c c1 c2).1, (u3 c c1 c2).2, ?_⟩⟩
  subst u1
  by_cases ho : oin r n c
  · obtain ⟨i, i1, i2, rfl⟩ := ho
    have hrng : ∀ i, 0 ≤ i → i < n → 0 ≤ r i ∧ r i < 200 := fun i i1 i2 => by
      have := hs.1 i i1 i2
      have h2 := low_spec (p := fun c => cb ((FmA K) c = true ∧ ¬ oin r i c ∧ ∀ o, 0 ≤ o → o < 200 → (FmA K) o = true → RfA K T c o → oin r i o)) 200 0
      refine ⟨this.2, ?_⟩
      rw [this.1]
      unfold onx
      omega
    have := ChS_uniq (R := RfA K T) (R' := RfA K' T') u2 (fun i q i1 i2 q1 q2 => by
      exact u4 _ _ (hrng i i1 i2).1 (hrng i i1 i2).2) hc hc'
    refine ⟨this i i1 i2, ?_⟩
    rw [hp i i1 i2, u2 i i1 i2, hp' i i1 i2]
  · have ho' : ¬ oin r' n c := fun e => ho ((oin_congr u2).mpr e)
    rw [(hq c c1 c2 ho).1, (hq c c1 c2 ho).2, (hq' c c1 c2 ho').1, (hq' c c1 c2 ho').2]
    exact ⟨rfl, rfl⟩
abbrev Sx := (Int → Int) × (Int → Int) × (Int → Int) × Int × (Int → Int) × (Int → Int)
noncomputable def slA (A : Sh) : Sx := @dite Sx (∃ s : Sx, SlR A s.1 s.2.1 s.2.2.1 s.2.2.2.1 s.2.2.2.2.1 s.2.2.2.2.2) (Classical.propDecidable _) (fun h => Classical.choose h) (fun _ => (fun _ => 0, fun _ => 0, fun _ => 0, 0, fun _ => 0, fun _ => 0))
noncomputable def flA (A : Sh) : Int → Int := (slA A).1
noncomputable def vlA (A : Sh) : Int → Int := (slA A).2.1
noncomputable def odA (A : Sh) : Int → Int := (slA A).2.2.1
noncomputable def onA (A : Sh) : Int := (slA A).2.2.2.1
noncomputable def lnA (A : Sh) : Int → Int := (slA A).2.2.2.2.1
noncomputable def plA (A : Sh) : Int → Int := (slA A).2.2.2.2.2
/-- the abstract answers are this solution -/
def SlE (A : Sh) (Er R r : Int → Int) (n : Int) (ln pl : Int → Int) : Prop := n = onA A ∧ (∀ i, 0 ≤ i → i < n → r i = odA A i) ∧ ∀ c, 0 ≤ c → c < 200 → Er c = flA A c ∧ R c = vlA A c ∧ ln c = lnA A c ∧ pl c = plA A c
theorem SlR_slA {A : Sh} {Er R r : Int → Int} {n : Int} {ln pl : Int → Int} (h : SlR A Er R r n ln pl) : SlR A (flA A) (vlA A) (odA A) (onA A) (lnA A) (plA A) := by
  have he : ∃ s : Sx, SlR A s.1 s.2.1 s.2.2.1 s.2.2.2.1 s.2.2.2.2.1 s.2.2.2.2.2 := ⟨(Er, R, r, n, ln, pl), h⟩
  unfold flA vlA odA onA lnA plA slA
  rw [dif_pos he]
  exact Classical.choose_spec he
theorem SlR_E {A : Sh} (hA : ShOK A) {Er R r : Int → Int} {n : Int} {ln pl : Int → Int} (h : SlR A Er R r n ln pl) : SlE A Er R r n ln pl := SlR_uniq hA h (SlR_slA h)
theorem MoI_slR {g : xGm} {m : Nat} {A : Sh} (h : MoI g m A.2.2.1) (hM : ShM (g (m + 1)) A) : SlR A (g (m + 13)) (g (m + 12)) (g (m + 18)) (g m 30) (g (m + 20)) (g (m + 19)) := by
  obtain ⟨-, -, h3, h4, h5, -, h7⟩ := h
  refine ⟨g (m + 1), A.2.2.1, fun c c1 c2 => ⟨(hM.2 c c1 c2).1, fun _ => rfl⟩, h3, h4, h5.1, h5.2, fun c c1 c2 hk => ?_⟩
  obtain ⟨e1, e2, -⟩ := hM.2 c c1 c2
  rw [h7 c c1 c2 (by rw [e1]; exact hk)]
  unfold nvM
  rw [e1]
  split
  · next k => rw [e2 k]
  · rfl
theorem MdI_slE {g : xGm} {m : Nat} {P : Pd} {A : Sh} {sn : Option Sh} {H : List Sh} (h : MdI g m P A sn H) : SlE A (g (m + 13)) (g (m + 12)) (g (m + 18)) (g m 30) (g (m + 20)) (g (m + 19)) := SlR_E h.2.1.2.2 (MoI_slR h.2.1.1 h.2.1.2.1)
theorem MdI_sl {g : xGm} {m : Nat} {P : Pd} {A : Sh} {sn : Option Sh} {H : List Sh} (h : MdI g m P A sn H) : SlR A (flA A) (vlA A) (odA A) (onA A) (lnA A) (plA A) := SlR_slA (MoI_slR h.2.1.1 h.2.1.2.1)
/-- which cells refer to which -/
noncomputable def rfQ (A : Sh) (c o : Int) : Bool := cb (RfA A.1 A.2.2.1 c o)
theorem MdI_rf {g : xGm} {m : Nat} {P : Pd} {A : Sh} {sn : Option Sh} {H : List Sh} (h : MdI g m P A sn H) {c o : Int} (c1 : 0 ≤ c) (c2 : c < 200) (o1 : 0 ≤ o) (o2 : o < 200) : bt (g (m + 8)) c o = rfQ A c o := bool_ext (by
  unfold rfQ
  rw [cb_iff, h.2.1.1.2.2.2.2.2.1 c o c1 c2 o1 (by omega)]
  unfold RfA
  rw [(h.2.1.2.1.2 c c1 c2).1])
end
