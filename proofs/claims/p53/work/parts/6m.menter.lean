/-! rows of whole that the class needs (written by wip/p53/extract.py) -/
section
theorem cnF_congr {K K' : Int → Int} {T T' : Int → List Int} {f : Int} (hK : ∀ c, 0 ≤ c → c < 200 → K c = K' c ∧ (K c = 2 → T c = T' c)) : cnF K T f = cnF K' T' f := by
  have hU : ∀ b c, UsE (FmA K) (RfA K T) b c ↔ UsE (FmA K') (RfA K' T') b c := fun b c => by
    unfold UsE FmA RfA
    constructor
    · rintro ⟨a1, a2, a3, a4, a5, a6, a7⟩
      obtain ⟨k1, k2⟩ := hK c a3 a4
      refine ⟨a1, a2, a3, a4, ?_, ?_, ?_⟩
      · rw [← k1]; exact a5
      · rw [← k1]; exact a6
      · rw [← k2 a6]; exact a7
    · rintro ⟨a1, a2, a3, a4, a5, a6, a7⟩
      obtain ⟨k1, k2⟩ := hK c a3 a4
      refine ⟨a1, a2, a3, a4, ?_, ?_, ?_⟩
      · rw [k1]; exact a5
      · rw [k1]; exact a6
      · rw [k2 (k1.trans a6)]; exact a7
  unfold cnF
  refine sumf_congr 200 0 (fun x x1 x2 => ?_)
  have hx : (K x = 2 ∧ (Rc (UsE (FmA K) (RfA K T)) f x ∨ x = f)) ↔ (K' x = 2 ∧ (Rc (UsE (FmA K') (RfA K' T')) f x ∨ x = f)) := by
    rw [(hK x x1 (by omega)).1, Rc_congr hU x]
  unfold ind
  by_cases e : K x = 2 ∧ (Rc (UsE (FmA K) (RfA K T)) f x ∨ x = f)
  · rw [if_pos (cb_iff.mpr e), if_pos (cb_iff.mpr (hx.mp e))]
  · rw [if_neg (fun h => e (cb_iff.mp h)), if_neg (fun h => e (hx.mpr (cb_iff.mp h)))]
theorem cnA_congr {K K' : Int → Int} (hK : ∀ c, 0 ≤ c → c < 200 → K c = K' c) : cnA K = cnA K' := by
  unfold cnA
  refine sumf_congr 200 0 (fun x x1 x2 => ?_)
  unfold ind FmA
  rw [hK x x1 (by omega)]
/-- counts behind a change -/
def shC (A : Sh) (n : Int) : Sh := (A.1, A.2.1, A.2.2.1, n, A.2.2.2.2 + n)
theorem shC_ok {A : Sh} {n : Int} (h : ShOK A) : ShOK (shC A n) := h
def recH (A : Sh) (H : List Sh) : List Sh := (A :: H).take 4
variable {X : xX} {S : xLm} {g : xGm} {d m : Nat} {w : xH} {Q : xO → xH → Prop} {P : Pd} {A : Sh} {sn : Option Sh} {H : List Sh}
/-- what a change of a cell makes of the sheet -/
noncomputable def chS (A : Sh) (c kd nu : Int) (tk : List Int) : Sh := shC (shP A c kd nu tk) (cnF (shP A c kd nu tk).1 (shP A c kd nu tk).2.2.1 c)
noncomputable def chN (A : Sh) (c kd nu : Int) (tk : List Int) : Int := cnF (shP A c kd nu tk).1 (shP A c kd nu tk).2.2.1 c
theorem ctF_nu {ch : Int → Int} {en a a' kd nu : Int} {tk : List Int} (h : ctF ch en a = .inr (a', kd, nu, tk)) : -999999 ≤ nu ∧ nu ≤ 999999 := by
  obtain ⟨b, v, hb, hvv, e0⟩ := ctF_eq ch en a
  rw [e0] at h
  split at h
  · generalize cnT ch en 61 0 [(7, 1, 0)] [] (a + 1) = r at h
    cases r with
    | inl x => cases h
    | inr x =>
      obtain ⟨b, tk1⟩ := x
      injection h with h; injection h with h1 h2; injection h2 with h2 h3; injection h3 with h3 h4
      omega
  split at h
  · injection h with h; injection h with h1 h2; injection h2 with h2 h3; injection h3 with h3 h4
    omega
  split at h
  · cases h
  split at h
  · have hv := nuF_v (ch := ch) (a := a + b)
    injection h with h; injection h with h1 h2; injection h2 with h2 h3; injection h3 with h3 h4
    omega
  · cases h
/-- a content that the pad has is in its bounds -/
theorem pad_ok {P : Pd} {a en kd nu : Int} {tk : List Int} (h : ctF (pdc P) en 0 = .inr (a, kd, nu, tk)) (hl : (mks tk).length ≤ 60) : (kd = 0 ∨ kd = 1 ∨ kd = 2) ∧ (kd = 2 → (∃ v : Ev, ∃ r n, Tr 0 r n tk v) ∧ (mks tk).length ≤ 60) ∧ (kd = 1 → -999999 ≤ nu ∧ nu ≤ 999999) := by
  rcases ctF_tree h with ⟨h1, h2⟩ | ⟨h1, -, h3, h4, -⟩
  · exact ⟨.inr (.inr h1), fun _ => ⟨h2, hl⟩, fun e => by omega⟩
  · exact ⟨by omega, fun e => by omega, fun _ => ⟨h3, h4⟩⟩
end
