/-! p53: the law between its calls -/
section
variable {X : xX} {S S' S1 : xLm} {g g' g1 : xGm} {cap cap' cap1 n n1 n2 M D M1 D1 pc pc' d : Nat} {L L' : xL} {st st' As As1 : List Value} {out out1 : xO} {P P1 P2 : Pd} {A A1 A2 : Sh} {sn sn1 sn2 : Option Sh} {H H1 H2 : List Sh}
/-- the law's heap: the class at 0, its text at 71 -/
def LI (S : xLm) (g : xGm) (cap : Nat) (P : Pd) (A : Sh) (sn : Option Sh) (H : List Sh) : Prop := CsS S 0 1 7 23 39 45 71 73 ∧ TxC S g 71 73 cap ∧ CdI g 0 1 7 23 39 45 P A sn H
/-- what was made, beside the text's room -/
def Co (S S' : xLm) (cap cap' n : Nat) : Prop := cap ≤ cap' ∧ S'.2.2.1 + cap ≤ S.2.2.1 + 2 * n + cap' ∧ S'.2.2.2 + 2 * cap ≤ S.2.2.2 + 20 * n + 2 * cap'
theorem Co_refl : Co S S cap cap 0 := ⟨Nat.le_refl _, by omega, by omega⟩
theorem Co_trans (h1 : Co S S1 cap cap1 n1) (h2 : Co S1 S' cap1 cap' n2) : Co S S' cap cap' (n1 + n2) := by
  obtain ⟨a1, a2, a3⟩ := h1
  obtain ⟨b1, b2, b3⟩ := h2
  exact ⟨by omega, by omega, by omega⟩
theorem Co_le (h : Co S S' cap cap' n1) (hn : n1 ≤ n2) : Co S S' cap cap' n2 := by
  obtain ⟨a1, a2, a3⟩ := h
  exact ⟨by omega, by omega, by omega⟩
theorem LI_c (h : LI S g cap P A sn H) : S.1 0 = .inr (10, [some (.ref 1), some (.ref 7), some (.ref 23), some (.ref 39), none, some (.ref 45), some (.ref 71)]) := h.1.1
theorem LI_x (h : LI S g cap P A sn H) : xcls (S.1 0) = some 10 := by rw [LI_c h]; rfl
theorem LI_ok (h : LI S g cap P A sn H) : ShOK A := h.2.2.2.1.2.2
theorem LI_sl (h : LI S g cap P A sn H) : SlR A (flA A) (vlA A) (odA A) (onA A) (lnA A) (plA A) := CdI_sl h.2.2
theorem LI_sf (h : LI S g cap P A sn H) : SlF A := SlF_of (LI_ok h) (LI_sl h)
theorem LI_m (h : LI S g cap P A sn H) : 73 ≤ S.2.1 := by have := h.1.2.2; omega
theorem LI_t (h : LI S g cap P A sn H) : TxI S g 71 73 := ⟨cap, h.2.1⟩
theorem LI_tmp (X : xX) (h : LI S g cap P A sn H) {z kd v : Int} (hz : 0 ≤ z ∧ z < 200) (hk : kd = 0 ∨ kd = 1) (hv : -999999 ≤ v ∧ v ≤ 999999) (h0 : kd = 0 → v = 0) : SlR (tmpA A z kd v) (flA (tmpA A z kd v)) (vlA (tmpA A z kd v)) (odA (tmpA A z kd v)) (onA (tmpA A z kd v)) (lnA (tmpA A z kd v)) (plA (tmpA A z kd v)) := tmp_sl X h.1 h.2.2 hz hk hv h0
/-- a call ends with this, the class holding that -/
def LC (X : xX) (S : xLm) (g : xGm) (cap M D : Nat) (As : List Value) (out : xO) (P' : Pd) (A' : Sh) (sn' : Option Sh) (H' : List Sh) (n : Nat) : Prop := ∃ S' g' cap', LI S' g' cap' P' A' sn' H' ∧ Co S S' cap cap' n ∧ ∀ Q, Cw X D M As (hp S g) Q = Q out (hp S' g')
/-- a method ends so from a place of it -/
def LW (X : xX) (S : xLm) (g : xGm) (cap M D pc : Nat) (L : xL) (st : List Value) (out : xO) (P' : Pd) (A' : Sh) (sn' : Option Sh) (H' : List Sh) (n : Nat) : Prop := ∃ S' g' cap', LI S' g' cap' P' A' sn' H' ∧ Co S S' cap cap' n ∧ ∀ Q, Wx X D M pc L st (hp S g) Q = Q out (hp S' g')
theorem lc_C (h : LI S g cap P A sn H) (hc : CRs X S g 0 1 7 23 39 45 71 73 M D As out P1 A1 sn1 H1) : LC X S g cap M D As out P1 A1 sn1 H1 1 := by
  obtain ⟨S', g', e, -, te, i, k⟩ := hc
  obtain ⟨cap', t1, t2, t3, t4⟩ := te cap h.2.1
  have hm := LI_m h
  have hx := xcst_le (M := M) (out := out)
  exact ⟨S', g', cap', ⟨CsS_ext h.1 (fun x hx => e.1 x (by omega) (by omega)) e.2.1, t2, i⟩, ⟨t1, by omega, by omega⟩, k⟩
theorem lc_0 (h : LI S g cap P A sn H) (hc : CRs X S g 0 1 7 23 39 45 71 73 M D As out P1 A1 sn1 H1) (hx : xcst M out = 0 := by rfl) : LC X S g cap M D As out P1 A1 sn1 H1 0 := by
  obtain ⟨S', g', e, -, te, i, k⟩ := hc
  obtain ⟨cap', t1, t2, t3, t4⟩ := te cap h.2.1
  have hm := LI_m h
  exact ⟨S', g', cap', ⟨CsS_ext h.1 (fun x hx => e.1 x (by omega) (by omega)) e.2.1, t2, i⟩, ⟨t1, by omega, by omega⟩, k⟩
theorem LC_of (he : ∀ Q, Cw X D M As (hp S g) Q = Wx X D M pc L st (hp S g) Q) (h : LW X S g cap M D pc L st out P A sn H n) : LC X S g cap M D As out P A sn H n := by
  obtain ⟨S', g', cap', i, c, k⟩ := h
  exact ⟨S', g', cap', i, c, fun Q => (he Q).trans (k Q)⟩
theorem LC_le (h : LC X S g cap M D As out P A sn H n1) (hn : n1 ≤ n2) : LC X S g cap M D As out P A sn H n2 := by
  obtain ⟨S', g', cap', i, c, k⟩ := h
  exact ⟨S', g', cap', i, Co_le c hn, k⟩
theorem LW_le (h : LW X S g cap M D pc L st out P A sn H n1) (hn : n1 ≤ n2) : LW X S g cap M D pc L st out P A sn H n2 := by
  obtain ⟨S', g', cap', i, c, k⟩ := h
  exact ⟨S', g', cap', i, Co_le c hn, k⟩
/-- some steps -/
theorem LW_st (he : ∀ Q, Wx X D M pc L st (hp S g) Q = Wx X D M pc' L' st' (hp S g) Q) (h : LW X S g cap M D pc' L' st' out P A sn H n) : LW X S g cap M D pc L st out P A sn H n := by
  obtain ⟨S', g', cap', i, c, k⟩ := h
  exact ⟨S', g', cap', i, c, fun Q => (he Q).trans (k Q)⟩
/-- the end -/
theorem LW_end (hI : LI S g cap P A sn H) (he : ∀ Q, Wx X D M pc L st (hp S g) Q = Q out (hp S g)) : LW X S g cap M D pc L st out P A sn H 0 := ⟨S, g, cap, hI, Co_refl, he⟩
/-- steps to a call, the call, steps behind it -/
theorem LW_c (hc : LC X S g cap M1 D1 As1 out1 P1 A1 sn1 H1 n1)
    (he : ∀ S1 g1, (∀ Q, Cw X D1 M1 As1 (hp S g) Q = Q out1 (hp S1 g1)) → ∀ Q, Wx X D M pc L st (hp S g) Q = Wx X D M pc' L' st' (hp S1 g1) Q)
    (hk : ∀ S1 g1 cap1, LI S1 g1 cap1 P1 A1 sn1 H1 → LW X S1 g1 cap1 M D pc' L' st' out P2 A2 sn2 H2 n2) : LW X S g cap M D pc L st out P2 A2 sn2 H2 (n1 + n2) := by
  obtain ⟨S1, g1, cap1, i1, c1, k1⟩ := hc
  obtain ⟨S', g', cap', i, c, k⟩ := hk S1 g1 cap1 i1
  exact ⟨S', g', cap', i, Co_trans c1 c, fun Q => (he S1 g1 k1 Q).trans (k Q)⟩
/-- steps to a call, the call, steps to the end -/
theorem LW_ce (hc : LC X S g cap M1 D1 As1 out1 P1 A1 sn1 H1 n1)
    (he : ∀ S1 g1, (∀ Q, Cw X D1 M1 As1 (hp S g) Q = Q out1 (hp S1 g1)) → ∀ Q, Wx X D M pc L st (hp S g) Q = Q out (hp S1 g1)) : LW X S g cap M D pc L st out P1 A1 sn1 H1 n1 := by
  obtain ⟨S1, g1, cap1, i1, c1, k1⟩ := hc
  exact ⟨S1, g1, cap1, i1, c1, fun Q => he S1 g1 k1 Q⟩
/-- the same call, known to answer an equal value -/
theorem LC_eq (h : LC X S g cap M D As out P A sn H n) (e : out = out1) : LC X S g cap M D As out1 P A sn H n := e ▸ h
end
