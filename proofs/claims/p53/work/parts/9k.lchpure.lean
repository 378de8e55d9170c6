/-! p53: what changes make of a sheet -/
section
variable {A : Sh} {f h : Int → Int}
theorem sumf_swap {q : Int → Int → Int} {m : Nat} : ∀ n : Nat, sumf (fun x => sumf (fun y => q x y) 0 m) 0 n = sumf (fun y => sumf (fun x => q x y) 0 n) 0 m
  | 0 => (sumf_zero m 0 (fun _ _ _ => rfl)).symm
  | n + 1 => by
    have ih := sumf_swap (q := q) (m := m) n
    have e1 : sumf (fun y => sumf (fun x => q x y) 0 (n + 1)) 0 m = sumf (fun y => sumf (fun x => q x y) 0 n + q n y) 0 m :=
      sumf_congr m 0 (fun y _ _ => by
        try dsimp only
        rw [sumf_snoc, Int.zero_add])
    rw [e1, sumf_plus, sumf_snoc, ih, Int.zero_add]
/-- cells that come from others: what is counted -/
theorem sumf_from {F : Int → Int} {s t : Int → Int} (h1 : ∀ x, 0 ≤ x → x < 200 → 0 ≤ s x → s x < 200 ∧ t (s x) = x) (h2 : ∀ y, 0 ≤ y → y < 200 → 0 ≤ t y → t y < 200 ∧ s (t y) = y) :
    sumf (fun x => if s x < 0 then 0 else F (s x)) 0 200 = sumf (fun y => if t y < 0 then 0 else F y) 0 200 := by
  have e1 : sumf (fun x => if s x < 0 then 0 else F (s x)) 0 200 = sumf (fun x => sumf (fun y => if s x = y then F y else 0) 0 200) 0 200 := by
    refine sumf_congr 200 0 (fun x x1 x2 => ?_)
    try dsimp only
    by_cases e : s x < 0
    · rw [if_pos e, sumf_zero 200 0 (fun y y1 y2 => if_neg (by omega))]
    · rw [if_neg e, sumf_one (x := s x) 200 0 (by omega) (by have := h1 x x1 (by omega) (by omega); omega) (fun j _ _ hj => if_neg (fun q => hj q.symm)), if_pos rfl]
  rw [e1, sumf_swap]
  refine sumf_congr 200 0 (fun y y1 y2 => ?_)
  try dsimp only
  by_cases e : t y < 0
  · rw [if_pos e]
    refine sumf_zero 200 0 (fun x x1 x2 => if_neg (fun q => ?_))
    have := (h1 x x1 (by omega) (by omega)).2
    rw [q] at this
    omega
  · obtain ⟨a1, a2⟩ := h2 y y1 (by omega) (by omega)
    rw [if_neg e, sumf_one (x := t y) 200 0 (by omega) (by omega) (fun x x1 x2 hx => if_neg (fun q => hx ?_)), if_pos a2]
    have := (h1 x x1 (by omega) (by omega)).2
    rw [q] at this
    exact this.symm
/-- a changed cell: how many are computed -/
theorem cnF_due {c : Int} (c1 : 0 ≤ c) (c2 : c < 200) : cnF A.1 A.2.2.1 c = sumf (ind (reA A c)) 0 200 + (if A.1 c = 2 ∧ ¬ reA A c c = true then 1 else 0) := by
  have e : cnF A.1 A.2.2.1 c = sumf (fun x => ind (reA A c) x + (if x = c then (if A.1 c = 2 ∧ ¬ reA A c c = true then 1 else 0) else 0)) 0 200 := by
    unfold cnF
    refine sumf_congr 200 0 (fun x x1 x2 => ?_)
    try dsimp only
    have hr : reA A c x = cb (Rc (UsE (FmA A.1) (RfA A.1 A.2.2.1)) c x) := rfl
    unfold ind
    by_cases e1 : reA A c x = true
    · have hk := (re_rng e1).2
      have e2 := cb_iff.mp e1
      rw [if_pos (cb_iff.mpr ⟨hk, .inl e2⟩), if_pos e1]
      by_cases ex : x = c
      · subst ex
        rw [if_pos rfl, if_neg (fun q => q.2 e1)]
        rfl
      · rw [if_neg ex]; rfl
    · rw [if_neg e1]
      by_cases ex : x = c
      · subst ex
        rw [if_pos rfl]
        by_cases hk : A.1 x = 2
        · rw [if_pos (cb_iff.mpr ⟨hk, .inr rfl⟩), if_pos ⟨hk, e1⟩]; rfl
        · rw [if_neg (fun q => hk (cb_iff.mp q).1), if_neg (fun q => hk q.1)]; rfl
      · rw [if_neg ex, if_neg (fun q => ?_)]
        · rfl
        · rcases (cb_iff.mp q).2 with w | w
          · exact e1 (cb_iff.mpr w)
          · exact ex w
  rw [e, sumf_plus, sumf_one (f := fun x => if x = c then (if A.1 c = 2 ∧ ¬ reA A c c = true then 1 else 0) else 0) (x := c) 200 0 c1 (by omega) (fun j _ _ hj => if_neg hj), if_pos rfl]
theorem ad_rng {c : Int} : 0 ≤ sumf (ind (reA A c)) 0 200 ∧ sumf (ind (reA A c)) 0 200 ≤ 200 := ind_rng _ 200 0
theorem cn_rng {K : Int → Int} {T : Int → List Int} {c : Int} : 0 ≤ cnF K T c ∧ cnF K T c ≤ 200 := ind_rng _ 200 0
/-- a cell that is no formula is no ring -/
theorem re_no {c : Int} (h : ¬ A.1 c = 2) : ¬ reA A c c = true := fun e => h (re_rng e).2
/-- how many are filled -/
theorem fil_upd {B : Sh} {c k : Int} (c1 : 0 ≤ c) (c2 : c < 200) (ho : ∀ x, ¬ x = c → B.1 x = A.1 x) (hc : B.1 c = k) : qFil B = qFil A - (if A.1 c = 0 then 0 else 1) + (if k = 0 then 0 else 1) := by
  refine sumf_upd (f := fun c => if A.1 c = 0 then 0 else 1) (f' := fun c => if B.1 c = 0 then 0 else 1) (c := c) 200 0 c1 (by omega) (fun j hj => ?_) ?_
  · (try dsimp only); rw [ho j hj]
  · (try dsimp only); rw [hc]
/-- what changes allow: the counts behind them -/
def chO (A B : Sh) : Prop := (0 ≤ B.2.2.2.1 ∧ B.2.2.2.1 ≤ 200) ∧ B.2.2.2.2 = A.2.2.2.2 + B.2.2.2.1
theorem chO_c {c kd nu : Int} {tk : List Int} : chO A (chS A c kd nu tk) := ⟨cn_rng, rfl⟩
theorem chO_m {c t : Int} : chO A (moS A c t) := ⟨ind_rng _ 200 0, rfl⟩
theorem chO_b {fi to h w : Int} : chO A (cbkS A fi to h w) := ⟨ind_rng _ 200 0, rfl⟩
theorem chO_l {b k i : Int} : chO A (liS A b k i) := ⟨ind_rng _ 200 0, rfl⟩
theorem chO_o {P : Pd} : chO A (ruS P A) := by
  refine ⟨ind_rng _ 200 0, ?_⟩
  show (orA (pdc P) P.1 60 0 A).1.2.2.2.2 + _ = A.2.2.2.2 + _
  rw [orA_all]
  rfl
/-! lines -/
theorem ln_rng {b c : Int} (hb : b = 0 ∨ b = 1) (c1 : 0 ≤ c) (c2 : c < 200) : 0 ≤ lnO b c ∧ lnO b c ≤ lnL b := by
  unfold lnO lnL
  rcases hb with rfl | rfl
  · rw [if_pos rfl, if_pos rfl]; omega
  · rw [if_neg (by decide), if_neg (by decide)]; omega
/-- where a cell goes -/
def lnG (b ln i y : Int) : Int := if lnO b y < ln then y else if i = 0 then (if lnO b y = ln then -1 else y - lnT b) else (if lnO b y = lnL b then -1 else y + lnT b)
theorem lnG_ok {b ln i : Int} (hb : b = 0 ∨ b = 1) (hl : 0 ≤ ln ∧ ln ≤ lnL b) (hi : i = 0 ∨ i = 1) :
    (∀ x, 0 ≤ x → x < 200 → 0 ≤ lnF b ln i x → lnF b ln i x < 200 ∧ lnG b ln i (lnF b ln i x) = x) ∧ (∀ y, 0 ≤ y → y < 200 → 0 ≤ lnG b ln i y → lnG b ln i y < 200 ∧ lnF b ln i (lnG b ln i y) = y) := by
  unfold lnF lnG lnO lnL lnT at *
  rcases hb with rfl | rfl
  · simp only [if_true] at *
    rcases hi with rfl | rfl
    · simp only [if_true] at *
      constructor
      · intro x x1 x2 h
        split at h <;> split <;> (try split at h) <;> (try split) <;> (try split) <;> omega
      · intro x x1 x2 h
        split at h <;> split <;> (try split at h) <;> (try split) <;> (try split) <;> omega
    · simp only [if_neg (show ¬ (1 : Int) = 0 by decide)] at *
      constructor
      · intro x x1 x2 h
        split at h <;> split <;> (try split at h) <;> (try split) <;> (try split) <;> omega
      · intro x x1 x2 h
        split at h <;> split <;> (try split at h) <;> (try split) <;> (try split) <;> omega
  · simp only [if_neg (show ¬ (1 : Int) = 0 by decide)] at *
    rcases hi with rfl | rfl
    · simp only [if_true] at *
      constructor
      · intro x x1 x2 h
        split at h <;> split <;> (try split at h) <;> (try split) <;> (try split) <;> omega
      · intro x x1 x2 h
        split at h <;> split <;> (try split at h) <;> (try split) <;> (try split) <;> omega
    · simp only [if_neg (show ¬ (1 : Int) = 0 by decide)] at *
      constructor
      · intro x x1 x2 h
        split at h <;> split <;> (try split at h) <;> (try split) <;> (try split) <;> omega
      · intro x x1 x2 h
        split at h <;> split <;> (try split at h) <;> (try split) <;> (try split) <;> omega
theorem li_k {b ln i x : Int} : (liS A b ln i).1 x = if lnF b ln i x < 0 then 0 else A.1 (lnF b ln i x) := rfl
theorem fil_li {b ln i : Int} (hb : b = 0 ∨ b = 1) (hl : 0 ≤ ln ∧ ln ≤ lnL b) (hi : i = 0 ∨ i = 1) : qFil (liS A b ln i) = sumf (fun y => if lnG b ln i y < 0 then 0 else (if A.1 y = 0 then 0 else 1)) 0 200 := by
  obtain ⟨h1, h2⟩ := lnG_ok hb hl hi
  rw [← sumf_from (F := fun y => if A.1 y = 0 then 0 else 1) h1 h2]
  refine sumf_congr 200 0 (fun x _ _ => ?_)
  try dsimp only
  rw [li_k]
  by_cases e : lnF b ln i x < 0
  · rw [if_pos e, if_pos e]; rfl
  · rw [if_neg e, if_neg e]
theorem fil_ins {b ln : Int} (hb : b = 0 ∨ b = 1) (hl : 0 ≤ ln ∧ ln ≤ lnL b) (he : fiN A.1 b (lnL b) (lnL b) = 0) : qFil (liS A b ln 1) = qFil A := by
  rw [fil_li hb hl (.inr rfl)]
  refine sumf_congr 200 0 (fun y y1 y2 => ?_)
  try dsimp only
  by_cases e : lnG b ln 1 y < 0
  · rw [if_pos e]
    have hz : lnO b y = lnL b := by
      unfold lnG at e
      split at e
      · omega
      · rw [if_neg (by decide)] at e
        split at e
        · assumption
        · have := lnT_pos (b := b); omega
    rw [if_pos (fiN_zero.mp he y y1 (by omega) (by omega) (by omega))]
  · rw [if_neg e]
theorem fil_del {b ln : Int} (hb : b = 0 ∨ b = 1) (hl : 0 ≤ ln ∧ ln ≤ lnL b) : qFil (liS A b ln 0) = qFil A - fiN A.1 b ln ln := by
  rw [fil_li hb hl (.inl rfl)]
  have e : sumf (fun y => if lnG b ln 0 y < 0 then 0 else (if A.1 y = 0 then 0 else 1)) 0 200 = sumf (fun y => (fun c => if A.1 c = 0 then 0 else 1) y - ind (fun x => cb ((ln ≤ lnO b x ∧ lnO b x ≤ ln) ∧ ¬ A.1 x = 0)) y) 0 200 := by
    refine sumf_congr 200 0 (fun y y1 y2 => ?_)
    try dsimp only
    have hr := ln_rng hb y1 (show y < 200 by omega)
    have ht := lnT_pos (b := b)
    unfold ind
    by_cases e1 : lnO b y = ln
    · have eg : lnG b ln 0 y < 0 := by
        unfold lnG
        rw [if_neg (by omega), if_pos rfl, if_pos e1]
        decide
      rw [if_pos eg]
      by_cases e0 : A.1 y = 0
      · rw [if_pos e0, if_neg (fun q => (cb_iff.mp q).2 e0)]; rfl
      · rw [if_neg e0, if_pos (cb_iff.mpr ⟨⟨by omega, by omega⟩, e0⟩)]; rfl
    · have eg : ¬ lnG b ln 0 y < 0 := by
        unfold lnG
        by_cases e2 : lnO b y < ln
        · rw [if_pos e2]; omega
        · rw [if_neg e2, if_pos rfl, if_neg e1]
          rcases hb with rfl | rfl
          · rw [show lnO 0 y = y % 10 from rfl] at e1 e2
            rw [show lnT 0 = 1 from rfl]
            omega
          · rw [show lnO 1 y = y / 10 from rfl] at e1 e2
            rw [show lnT 1 = 10 from rfl]
            omega
      have hI : ¬ cb ((ln ≤ lnO b y ∧ lnO b y ≤ ln) ∧ ¬ A.1 y = 0) = true := fun q => e1 (by have := (cb_iff.mp q).1; omega)
      rw [if_neg eg, if_neg hI]
      omega
  rw [e, sumf_sub]
  rfl
/-- an inserted line is empty -/
theorem ins_0 {b ln x : Int} (hl : 0 ≤ ln) (hx : lnO b x = ln) : (liS A b ln 1).1 x = 0 := by
  have eF : lnF b ln 1 x = -1 := by
    unfold lnF
    rw [if_neg (show ¬ lnO b x < ln by omega), if_neg (show ¬ (1 : Int) = 0 by decide), if_pos hx]
  rw [li_k, eF]
  rfl
theorem ins_tot {b ln : Int} (hS : SlF (liS A b ln 1)) (hl : 0 ≤ ln) : qTot (liS A b ln 1) b ln = 0 := by
  refine sumf_zero 200 0 (fun x x1 x2 => ?_)
  try dsimp only
  split
  · next e => exact vl_emp hS x1 (by omega) (ins_0 hl e.1)
  · rfl
/-! the law's own counts of lines -/
noncomputable def cLn (A : Sh) (b k : Int) (up : Bool) (x : Int) : Int := if (if up then k ≤ lnO b x else lnO b x = k) then (if A.1 x = 0 then 0 else 1) else 0
theorem cLn_up {b k : Int} (hb : b = 0 ∨ b = 1) : sumf (cLn A b k true) 0 200 = fiN A.1 b k (lnL b) := by
  unfold fiN
  refine sumf_congr 200 0 (fun x x1 x2 => ?_)
  have hr := ln_rng hb x1 (show x < 200 by omega)
  unfold cLn ind
  simp only [if_true]
  by_cases e1 : k ≤ lnO b x
  · by_cases e0 : A.1 x = 0
    · rw [if_pos e1, if_pos e0, if_neg (fun q => (cb_iff.mp q).2 e0)]
    · rw [if_pos e1, if_neg e0, if_pos (cb_iff.mpr ⟨⟨e1, hr.2⟩, e0⟩)]
  · rw [if_neg e1, if_neg (fun q => e1 (cb_iff.mp q).1.1)]
theorem cLn_at {b k : Int} : sumf (cLn A b k false) 0 200 = fiN A.1 b k k := by
  unfold fiN
  refine sumf_congr 200 0 (fun x x1 x2 => ?_)
  unfold cLn ind
  simp only [if_false, Bool.false_eq_true]
  by_cases e1 : lnO b x = k
  · by_cases e0 : A.1 x = 0
    · rw [if_pos e1, if_pos e0, if_neg (fun q => (cb_iff.mp q).2 e0)]
    · rw [if_pos e1, if_neg e0, if_pos (cb_iff.mpr ⟨⟨by omega, by omega⟩, e0⟩)]
  · rw [if_neg e1, if_neg (fun q => e1 (by have := (cb_iff.mp q).1; omega))]
theorem fiN_rng {K : Int → Int} {b a z : Int} : 0 ≤ fiN K b a z ∧ fiN K b a z ≤ 200 := ind_rng _ 200 0
/-! values of what is no formula -/
theorem vl_same {B : Sh} (hA : SlF A) (hB : SlF B) {x y : Int} (x1 : 0 ≤ x) (x2 : x < 200) (y1 : 0 ≤ y) (y2 : y < 200) (hk : ¬ A.1 x = 2) (e1 : B.1 y = A.1 x) (e2 : B.2.1 y = A.2.1 x) : vwF B y = vwF A x := by
  have hB2 : ¬ B.1 y = 2 := by rw [e1]; exact hk
  unfold vwF
  rw [if_pos (show 0 ≤ y ∧ y < 200 from ⟨y1, y2⟩), if_pos (show 0 ≤ x ∧ x < 200 from ⟨x1, x2⟩), sf_ne hB y1 y2 hB2, sf_ne hA x1 x2 hk, if_pos rfl, if_pos rfl, hB.2.2.2.2.2.2.2 y y1 y2 hB2, hA.2.2.2.2.2.2.2 x x1 x2 hk, e1, e2]
theorem vw_ti (oA : ShOK A) (hS : SlF A) {z : Int} (hz : 0 ≤ z ∧ z < 200) : ti (vwF A z) = vwF A z := by
  have := sf_rng oA hS hz.1 hz.2
  unfold vwF
  rw [if_pos hz]
  split
  · exact ti_eq (by omega) (by omega)
  · decide
end
