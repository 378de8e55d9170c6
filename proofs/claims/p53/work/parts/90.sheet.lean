/-! p53: what a sheet's solution says -/
section
variable {A B : Sh} {P : Pd} {sn : Option Sh} {H : List Sh}
/-! no error 5 where none is referred to -/
theorem bnd_n5 {a : Int × Int} {f : Int → Int × Int} (h : ¬ a.1 = 5) (hf : ∀ x, ¬ (f x).1 = 5) : ¬ (bnd a f).1 = 5 := by
  unfold bnd
  split
  · exact hf _
  · exact h
theorem lim_n5 (z : Int) : ¬ (lim z).1 = 5 := by
  unfold lim
  split
  · exact show ¬ (0 : Int) = 5 by decide
  · exact show ¬ (2 : Int) = 5 by decide
theorem jn_n5 (w acc v : Int) : ¬ (jn w acc v).1 = 5 := by
  unfold jn
  split
  · exact lim_n5 _
  · split
    · exact show ¬ (0 : Int) = 5 by decide
    · split
      · exact show ¬ (0 : Int) = 5 by decide
      · exact show ¬ (0 : Int) = 5 by decide
theorem opv_n5 (op x y : Int) : ¬ (opv op x y).1 = 5 := by
  unfold opv
  split
  · exact lim_n5 _
  · split
    · exact lim_n5 _
    · split
      · exact lim_n5 _
      · split
        · split
          · exact show ¬ (1 : Int) = 5 by decide
          · exact show ¬ (0 : Int) = 5 by decide
        · split
          · exact show ¬ (0 : Int) = 5 by decide
          · split
            · exact show ¬ (0 : Int) = 5 by decide
            · exact show ¬ (0 : Int) = 5 by decide
theorem rowv_n5 {K Er R : Int → Int} (hE : ∀ o, ¬ Er o = 5) {w : Int} : ∀ (m : Nat) (c acc : Int), ¬ (rowv K Er R w m c acc).1 = 5 := by
  intro m
  induction m with
  | zero => intro c acc; exact show ¬ (0 : Int) = 5 by decide
  | succ m ih =>
    intro c acc
    rw [rowv]
    refine bnd_n5 ?_ (fun x => ih _ _)
    split
    · exact show ¬ (0 : Int) = 5 by decide
    · split
      · exact jn_n5 _ _ _
      · split
        · exact jn_n5 _ _ _
        · exact hE c
theorem rowsv_n5 {K Er R : Int → Int} (hE : ∀ o, ¬ Er o = 5) {w : Int} {m : Nat} : ∀ (n : Nat) (c acc : Int), ¬ (rowsv K Er R w m n c acc).1 = 5 := by
  intro n
  induction n with
  | zero => intro c acc; exact show ¬ (0 : Int) = 5 by decide
  | succ n ih =>
    intro c acc
    rw [rowsv]
    exact bnd_n5 (rowv_n5 hE _ _ _) (fun x => ih _ _)
theorem Tr_n5 {K Er R : Int → Int} (hE : ∀ o, ¬ Er o = 5) : ∀ s r n L v, Tr s r n L v → ∀ w acc, ¬ (v K Er R w acc).1 = 5 := by
  refine Tr_ind (P := fun _ _ _ _ v => ∀ w acc, ¬ (v K Er R w acc).1 = 5) ?_ ?_ ?_ ?_ ?_ ?_ ?_ ?_ ?_ ?_ ?_
  · intro t _ w acc
    unfold vLeaf
    split
    · exact show ¬ (0 : Int) = 5 by decide
    · split
      · split
        · exact show ¬ (0 : Int) = 5 by decide
        · exact hE _
      · exact show ¬ (3 : Int) = 5 by decide
  · exact fun r n L v _ h => h
  · intro r n L v _ h w acc
    exact bnd_n5 (h _ _) (fun x => show ¬ (0 : Int) = 5 by decide)
  · intro r n L v r1 n1 L1 v1 r2 n2 L2 v2 _ _ _ h h1 h2 w acc
    refine bnd_n5 (h _ _) (fun x => ?_)
    split
    · exact h2 _ _
    · exact h1 _ _
  · intro w r n L v _ _ _ h w' acc
    refine bnd_n5 (h _ _) (fun z => ?_)
    split
    · exact show ¬ (4 : Int) = 5 by decide
    · exact show ¬ (0 : Int) = 5 by decide
  · intro r n L v _ h _ w acc
    exact bnd_n5 (h _ _) (fun x => show ¬ (0 : Int) = 5 by decide)
  · intro op r n L v r1 n1 L1 v1 _ _ _ h h1 _ _ _ w acc
    exact bnd_n5 (h _ _) (fun x => bnd_n5 (h1 _ _) (fun y => opv_n5 _ _ _))
  · intro r n L v _ h w acc
    exact bnd_n5 (h _ _) (fun x => jn_n5 _ _ _)
  · intro t _ w acc
    exact rowsv_n5 hE _ _ _
  · exact fun r n L v _ h => h
  · intro r n L v r1 n1 L1 v1 _ _ h h1 w acc
    exact bnd_n5 (h _ _) (fun z => h1 _ _)
theorem evT_n5 {L : List Int} {K Er R : Int → Int} (h : ∃ v : Ev, ∃ r n, Tr 0 r n L v) (hl : ∀ o, 0 ≤ o → o < 200 → (∃ t ∈ L, rfT t o) → ¬ Er o = 5) : ¬ (evT L K Er R 0 0).1 = 5 := by
  rw [evT_loc (K' := K) (Er' := fun o => if Er o = 5 then 0 else Er o) (R' := R) h (fun o o1 o2 ho => ⟨rfl, (if_neg (hl o o1 o2 ho)).symm, rfl⟩)]
  obtain ⟨r, n, hT⟩ := evT_spec h
  refine Tr_n5 (fun o => ?_) 0 r n L _ hT 0 0
  split
  · decide
  · next e => exact e
/-! the solution in the sheet's own words -/
def SlA (A : Sh) : Prop := SlR A (flA A) (vlA A) (odA A) (onA A) (lnA A) (plA A)
/-- a cell is in the order -/
def plc (A : Sh) (c : Int) : Prop := oin (odA A) (onA A) c
def RfS (A : Sh) : Int → Int → Prop := RfA A.1 A.2.2.1
def SlF (A : Sh) : Prop :=
  OdF (FmA A.1) (RfS A) (odA A) (onA A) ∧ 0 ≤ onA A ∧ onx (FmA A.1) (RfS A) (odA A) (onA A) < 0 ∧ ResOK A.1 A.2.2.1 (flA A) (vlA A) (odA A) (onA A) ∧ ChS (RfS A) (odA A) (lnA A) (onA A) ∧ (∀ i, 0 ≤ i → i < onA A → plA A (odA A i) = i) ∧ (∀ c, 0 ≤ c → c < 200 → ¬ plc A c → plA A c = -1 ∧ lnA A c = 0) ∧ ∀ c, 0 ≤ c → c < 200 → ¬ A.1 c = 2 → vlA A c = if A.1 c = 1 then A.2.1 c else 0
theorem SlF_of (hA : ShOK A) (h : SlA A) : SlF A := by
  obtain ⟨K, T, hK, ⟨s1, s2, s3, s4⟩, hch, hp1, hp2, hv⟩ := h
  have hF : ∀ c, 0 ≤ c → c < 200 → FmA K c = FmA A.1 c := fun c c1 c2 => by unfold FmA; rw [(hK c c1 c2).1]
  have hR : ∀ c o, 0 ≤ c → c < 200 → (RfA K T c o ↔ RfS A c o) := fun c o c1 c2 => by
    unfold RfS RfA
    rw [(hK c c1 c2).1]
    constructor
    · rintro ⟨e, ht⟩; rw [(hK c c1 c2).2 e] at ht; exact ⟨e, ht⟩
    · rintro ⟨e, ht⟩; rw [← (hK c c1 c2).2 e] at ht; exact ⟨e, ht⟩
  have hon : ∀ n, onx (FmA K) (RfA K T) (odA A) n = onx (FmA A.1) (RfS A) (odA A) n := fun n => onx_congr hF (fun c o c1 c2 _ _ => hR c o c1 c2) (fun i _ _ => rfl)
  refine ⟨fun i i1 i2 => by rw [← hon i]; exact s1 i i1 i2, s2, by rw [← hon]; exact s3, fun c c1 c2 => ?_, fun i i1 i2 => ?_, hp1, hp2, hv⟩
  · obtain ⟨r1, r2, r3, r4⟩ := s4 c c1 c2
    rw [(hK c c1 c2).1] at r1 r2 r3 r4
    refine ⟨fun e ho => ?_, r2, r3, r4⟩
    have hT := ((hA c c1 c2).2.1 e).1
    have he : evT (T c) K (flA A) (vlA A) 0 0 = evT (A.2.2.1 c) A.1 (flA A) (vlA A) 0 0 := by
      rw [(hK c c1 c2).2 e]
      exact evT_loc hT (fun o o1 o2 _ => ⟨(hK o o1 o2).1, rfl, rfl⟩)
    rw [← he]
    exact r1 e ho
  · obtain ⟨a1, a2, -⟩ := OdF_at s1 i1 i2
    obtain ⟨b1, b2, b3, b4⟩ := hch i i1 i2
    refine ⟨b1, b2, ?_, fun q q1 q2 hq => b4 q q1 q2 ((hR _ _ a1 a2).mpr hq)⟩
    rcases b3 with e | ⟨q, q1, q2, q3, q4⟩
    · exact .inl e
    · exact .inr ⟨q, q1, q2, (hR _ _ a1 a2).mp q3, q4⟩
theorem FmA_t {K : Int → Int} {c : Int} : FmA K c = true ↔ K c = 2 := by unfold FmA; exact decide_eq_true_iff
/-- a placed cell is a formula, refers to earlier formulas alone -/
theorem sf_at (h : SlF A) {i : Int} (i1 : 0 ≤ i) (i2 : i < onA A) : (0 ≤ odA A i ∧ odA A i < 200) ∧ A.1 (odA A i) = 2 ∧ ∀ o, 0 ≤ o → o < 200 → A.1 o = 2 → RfS A (odA A i) o → ∃ j, 0 ≤ j ∧ j < i ∧ odA A j = o := by
  obtain ⟨a1, a2, a3, -, a5⟩ := OdF_at h.1 i1 i2
  exact ⟨⟨a1, a2⟩, FmA_t.mp a3, fun o o1 o2 ho hr => a5 o o1 o2 (FmA_t.mpr ho) hr⟩
theorem sf_pl (h : SlF A) {c : Int} (hp : plc A c) : (0 ≤ c ∧ c < 200) ∧ A.1 c = 2 ∧ (0 ≤ plA A c ∧ plA A c < onA A ∧ odA A (plA A c) = c) ∧ ∀ o, 0 ≤ o → o < 200 → A.1 o = 2 → RfS A c o → plc A o ∧ plA A o < plA A c := by
  obtain ⟨i, i1, i2, rfl⟩ := hp
  obtain ⟨a1, a2, a3⟩ := sf_at h i1 i2
  have e := h.2.2.2.2.2.1 i i1 i2
  refine ⟨a1, a2, by rw [e]; exact ⟨i1, i2, rfl⟩, fun o o1 o2 ho hr => ?_⟩
  obtain ⟨j, j1, j2, rfl⟩ := a3 o o1 o2 ho hr
  have e2 := h.2.2.2.2.2.1 j j1 (by omega)
  exact ⟨⟨j, j1, by omega, rfl⟩, by omega⟩
/-- a formula that isn't placed refers to one that isn't -/
theorem sf_un (h : SlF A) {c : Int} (c1 : 0 ≤ c) (c2 : c < 200) (hk : A.1 c = 2) (hp : ¬ plc A c) : ∃ o, 0 ≤ o ∧ o < 200 ∧ A.1 o = 2 ∧ RfS A c o ∧ ¬ plc A o := by
  refine Classical.byContradiction fun hn => hp ?_
  refine placed_in h.2.2.1 c1 c2 (FmA_t.mpr hk) (fun o o1 o2 ho hr => ?_)
  refine Classical.byContradiction fun ho2 => hn ⟨o, o1, o2, FmA_t.mp ho, hr, ho2⟩
theorem sf_ne (h : SlF A) {c : Int} (c1 : 0 ≤ c) (c2 : c < 200) (hk : ¬ A.1 c = 2) : flA A c = 0 := (h.2.2.2.1 c c1 c2).2.2.1 hk
theorem sf_cyc (h : SlF A) {c : Int} (c1 : 0 ≤ c) (c2 : c < 200) (hk : A.1 c = 2) (hp : ¬ plc A c) : flA A c = 5 ∧ vlA A c = 0 := (h.2.2.2.1 c c1 c2).2.1 hk hp
theorem sf_ev (h : SlF A) {c : Int} (c1 : 0 ≤ c) (c2 : c < 200) (hk : A.1 c = 2) (hp : plc A c) : flA A c = (evT (A.2.2.1 c) A.1 (flA A) (vlA A) 0 0).1 ∧ vlA A c = (evT (A.2.2.1 c) A.1 (flA A) (vlA A) 0 0).2 := (h.2.2.2.1 c c1 c2).1 hk hp
/-- in the order: no error 5 -/
theorem sf_n5 (hA : ShOK A) (h : SlF A) : ∀ (n : Nat) (c : Int), plc A c → plA A c < n → ¬ flA A c = 5 := by
  intro n
  induction n with
  | zero => intro c hp hn; have := (sf_pl h hp).2.2.1.1; omega
  | succ n ih =>
    intro c hp hn
    obtain ⟨⟨c1, c2⟩, hk, -, hr⟩ := sf_pl h hp
    rw [(sf_ev h c1 c2 hk hp).1]
    refine evT_n5 ((hA c c1 c2).2.1 hk).1 (fun o o1 o2 ho => ?_)
    by_cases h2 : A.1 o = 2
    · obtain ⟨q1, q2⟩ := hr o o1 o2 h2 ⟨hk, ho⟩
      exact ih o q1 (by omega)
    · rw [sf_ne h o1 o2 h2]; decide
theorem sf_5 (hA : ShOK A) (h : SlF A) {c : Int} (c1 : 0 ≤ c) (c2 : c < 200) : flA A c = 5 ↔ A.1 c = 2 ∧ ¬ plc A c := by
  constructor
  · intro e
    by_cases hk : A.1 c = 2
    · exact ⟨hk, fun hp => sf_n5 hA h ((plA A c).toNat + 1) c hp (by omega) e⟩
    · rw [sf_ne h c1 c2 hk] at e; exact absurd e (by decide)
  · rintro ⟨hk, hp⟩
    exact (sf_cyc h c1 c2 hk hp).1
/-- errors and values are in their ranges -/
theorem sf_okE (hA : ShOK A) (h : SlF A) : ∀ (n : Nat) (c : Int), 0 ≤ c → c < 200 → (plc A c → plA A c < n) → (flA A c = 0 ∧ -999999999 ≤ vlA A c ∧ vlA A c ≤ 999999999) ∨ (1 ≤ flA A c ∧ flA A c ≤ 5 ∧ vlA A c = 0) := by
  intro n
  induction n with
  | zero =>
    intro c c1 c2 hn
    by_cases hk : A.1 c = 2
    · by_cases hp : plc A c
      · have := (sf_pl h hp).2.2.1.1; have := hn hp; omega
      · have := sf_cyc h c1 c2 hk hp; omega
    · have e := h.2.2.2.2.2.2.2 c c1 c2 hk
      refine .inl ⟨sf_ne h c1 c2 hk, ?_⟩
      rw [e]
      split
      · next h1 => have := (hA c c1 c2).2.2 h1; omega
      · decide
  | succ n ih =>
    intro c c1 c2 hn
    by_cases hk : A.1 c = 2
    · by_cases hp : plc A c
      · obtain ⟨-, -, -, hr⟩ := sf_pl h hp
        have hT := ((hA c c1 c2).2.1 hk).1
        have he : evT (A.2.2.1 c) A.1 (flA A) (vlA A) 0 0 = evT (A.2.2.1 c) A.1 (fun o => @ite _ (0 ≤ o ∧ o < 200 ∧ (plc A o → plA A o < n)) (Classical.propDecidable _) (flA A o) 0) (fun o => @ite _ (0 ≤ o ∧ o < 200 ∧ (plc A o → plA A o < n)) (Classical.propDecidable _) (vlA A o) 0) 0 0 := by
          refine evT_loc hT (fun o o1 o2 ho => ?_)
          have hb : 0 ≤ o ∧ o < 200 ∧ (plc A o → plA A o < n) := ⟨o1, o2, fun hpo => by
            have := (hr o o1 o2 (sf_pl h hpo).2.1 ⟨hk, ho⟩).2
            have := hn hp
            omega⟩
          exact ⟨rfl, (if_pos hb).symm, (if_pos hb).symm⟩
        have hl : (A.2.2.1 c).length ≤ 60 := by
          have h1 := ((hA c c1 c2).2.1 hk).2
          have h2 := mks_len (A.2.2.1 c)
          omega
        have hg := evT_good (L := A.2.2.1 c) (K := A.1) (Er := fun o => @ite _ (0 ≤ o ∧ o < 200 ∧ (plc A o → plA A o < n)) (Classical.propDecidable _) (flA A o) 0) (R := fun o => @ite _ (0 ≤ o ∧ o < 200 ∧ (plc A o → plA A o < n)) (Classical.propDecidable _) (vlA A o) 0) (fun o => by
          dsimp only
          by_cases hb : 0 ≤ o ∧ o < 200 ∧ (plc A o → plA A o < n)
          · rw [if_pos hb, if_pos hb]
            have := ih o hb.1 hb.2.1 hb.2.2
            omega
          · rw [if_neg hb, if_neg hb]
            exact .inl ⟨rfl, by decide, by decide⟩) hT hl
        rw [← he] at hg
        obtain ⟨e1, e2⟩ := sf_ev h c1 c2 hk hp
        unfold goodV at hg
        rw [← e1, ← e2] at hg
        exact hg
      · have := sf_cyc h c1 c2 hk hp; omega
    · have e := h.2.2.2.2.2.2.2 c c1 c2 hk
      refine .inl ⟨sf_ne h c1 c2 hk, ?_⟩
      rw [e]
      split
      · next h1 => have := (hA c c1 c2).2.2 h1; omega
      · decide
theorem sf_rng (hA : ShOK A) (h : SlF A) {c : Int} (c1 : 0 ≤ c) (c2 : c < 200) : (flA A c = 0 ∧ -999999999 ≤ vlA A c ∧ vlA A c ≤ 999999999) ∨ (1 ≤ flA A c ∧ flA A c ≤ 5 ∧ vlA A c = 0) :=
  sf_okE hA h ((plA A c).toNat + 1) c c1 c2 (fun _ => by omega)
/-- as many are placed as there are formulas without error 5 -/
theorem sf_cnt (hA : ShOK A) (h : SlF A) : sumf (ind (fun c => decide (A.1 c = 2 ∧ ¬ flA A c = 5))) 0 200 = onA A := by
  have h1 := OdF_cnt (onA A).toNat (by rw [Int.toNat_of_nonneg h.2.1]; exact h.1)
  rw [Int.toNat_of_nonneg h.2.1] at h1
  rw [← h1]
  refine sumf_congr 200 0 (fun j j1 j2 => ?_)
  unfold ind
  have hi : (fun c => decide (A.1 c = 2 ∧ ¬ flA A c = 5)) j = (fun c => cb (oin (odA A) (onA A) c)) j := by
    refine bool_ext ?_
    dsimp only
    rw [decide_eq_true_iff, cb_iff]
    constructor
    · rintro ⟨k1, k2⟩
      refine Classical.byContradiction fun hn => k2 ((sf_5 hA h j1 (by omega)).mpr ⟨k1, hn⟩)
    · intro hp
      exact ⟨(sf_pl h hp).2.1, fun e => ((sf_5 hA h j1 (by omega)).mp e).2 hp⟩
  rw [hi]
end
