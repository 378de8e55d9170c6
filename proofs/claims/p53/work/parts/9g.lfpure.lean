/-! p53: what a formula refers to, one by one -/
section
variable {A : Sh} {c k l w ch : Int} {p : Int → Bool} {few : Prop}
theorem nth_at : ∀ (m : Nat) (a c : Int), a ≤ k → k < a + sumf (ind p) c m → ∃ j : Nat, j < m ∧ nth p k a c m = c + j ∧ p (c + j) = true ∧ a + sumf (ind p) c j = k
  | 0, a, c, h1, h2 => by
    have : sumf (ind p) c 0 = 0 := rfl
    omega
  | m + 1, a, c, h1, h2 => by
    have e0 : sumf (ind p) c (m + 1) = ind p c + sumf (ind p) (c + 1) m := rfl
    have es : ∀ j : Nat, sumf (ind p) c (j + 1) = ind p c + sumf (ind p) (c + 1) j := fun j => rfl
    rw [nth]
    by_cases e : p c = true
    · have ei : ind p c = 1 := by unfold ind; rw [if_pos e]
      rw [if_pos e]
      by_cases ea : a = k
      · rw [if_pos ea]
        exact ⟨0, by omega, by omega, by rw [show c + ((0 : Nat) : Int) = c by omega]; exact e, by show a + 0 = k; omega⟩
      · rw [if_neg ea]
        obtain ⟨j, j1, j2, j3, j4⟩ := nth_at m (a + 1) (c + 1) (by omega) (by omega)
        have hc : c + 1 + (j : Int) = c + ((j + 1 : Nat) : Int) := by omega
        exact ⟨j + 1, by omega, by rw [j2, hc], by rw [← hc]; exact j3, by rw [es j]; omega⟩
    · have ei : ind p c = 0 := by unfold ind; rw [if_neg e]
      rw [if_neg e]
      obtain ⟨j, j1, j2, j3, j4⟩ := nth_at m a (c + 1) h1 (by omega)
      have hc : c + 1 + (j : Int) = c + ((j + 1 : Nat) : Int) := by omega
      exact ⟨j + 1, by omega, by rw [j2, hc], by rw [← hc]; exact j3, by rw [es j]; omega⟩
theorem ind_none {a : Int} {m : Nat} (h : sumf (ind p) a m = 0) {j : Int} (h1 : a ≤ j) (h2 : j < a + m) : ¬ p j = true := by
  rw [(ind_zero m a).mp h j h1 h2]
  decide
theorem rfQ_t {o : Int} : rfQ A c o = true ↔ RfS A c o := cb_iff
theorem lnA_rng (oA : ShOK A) (h : SlF A) {o : Int} (hp : plc A o) : 1 ≤ lnA A o ∧ lnA A o ≤ 200 := by
  obtain ⟨i, i1, i2, rfl⟩ := hp
  obtain ⟨a1, a2, -⟩ := h.2.2.2.2.1 i i1 i2
  have e := sf_cnt oA h
  have := (ind_rng (fun c => decide (A.1 c = 2 ∧ ¬ flA A c = 5)) 200 0).2
  omega
theorem onA_rng (oA : ShOK A) (h : SlF A) : 0 ≤ onA A ∧ onA A ≤ 200 := by
  have e := sf_cnt oA h
  have := ind_rng (fun c => decide (A.1 c = 2 ∧ ¬ flA A c = 5)) 200 0
  omega
theorem plA_rng (oA : ShOK A) (h : SlF A) (c1 : 0 ≤ c) (c2 : c < 200) : -1 ≤ plA A c ∧ plA A c < 200 := by
  have := onA_rng oA h
  by_cases hp : plc A c
  · have := (sf_pl h hp).2.2.1; omega
  · have := (h.2.2.2.2.2.2.1 c c1 c2 hp).1; omega
/-- a formula in the order, no error 5 -/
abbrev ford (A : Sh) (o : Int) : Prop := A.1 o = 2 ∧ ¬ flA A o = 5
/-- the formula's references up to l are seen -/
def FoI (A : Sh) (c k l w ch : Int) (few : Prop) : Prop :=
  (-1 ≤ l ∧ l < 200) ∧ sumf (ind (rfQ A c)) 0 (l + 1).toNat = k ∧ (w = 1 ∨ w = 0) ∧ (w = 1 ↔ reA A c c = true ∨ ∃ o, 0 ≤ o ∧ o ≤ l ∧ RfS A c o ∧ flA A o = 5) ∧ (0 ≤ ch ∧ ch ≤ 200) ∧
  (few → (∀ o, 0 ≤ o → o ≤ l → RfS A c o → ford A o → lnA A o ≤ ch) ∧ (ch = 0 ∨ ∃ o, 0 ≤ o ∧ o ≤ l ∧ RfS A c o ∧ ford A o ∧ lnA A o = ch))
theorem fo_0 : FoI A c 0 (-1) (if reA A c c = true then 1 else 0) 0 few := by
  refine ⟨by decide, rfl, ?_, ?_, by decide, fun _ => ⟨fun o o1 o2 => by omega, .inl rfl⟩⟩
  · split
    · exact .inl rfl
    · exact .inr rfl
  · constructor
    · intro h
      split at h
      · next e => exact .inl e
      · exact absurd h (by decide)
    · rintro (e | ⟨o, o1, o2, -⟩)
      · rw [if_pos e]
      · omega
theorem fo_next (h : FoI A c k l w ch few) (hk : k < rcA A c) : ∃ j, nth (rfQ A c) k 0 0 200 = j ∧ (0 ≤ j ∧ j < 200) ∧ l < j ∧ RfS A c j ∧
    ∀ w' ch', (w' = 1 ∨ w' = 0) → (w' = 1 ↔ w = 1 ∨ flA A j = 5) → (0 ≤ ch' ∧ ch' ≤ 200) → (few → ford A j → lnA A j ≤ ch' ∧ ch ≤ ch' ∧ (ch' = ch ∨ ch' = lnA A j)) → (few → ¬ ford A j → ch' = ch) → FoI A c (k + 1) j w' ch' few := by
  obtain ⟨⟨l1, l2⟩, hs, hw, hww, hch, hc⟩ := h
  have hr := ind_rng (rfQ A c) (l + 1).toNat 0
  obtain ⟨j, j1, j2, j3, j4⟩ := nth_at (p := rfQ A c) (k := k) 200 0 0 (by omega) (by rw [Int.zero_add]; exact hk)
  rw [Int.zero_add] at j2 j3 j4
  have hlj : l < j := by
    refine Int.not_le.mp fun hn => ?_
    have e1 : (l + 1).toNat = (j + 1) + ((l + 1).toNat - (j + 1)) := by omega
    have e2 := sumf_add (ind (rfQ A c)) (j + 1) ((l + 1).toNat - (j + 1)) 0
    have e3 := sumf_snoc (ind (rfQ A c)) j 0
    have e4 := ind_rng (rfQ A c) ((l + 1).toNat - (j + 1)) (0 + ((j + 1 : Nat) : Int))
    rw [← e1, e3, Int.zero_add] at e2
    have e5 : ind (rfQ A c) (j : Int) = 1 := by unfold ind; rw [if_pos j3]
    omega
  have hgap : sumf (ind (rfQ A c)) (l + 1) (j - (l + 1).toNat) = 0 := by
    have e1 : j = (l + 1).toNat + (j - (l + 1).toNat) := by omega
    have e2 := sumf_add (ind (rfQ A c)) (l + 1).toNat (j - (l + 1).toNat) 0
    rw [← e1, hs, j4, show (0 : Int) + ((l + 1).toNat : Int) = l + 1 by omega] at e2
    omega
  have hnew : ∀ o, 0 ≤ o → o ≤ (j : Int) → RfS A c o → o ≤ l ∨ o = j := fun o o1 o2 ho => by
    by_cases e : o ≤ l
    · exact .inl e
    · by_cases e2 : o = j
      · exact .inr e2
      · exact absurd (rfQ_t.mpr ho) (ind_none hgap (by omega) (by omega))
  refine ⟨j, j2, by omega, hlj, rfQ_t.mp j3, fun w' ch' a1 a2 a3 a4 a5 => ⟨by omega, ?_, a1, ?_, a3, fun hf => ⟨fun o o1 o2 ho hfo => ?_, ?_⟩⟩⟩
  · rw [show ((j : Int) + 1).toNat = j + 1 by omega, sumf_snoc, j4, Int.zero_add]
    unfold ind
    rw [if_pos j3]
  · rw [a2, hww]
    constructor
    · rintro ((e | ⟨o, o1, o2, o3, o4⟩) | e)
      · exact .inl e
      · exact .inr ⟨o, o1, by omega, o3, o4⟩
      · exact .inr ⟨j, by omega, by omega, rfQ_t.mp j3, e⟩
    · rintro (e | ⟨o, o1, o2, o3, o4⟩)
      · exact .inl (.inl e)
      · rcases hnew o o1 o2 o3 with e | e
        · exact .inl (.inr ⟨o, o1, e, o3, o4⟩)
        · rw [e] at o4; exact .inr o4
  · rcases hnew o o1 o2 ho with e | e
    · have b1 := (hc hf).1 o o1 e ho hfo
      by_cases ej : ford A j
      · have := (a4 hf ej).2.1; omega
      · have := a5 hf ej; omega
    · rw [e] at hfo ⊢
      exact (a4 hf hfo).1
  · by_cases ej : ford A j
    · rcases (a4 hf ej).2.2 with e | e
      · rcases (hc hf).2 with b | ⟨o, o1, o2, o3, o4, o5⟩
        · exact .inl (by omega)
        · exact .inr ⟨o, o1, by omega, o3, o4, by omega⟩
      · exact .inr ⟨j, by omega, by omega, rfQ_t.mp j3, ej, e.symm⟩
    · have e := a5 hf ej
      rcases (hc hf).2 with b | ⟨o, o1, o2, o3, o4, o5⟩
      · exact .inl (by omega)
      · exact .inr ⟨o, o1, by omega, o3, o4, by omega⟩
theorem fo_all (h : FoI A c (rcA A c) l w ch few) {o : Int} (o1 : 0 ≤ o) (o2 : o < 200) (ho : RfS A c o) : o ≤ l := by
  obtain ⟨⟨l1, l2⟩, hs, -⟩ := h
  refine Int.not_lt.mp fun hn => ?_
  have e1 : 200 = (l + 1).toNat + (200 - (l + 1).toNat) := by omega
  have e2 := sumf_add (ind (rfQ A c)) (l + 1).toNat (200 - (l + 1).toNat) 0
  rw [← e1, hs, show (0 : Int) + ((l + 1).toNat : Int) = l + 1 by omega] at e2
  have e3 : sumf (ind (rfQ A c)) (l + 1) (200 - (l + 1).toNat) = 0 := by
    have : rcA A c = sumf (ind (rfQ A c)) 0 200 := rfl
    omega
  exact ind_none e3 (by omega) (by omega) (rfQ_t.mpr ho)
theorem fo_end (oA : ShOK A) (hS : SlF A) (c1 : 0 ≤ c) (c2 : c < 200) (hk : A.1 c = 2) (h : FoI A c (rcA A c) l w ch few) : (w = 1 ↔ flA A c = 5) ∧ (few → ¬ flA A c = 5 → lnA A c = ch + 1) := by
  have hall : ∀ o, 0 ≤ o → o < 200 → RfS A c o → o ≤ l := fun o o1 o2 ho => fo_all h o1 o2 ho
  obtain ⟨⟨l1, l2⟩, hs, hw, hww, hch, hc⟩ := h
  constructor
  · rw [hww]
    constructor
    · rintro (e | ⟨o, o1, o2, o3, o4⟩)
      · exact re_self oA hS e
      · refine (sf_5 oA hS c1 c2).mpr ⟨hk, fun hp => ?_⟩
        obtain ⟨k2, hnp⟩ := (sf_5 oA hS o1 (by omega)).mp o4
        exact hnp ((sf_pl hS hp).2.2.2 o o1 (by omega) k2 o3).1
    · intro e
      obtain ⟨-, hnp⟩ := (sf_5 oA hS c1 c2).mp e
      obtain ⟨o, o1, o2, k2, o3, o4⟩ := sf_un hS c1 c2 hk hnp
      exact .inr ⟨o, o1, hall o o1 o2 o3, o3, (sf_cyc hS o1 o2 k2 o4).1⟩
  · intro hf hn
    have hp : plc A c := Classical.byContradiction fun hnp => hn (sf_cyc hS c1 c2 hk hnp).1
    obtain ⟨-, -, ⟨p1, p2, p3⟩, hrr⟩ := sf_pl hS hp
    obtain ⟨b1, b2, b3, b4⟩ := hS.2.2.2.2.1 (plA A c) p1 p2
    rw [p3] at b1 b2 b3 b4
    obtain ⟨f1, f2⟩ := hc hf
    have u1 : ch ≤ lnA A c - 1 := by
      rcases f2 with e | ⟨o, o1, o2, o3, ⟨o4, o4'⟩, o5⟩
      · omega
      · obtain ⟨q1, q2⟩ := hrr o o1 (by omega) o4 o3
        obtain ⟨-, -, ⟨r1, r2, r3⟩, -⟩ := sf_pl hS q1
        have := b4 (plA A o) r1 q2 (by rw [r3]; exact o3)
        rw [r3] at this
        omega
    have u2 : lnA A c - 1 ≤ ch := by
      rcases b3 with e | ⟨q, q1, q2, q3, q4⟩
      · omega
      · obtain ⟨⟨d1, d2⟩, d3, -⟩ := sf_at hS q1 (show q < onA A by omega)
        have := f1 (odA A q) d1 (hall _ d1 d2 q3) q3 ⟨d3, fun e5 => ((sf_5 oA hS d1 d2).mp e5).2 ⟨q, q1, by omega, rfl⟩⟩
        omega
    omega
/-! the text of a formula -/
theorem txM_ne (x : Int) : 1 ≤ (txM x).length := by
  unfold txM
  split
  · exact Nat.le_refl 1
  · split
    · unfold fnL
      repeat' split
      all_goals decide
    · split
      · exact (decF_len 6 _).1
      · split
        · decide
        · unfold rfX
          simp only [List.length_append, List.length_singleton]
          omega
theorem mk1_ne (t : Int) : ∃ a L, mk1 t = a :: L := by
  unfold mk1
  repeat' split
  all_goals exact ⟨_, _, rfl⟩
theorem Tr_ne : ∀ s r n L v, Tr s r n L v → ∃ a L', L = a :: L' := by
  refine Tr_ind (P := fun _ _ _ L _ => ∃ a L', L = a :: L') ?_ ?_ ?_ ?_ ?_ ?_ ?_ ?_ ?_ ?_ ?_
  · exact fun t _ => ⟨_, _, rfl⟩
  · exact fun r n L v _ h => ⟨_, _, rfl⟩
  · exact fun r n L v _ h => ⟨_, _, rfl⟩
  · exact fun r n L v r1 n1 L1 v1 r2 n2 L2 v2 _ _ _ h h1 h2 => ⟨_, _, rfl⟩
  · exact fun w r n L v _ _ _ h => ⟨_, _, rfl⟩
  · exact fun r n L v _ h _ => ⟨_, _, rfl⟩
  · intro op r n L v r1 n1 L1 v1 _ _ _ h h1 _ _ _
    obtain ⟨a, L', e⟩ := h
    rw [e]
    exact ⟨_, _, rfl⟩
  · exact fun r n L v _ h => h
  · exact fun t _ => ⟨_, _, rfl⟩
  · exact fun r n L v _ h => h
  · intro r n L v r1 n1 L1 v1 _ _ h h1
    obtain ⟨a, L', e⟩ := h
    rw [e]
    exact ⟨_, _, rfl⟩
theorem len_two (oA : ShOK A) (c1 : 0 ≤ c) (c2 : c < 200) (hk : A.1 c = 2) : 2 ≤ qLen A c := by
  obtain ⟨⟨v, r, n, hT⟩, -⟩ := (oA c c1 c2).2.1 hk
  obtain ⟨a, L', e⟩ := Tr_ne _ _ _ _ _ hT
  obtain ⟨x, L1, e2⟩ := mk1_ne a
  unfold qLen
  rw [if_pos hk, e, mks_cons, e2, List.cons_append, fmT_cons, List.length_append]
  have := txM_ne x
  omega
theorem chr_0 (hk : A.1 c = 2) : qChr A c 0 = 61 := by unfold qChr; rw [if_pos hk]; rfl
theorem chr_end : qChr A c (qLen A c) = -1 := by
  unfold qChr qLen
  split
  · exact atL_out (by rw [List.length_cons]; omega)
  · rfl
theorem dp_pos {d : Int} (c1 : 0 ≤ c) (c2 : c < 200) (h : RfS A c d) : 0 < dpA A d := by
  have h1 := ind_rng (fun o => rfQ A o d) 200 0
  have h2 : dpA A d = sumf (ind (fun o => rfQ A o d)) 0 200 := rfl
  by_cases e : sumf (ind (fun o => rfQ A o d)) 0 200 = 0
  · exact absurd (rfQ_t.mpr h) (ind_none (p := fun o => rfQ A o d) e c1 (by omega))
  · omega
theorem rc_rng : 0 ≤ rcA A c ∧ rcA A c ≤ 200 := ind_rng _ 200 0
theorem dp_rng : 0 ≤ dpA A c ∧ dpA A c ≤ 200 := ind_rng _ 200 0
end
