/-! what the contents are worth -/
section
noncomputable def evT (L : List Int) : Ev := @dite _ (∃ v : Ev, ∃ r n, Tr 0 r n L v) (Classical.propDecidable _) (fun h => Classical.choose h) (fun _ => fun _ _ _ _ _ => (0, 0))
theorem evT_spec {L : List Int} (h : ∃ v : Ev, ∃ r n, Tr 0 r n L v) : ∃ r n, Tr 0 r n L (evT L) := by
  unfold evT
  rw [dif_pos h]
  exact Classical.choose_spec h
/-- where the cells to which the words refer are alike, the worth is -/
theorem rowv_loc {K Er R K' Er' R' : Int → Int} {w : Int} : ∀ (m : Nat) (c acc : Int), (∀ o, c ≤ o → o < c + m → K o = K' o ∧ Er o = Er' o ∧ R o = R' o) → rowv K Er R w m c acc = rowv K' Er' R' w m c acc
  | 0, c, acc, _ => rfl
  | m + 1, c, acc, h => by
    obtain ⟨a1, a2, a3⟩ := h c (by omega) (by omega)
    rw [rowv, rowv, a1, a2, a3]
    have e : rowv K Er R w m (c + 1) = rowv K' Er' R' w m (c + 1) := by
      funext acc'
      exact rowv_loc m (c + 1) acc' (fun o h1 h2 => h o (by omega) (by omega))
    rw [e]
theorem rowsv_loc {K Er R K' Er' R' : Int → Int} {w : Int} {m : Nat} : ∀ (n : Nat) (c acc : Int), (∀ i o : Int, 0 ≤ i → i < n → c + 10 * i ≤ o → o < c + 10 * i + m → K o = K' o ∧ Er o = Er' o ∧ R o = R' o) → rowsv K Er R w m n c acc = rowsv K' Er' R' w m n c acc
  | 0, c, acc, _ => rfl
  | n + 1, c, acc, h => by
    rw [rowsv, rowsv, rowv_loc m c acc (fun o h1 h2 => h 0 o (by omega) (by omega) (by omega) (by omega))]
    have e : rowsv K Er R w m n (c + 10) = rowsv K' Er' R' w m n (c + 10) := by
      funext acc'
      exact rowsv_loc n (c + 10) acc' (fun i o h1 h2 h3 h4 => h (i + 1) o (by omega) (by omega) (by omega) (by omega))
    rw [e]
theorem rngv_loc {K Er R K' Er' R' : Int → Int} {w a b acc : Int} (ha : 0 ≤ a ∧ a < 200) (hb : 0 ≤ b ∧ b < 200) (h : ∀ o, 0 ≤ o → o < 200 → inR a b o → K o = K' o ∧ Er o = Er' o ∧ R o = R' o) : rngv K Er R w a b acc = rngv K' Er' R' w a b acc := by
  unfold rngv
  obtain ⟨lr, hlr, hlr'⟩ : ∃ lr, imax (a / 10) (b / 10) = lr ∧ (a / 10 ≤ lr ∧ b / 10 ≤ lr ∧ (lr = a / 10 ∨ lr = b / 10)) := ⟨_, rfl, by unfold imax; split <;> omega⟩
  obtain ⟨lc, hlc, hlc'⟩ : ∃ lc, imax (a % 10) (b % 10) = lc ∧ (a % 10 ≤ lc ∧ b % 10 ≤ lc ∧ (lc = a % 10 ∨ lc = b % 10)) := ⟨_, rfl, by unfold imax; split <;> omega⟩
  obtain ⟨fr, hfr, hfr'⟩ : ∃ fr, imin (a / 10) (b / 10) = fr ∧ (fr ≤ a / 10 ∧ fr ≤ b / 10 ∧ (fr = a / 10 ∨ fr = b / 10)) := ⟨_, rfl, by unfold imin; split <;> omega⟩
  obtain ⟨fc, hfc, hfc'⟩ : ∃ fc, imin (a % 10) (b % 10) = fc ∧ (fc ≤ a % 10 ∧ fc ≤ b % 10 ∧ (fc = a % 10 ∨ fc = b % 10)) := ⟨_, rfl, by unfold imin; split <;> omega⟩
  rw [hlr, hlc, hfr, hfc]
  exact rowsv_loc _ _ _ (fun i o h1 h2 h3 h4 => h o (by omega) (by omega) (by unfold inR; omega))
theorem bnd_congr {p p' : Int × Int} {f f' : Int → Int × Int} (h : p = p') (hf : ∀ x, f x = f' x) : bnd p f = bnd p' f' := by
  subst h
  rw [show f = f' from funext hf]
theorem Tr_loc {K Er R K' Er' R' : Int → Int} : ∀ s r n L v, Tr s r n L v → (∀ o, 0 ≤ o → o < 200 → (∃ t ∈ L, rfT t o) → K o = K' o ∧ Er o = Er' o ∧ R o = R' o) → ∀ w acc, v K Er R w acc = v K' Er' R' w acc := by
  refine Tr_ind ?_ ?_ ?_ ?_ ?_ ?_ ?_ ?_ ?_ ?_ ?_
  · intro t h hl w acc
    unfold vLeaf
    by_cases h1 : t % 8 = 1
    · rw [if_pos h1, if_pos h1]
    · rw [if_neg h1, if_neg h1]
      by_cases h2 : t % 8 = 2
      · have hcl := clp_rng (t / 8)
        obtain ⟨a1, a2, a3⟩ := hl (clp (t / 8)) hcl.1 hcl.2 ⟨t, List.mem_singleton.mpr rfl, (rfT_2 h2).mpr rfl⟩
        rw [if_pos h2, if_pos h2, a2, a3]
      · rw [if_neg h2, if_neg h2]
  · exact fun r n L v _ h hl => h (fun o h1 h2 ⟨t, ht, hr⟩ => hl o h1 h2 ⟨t, by simp [ht], hr⟩)
  · exact fun r n L v _ h hl w acc => bnd_congr (h (fun o h1 h2 ⟨t, ht, hr⟩ => hl o h1 h2 ⟨t, by simp [ht], hr⟩) 0 0) (fun x => rfl)
  · intro r n L v r1 n1 L1 v1 r2 n2 L2 v2 _ _ _ h h1 h2 hl w acc
    refine bnd_congr (h (fun o q1 q2 ⟨t, ht, hr⟩ => hl o q1 q2 ⟨t, by simp [ht], hr⟩) 0 0) (fun x => ?_)
    rw [h1 (fun o q1 q2 ⟨t, ht, hr⟩ => hl o q1 q2 ⟨t, by simp [ht], hr⟩) 0 0, h2 (fun o q1 q2 ⟨t, ht, hr⟩ => hl o q1 q2 ⟨t, by simp [ht], hr⟩) 0 0]
  · exact fun wd r n L v _ _ _ h hl w acc => bnd_congr (h (fun o h1 h2 ⟨t, ht, hr⟩ => hl o h1 h2 ⟨t, by simp [ht], hr⟩) _ _) (fun x => rfl)
  · exact fun r n L v _ h _ hl w acc => bnd_congr (h (fun o h1 h2 ⟨t, ht, hr⟩ => hl o h1 h2 ⟨t, by simp [ht], hr⟩) 0 0) (fun x => rfl)
  · intro op r n L v r1 n1 L1 v1 _ _ _ h h1 _ _ _ hl w acc
    refine bnd_congr (h (fun o q1 q2 ⟨t, ht, hr⟩ => hl o q1 q2 ⟨t, by simp [ht], hr⟩) 0 0) (fun x => ?_)
    exact bnd_congr (h1 (fun o q1 q2 ⟨t, ht, hr⟩ => hl o q1 q2 ⟨t, by simp [ht], hr⟩) 0 0) (fun y => rfl)
  · exact fun r n L v _ h hl w acc => bnd_congr (h hl 0 0) (fun x => rfl)
  · intro t h hl w acc
    exact rngv_loc (clp_rng _) (clp_rng _) (fun o q1 q2 q3 => hl o q1 q2 ⟨t, List.mem_singleton.mpr rfl, (rfT_3 h.1).mpr q3⟩)
  · exact fun r n L v _ h hl => h hl
  · intro r n L v r1 n1 L1 v1 _ _ h h1 hl w acc
    exact bnd_congr (h (fun o q1 q2 ⟨t, ht, hr⟩ => hl o q1 q2 ⟨t, by simp [ht], hr⟩) w acc) (fun z => h1 (fun o q1 q2 ⟨t, ht, hr⟩ => hl o q1 q2 ⟨t, by simp [ht], hr⟩) w z)
theorem evT_loc {K Er R K' Er' R' : Int → Int} {L : List Int} (h : ∃ v : Ev, ∃ r n, Tr 0 r n L v) (hl : ∀ o, 0 ≤ o → o < 200 → (∃ t ∈ L, rfT t o) → K o = K' o ∧ Er o = Er' o ∧ R o = R' o) : evT L K Er R 0 0 = evT L K' Er' R' 0 0 := by
  obtain ⟨r, n, hT⟩ := evT_spec h
  exact Tr_loc _ _ _ _ _ hT hl 0 0
/-- the words of a cell of a State -/
def tkl (g : xGm) (b : Nat) (c : Int) : List Int := (List.range (g (b + 4) c).toNat).map (fun i : Nat => g (b + 5) (c * 60 + i))
theorem tkl_len (g : xGm) (b : Nat) (c : Int) : (tkl g b c).length = (g (b + 4) c).toNat := by unfold tkl; simp
theorem tkl_mem {g : xGm} {b : Nat} {c t : Int} (h : t ∈ tkl g b c) : ∃ q, 0 ≤ q ∧ q < g (b + 4) c ∧ g (b + 5) (c * 60 + q) = t := by
  unfold tkl at h
  rw [List.mem_map] at h
  obtain ⟨i, h1, h2⟩ := h
  rw [List.mem_range] at h1
  exact ⟨i, by omega, by omega, h2⟩
theorem tkl_rf {g : xGm} {b : Nat} {c o : Int} (hk : g (b + 1) c = 2) (h : ∃ t ∈ tkl g b c, rfT t o) : rfC g b c o := by
  obtain ⟨t, h1, h2⟩ := h
  obtain ⟨q, q1, q2, q3⟩ := tkl_mem h1
  exact ⟨hk, q, q1, q2, by rw [q3]; exact h2⟩
theorem TA_range {g : xGm} {k : Nat} {a : Int} {f : Nat → Int} : ∀ (n : Nat) (s : Nat), (∀ i, s ≤ i → i < s + n → tkv g k (a + i) = f i) → TA g k (a + s) ((List.range' s n).map f)
  | 0, s, _ => by simp [TA]
  | n + 1, s, h => by
    rw [List.range'_succ, List.map_cons, TA]
    refine ⟨h s (Nat.le_refl _) (by omega), ?_⟩
    have := TA_range (g := g) (k := k) (a := a) (f := f) n (s + 1) (fun i h1 h2 => h i (by omega) (by omega))
    rw [show a + ((s + 1 : Nat) : Int) = a + s + 1 by omega] at this
    exact this
theorem tkl_TA {g : xGm} {k : Nat} {c : Int} (hn : 0 ≤ g (k + 1 + 4) c) (h3 : g k 3 = c * 60 + g (k + 1 + 4) c) : TA g k (c * 60) (tkl g (k + 1) c) := by
  have h := TA_range (g := g) (k := k) (a := c * 60) (f := fun i : Nat => g (k + 1 + 5) (c * 60 + i)) (g (k + 1 + 4) c).toNat 0 (fun i _ h2 => by
    unfold tkv; rw [if_pos (by omega)])
  rw [show c * 60 + ((0 : Nat) : Int) = c * 60 by omega] at h
  unfold tkl
  rw [List.range_eq_range']
  exact h
/-- every formula is a tree -/
def VF (g : xGm) (b : Nat) : Prop := ∀ c, 0 ≤ c → c < 200 → g (b + 1) c = 2 → ∃ v : Ev, ∃ r n, Tr 0 r n (tkl g b c) v
/-- the results are those of the contents -/
def ResOK (K : Int → Int) (T : Int → List Int) (Er R : Int → Int) (r : Int → Int) (n : Int) : Prop :=
  ∀ c, 0 ≤ c → c < 200 → (K c = 2 → oin r n c → Er c = (evT (T c) K Er R 0 0).1 ∧ R c = (evT (T c) K Er R 0 0).2) ∧ (K c = 2 → ¬ oin r n c → Er c = 5 ∧ R c = 0) ∧ (¬ K c = 2 → Er c = 0) ∧ (K c = 0 → R c = 0)
theorem ResOK_uniq {K K' Er R Er' R' r r' : Int → Int} {T T' : Int → List Int} {Rf : Int → Int → Prop} {F : Int → Bool} {n n' : Int} (h : ResOK K T Er R r n) (h' : ResOK K' T' Er' R' r' n') (hK : ∀ c, 0 ≤ c → c < 200 → K c = K' c) (hT : ∀ c, 0 ≤ c → c < 200 → K c = 2 → T c = T' c) (hN : ∀ c, 0 ≤ c → c < 200 → K c = 1 → R c = R' c) (hK3 : ∀ c, 0 ≤ c → c < 200 → K c = 0 ∨ K c = 1 ∨ K c = 2)
    (hF : ∀ c, 0 ≤ c → c < 200 → (F c = true ↔ K c = 2)) (hV : ∀ c, 0 ≤ c → c < 200 → K c = 2 → ∃ v : Ev, ∃ r n, Tr 0 r n (T c) v) (hRf : ∀ c o, 0 ≤ c → c < 200 → 0 ≤ o → o < 200 → K c = 2 → (∃ t ∈ T c, rfT t o) → Rf c o) (hO : OdF F Rf r n) (hn : n = n') (hr : ∀ i, 0 ≤ i → i < n → r i = r' i) : ∀ c, 0 ≤ c → c < 200 → Er c = Er' c ∧ R c = R' c := by
  subst hn
  have hoin : ∀ c, oin r n c ↔ oin r' n c := fun c => oin_congr hr
  have nonF : ∀ c, 0 ≤ c → c < 200 → ¬ oin r n c → Er c = Er' c ∧ R c = R' c := fun c c1 c2 ho => by
    obtain ⟨a1, a2, a3, a4⟩ := h c c1 c2
    obtain ⟨b1, b2, b3, b4⟩ := h' c c1 c2
    have e := hK c c1 c2
    rcases hK3 c c1 c2 with k | k | k
    · exact ⟨by rw [a3 (by omega), b3 (by omega)], by rw [a4 k, b4 (by omega)]⟩
    · exact ⟨by rw [a3 (by omega), b3 (by omega)], hN c c1 c2 k⟩
    · obtain ⟨x1, x2⟩ := a2 k ho
      obtain ⟨y1, y2⟩ := b2 (by omega) (fun h => ho ((hoin c).mpr h))
      exact ⟨by rw [x1, y1], by rw [x2, y2]⟩
  have key : ∀ m : Nat, ∀ i : Int, 0 ≤ i → i < m → i < n → Er (r i) = Er' (r i) ∧ R (r i) = R' (r i) := by
    intro m
    induction m with
    | zero => intro i h1 h2; omega
    | succ m ih =>
      intro i h1 h2 h3
      obtain ⟨p1, p2, p3, p4, p5⟩ := OdF_at hO h1 h3
      have hk := (hF _ p1 p2).mp p3
      have ho : oin r n (r i) := ⟨i, h1, h3, rfl⟩
      obtain ⟨x1, x2⟩ := (h _ p1 p2).1 hk ho
      obtain ⟨y1, y2⟩ := (h' _ p1 p2).1 (by rw [← hK _ p1 p2]; exact hk) ((hoin _).mp ho)
      have e : evT (T (r i)) K Er R 0 0 = evT (T' (r i)) K' Er' R' 0 0 := by
        rw [← hT _ p1 p2 hk]
        refine evT_loc (hV _ p1 p2 hk) (fun o o1 o2 o3 => ⟨hK o o1 o2, ?_⟩)
        by_cases hfo : F o = true
        · obtain ⟨j, j1, j2, j3⟩ := p5 o o1 o2 hfo (hRf _ _ p1 p2 o1 o2 hk o3)
          have := ih j j1 (by omega) (by omega)
          rw [j3] at this
          exact this
        · refine nonF o o1 o2 (fun ⟨j, j1, j2, j3⟩ => ?_)
          have := (OdF_at hO j1 j2).2.2.1
          rw [j3] at this
          exact hfo this
      rw [x1, x2, y1, y2, e]
      exact ⟨rfl, rfl⟩
  intro c c1 c2
  by_cases ho : oin r n c
  · obtain ⟨i, i1, i2, i3⟩ := ho
    have := key (i.toNat + 1) i i1 (by omega) i2
    rw [i3] at this
    exact this
  · exact nonF c c1 c2 ho
end
