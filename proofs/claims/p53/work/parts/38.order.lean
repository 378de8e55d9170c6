/-! Links: the order -/
section
noncomputable def cb (P : Prop) : Bool := @decide P (Classical.propDecidable P)
theorem cb_iff {P : Prop} : cb P = true ↔ P := by unfold cb; exact @decide_eq_true_iff P (Classical.propDecidable P)
theorem cb_not {P : Prop} : cb P = false ↔ ¬ P := by unfold cb; exact @decide_eq_false_iff_not P (Classical.propDecidable P)
theorem bool_ext {a b : Bool} (h : a = true ↔ b = true) : a = b := by cases a <;> cases b <;> simp_all
theorem low_congr {p q : Int → Bool} : ∀ (m : Nat) (c : Int), (∀ j, c ≤ j → j < c + m → p j = q j) → low p c m = low q c m
  | 0, c, _ => rfl
  | m + 1, c, h => by rw [low, low, h c (by omega) (by omega), low_congr m (c + 1) (fun j h1 h2 => h j (by omega) (by omega))]
theorem low_spec {p : Int → Bool} : ∀ (m : Nat) (c : Int), (low p c m = -1 ∧ ∀ j, c ≤ j → j < c + m → p j = false) ∨ (c ≤ low p c m ∧ low p c m < c + m ∧ p (low p c m) = true ∧ ∀ j, c ≤ j → j < low p c m → p j = false)
  | 0, c => .inl ⟨rfl, fun j h1 h2 => by omega⟩
  | m + 1, c => by
    rw [low]
    by_cases e : p c = true
    · rw [if_pos e]
      exact .inr ⟨by omega, by omega, e, fun j h1 h2 => by omega⟩
    · rw [if_neg e]
      rcases low_spec (p := p) m (c + 1) with ⟨h1, h2⟩ | ⟨h1, h2, h3, h4⟩
      · refine .inl ⟨h1, fun j j1 j2 => ?_⟩
        by_cases e2 : j = c
        · subst e2; exact Bool.not_eq_true _ ▸ e
        · exact h2 j (by omega) (by omega)
      · refine .inr ⟨by omega, by omega, h3, fun j j1 j2 => ?_⟩
        by_cases e2 : j = c
        · subst e2; exact Bool.not_eq_true _ ▸ e
        · exact h4 j (by omega) (by omega)
theorem ind_zero {p : Int → Bool} : ∀ (m : Nat) (c : Int), sumf (ind p) c m = 0 ↔ ∀ j, c ≤ j → j < c + m → p j = false
  | 0, c => ⟨fun _ j h1 h2 => by omega, fun _ => rfl⟩
  | m + 1, c => by
    rw [sumf]
    have h0 := (ind_rng p m (c + 1)).1
    have h1 : 0 ≤ ind p c := by unfold ind; split <;> omega
    constructor
    · intro h j j1 j2
      by_cases e : j = c
      · subst e
        cases e3 : p j with
        | false => rfl
        | true => unfold ind at h1 h h0; rw [if_pos e3] at h; omega
      · exact (ind_zero m (c + 1)).mp (by omega) j (by omega) (by omega)
    · intro h
      have e1 : ind p c = 0 := by unfold ind; rw [h c (by omega) (by omega)]; rfl
      have e2 := (ind_zero m (c + 1)).mpr (fun j j1 j2 => h j (by omega) (by omega))
      omega
theorem ind_le {p q : Int → Bool} : ∀ (m : Nat) (c : Int), (∀ j, c ≤ j → j < c + m → p j = true → q j = true) → sumf (ind p) c m ≤ sumf (ind q) c m ∧ (sumf (ind p) c m = sumf (ind q) c m → ∀ j, c ≤ j → j < c + m → q j = true → p j = true)
  | 0, c, _ => ⟨Int.le_refl _, fun _ j h1 h2 => by omega⟩
  | m + 1, c, h => by
    rw [sumf, sumf]
    obtain ⟨i1, i2⟩ := ind_le m (c + 1) (fun j h1 h2 => h j (by omega) (by omega))
    have h0 := h c (by omega) (by omega)
    have h1 : ind p c ≤ ind q c := by
      unfold ind
      by_cases e : p c = true
      · rw [if_pos e, if_pos (h0 e)]; exact Int.le_refl _
      · rw [if_neg e]; split <;> omega
    refine ⟨by omega, fun he j j1 j2 hq => ?_⟩
    by_cases e : j = c
    · subst e
      have h2 : ind p j = ind q j := by omega
      unfold ind at h2
      rw [if_pos hq] at h2
      by_cases e3 : p j = true
      · exact e3
      · rw [if_neg e3] at h2; omega
    · exact i2 (by omega) j (by omega) (by omega) hq
def oin (r : Int → Int) (n c : Int) : Prop := ∃ i, 0 ≤ i ∧ i < n ∧ r i = c
/-- the next one in the order -/
noncomputable def onx (F : Int → Bool) (R : Int → Int → Prop) (r : Int → Int) (n : Int) : Int := low (fun c => cb (F c = true ∧ ¬ oin r n c ∧ ∀ o, 0 ≤ o → o < 200 → F o = true → R c o → oin r n o)) 0 200
def OdF (F : Int → Bool) (R : Int → Int → Prop) (r : Int → Int) (n : Int) : Prop := ∀ i, 0 ≤ i → i < n → r i = onx F R r i ∧ 0 ≤ r i
theorem oin_congr {r r' : Int → Int} {n c : Int} (h : ∀ i, 0 ≤ i → i < n → r i = r' i) : oin r n c ↔ oin r' n c := by
  constructor
  · rintro ⟨i, h1, h2, h3⟩; exact ⟨i, h1, h2, by rw [← h i h1 h2]; exact h3⟩
  · rintro ⟨i, h1, h2, h3⟩; exact ⟨i, h1, h2, by rw [h i h1 h2]; exact h3⟩
theorem onx_congr {F F' : Int → Bool} {R R' : Int → Int → Prop} {r r' : Int → Int} {n : Int} (hF : ∀ c, 0 ≤ c → c < 200 → F c = F' c) (hR : ∀ c o, 0 ≤ c → c < 200 → 0 ≤ o → o < 200 → (R c o ↔ R' c o)) (h : ∀ i, 0 ≤ i → i < n → r i = r' i) : onx F R r n = onx F' R' r' n := by
  unfold onx
  refine low_congr 200 0 (fun c h1 h2 => bool_ext ?_)
  rw [cb_iff, cb_iff, hF c h1 (by omega), oin_congr h]
  refine and_congr Iff.rfl (and_congr Iff.rfl ⟨fun k o o1 o2 o3 o4 => ?_, fun k o o1 o2 o3 o4 => ?_⟩)
  · exact (oin_congr h).mp (k o o1 o2 (by rw [hF o o1 o2]; exact o3) ((hR c o h1 (by omega) o1 o2).mpr o4))
  · exact (oin_congr h).mpr (k o o1 o2 (by rw [← hF o o1 o2]; exact o3) ((hR c o h1 (by omega) o1 o2).mp o4))
/-- there is one order alone -/
theorem OdF_uniq {F F' : Int → Bool} {R R' : Int → Int → Prop} {r r' : Int → Int} {n n' : Int} (hF : ∀ c, 0 ≤ c → c < 200 → F c = F' c) (hR : ∀ c o, 0 ≤ c → c < 200 → 0 ≤ o → o < 200 → (R c o ↔ R' c o)) (h : OdF F R r n) (he : onx F R r n < 0) (h' : OdF F' R' r' n') (he' : onx F' R' r' n' < 0) (hn : 0 ≤ n) (hn' : 0 ≤ n') : n = n' ∧ ∀ i, 0 ≤ i → i < n → r i = r' i := by
  have key : ∀ m : Nat, ∀ i : Int, 0 ≤ i → i < m → i < n → i < n' → r i = r' i := by
    intro m
    induction m with
    | zero => intro i h1 h2; omega
    | succ m ih =>
      intro i h1 h2 h3 h4
      rw [(h i h1 h3).1, (h' i h1 h4).1]
      exact onx_congr hF hR (fun j j1 j2 => ih j j1 (by omega) (by omega) (by omega))
  have hnn : n = n' := by
    by_cases e : n < n'
    · have e1 := onx_congr (r := r) (r' := r') (n := n) hF hR (fun j j1 j2 => key (j.toNat + 1) j j1 (by omega) j2 (by omega))
      have e2 := h' n hn e
      omega
    · by_cases e0 : n' < n
      · have e1 := onx_congr (r := r) (r' := r') (n := n') hF hR (fun j j1 j2 => key (j.toNat + 1) j j1 (by omega) (by omega) j2)
        have e2 := h n' hn' e0
        omega
      · omega
  exact ⟨hnn, fun i h1 h2 => key (i.toNat + 1) i h1 (by omega) h2 (by omega)⟩
theorem onx_at {F : Int → Bool} {R : Int → Int → Prop} {r : Int → Int} {n : Int} (h : 0 ≤ onx F R r n) : onx F R r n < 200 ∧ F (onx F R r n) = true ∧ ¬ oin r n (onx F R r n) ∧ ∀ o, 0 ≤ o → o < 200 → F o = true → R (onx F R r n) o → oin r n o := by
  unfold onx at h ⊢
  rcases low_spec (p := fun c => cb (F c = true ∧ ¬ oin r n c ∧ ∀ o, 0 ≤ o → o < 200 → F o = true → R c o → oin r n o)) 200 0 with ⟨h1, h2⟩ | ⟨h1, h2, h3, h4⟩
  · omega
  · exact ⟨by omega, cb_iff.mp h3⟩
theorem oin_succ {r : Int → Int} {n c : Int} (hn : 0 ≤ n) : oin r (n + 1) c ↔ oin r n c ∨ r n = c := by
  constructor
  · rintro ⟨i, h1, h2, h3⟩
    by_cases e : i = n
    · subst e; exact .inr h3
    · exact .inl ⟨i, h1, by omega, h3⟩
  · rintro (⟨i, h1, h2, h3⟩ | h)
    · exact ⟨i, h1, by omega, h3⟩
    · exact ⟨n, hn, by omega, h⟩
theorem OdF_le {F : Int → Bool} {R : Int → Int → Prop} {r : Int → Int} {n k : Int} (h : OdF F R r n) (hk : k ≤ n) : OdF F R r k := fun i h1 h2 => h i h1 (by omega)
theorem OdF_at {F : Int → Bool} {R : Int → Int → Prop} {r : Int → Int} {n i : Int} (h : OdF F R r n) (h1 : 0 ≤ i) (h2 : i < n) : 0 ≤ r i ∧ r i < 200 ∧ F (r i) = true ∧ ¬ oin r i (r i) ∧ ∀ o, 0 ≤ o → o < 200 → F o = true → R (r i) o → oin r i o := by
  obtain ⟨e, e0⟩ := h i h1 h2
  have := onx_at (F := F) (R := R) (r := r) (n := i) (by omega)
  rw [← e] at this
  exact ⟨e0, this.1, this.2.1, this.2.2.1, this.2.2.2⟩
theorem OdF_cnt {F : Int → Bool} {R : Int → Int → Prop} {r : Int → Int} : ∀ (m : Nat), OdF F R r m → sumf (ind (fun c => cb (oin r m c))) 0 200 = m
  | 0, _ => by
    rw [(ind_zero 200 0).mpr (fun j _ _ => cb_not.mpr (fun ⟨i, h1, h2, _⟩ => by omega))]; rfl
  | m + 1, h => by
    have h' := OdF_cnt m (OdF_le h (by omega))
    obtain ⟨a1, a2, a3, a4, a5⟩ := OdF_at (i := m) h (by omega) (by omega)
    have e1 : ∀ j, ¬ j = r m → ind (fun c => cb (oin r ((m + 1 : Nat) : Int) c)) j = ind (fun c => cb (oin r m c)) j := fun j hj => by
      unfold ind
      have : cb (oin r ((m + 1 : Nat) : Int) j) = cb (oin r m j) := bool_ext (by
        rw [cb_iff, cb_iff, show ((m + 1 : Nat) : Int) = (m : Int) + 1 by omega, oin_succ (by omega)]
        exact ⟨fun h => h.elim id (fun e => absurd e.symm hj), .inl⟩)
      simp only [this]
    have e2 : ind (fun c => cb (oin r ((m + 1 : Nat) : Int) c)) (r m) = 1 := by
      unfold ind
      rw [if_pos]
      rw [cb_iff, show ((m + 1 : Nat) : Int) = (m : Int) + 1 by omega, oin_succ (by omega)]
      exact .inr rfl
    have e3 : ind (fun c => cb (oin r m c)) (r m) = 0 := by unfold ind; rw [if_neg]; rw [cb_iff]; exact a4
    rw [sumf_upd (f := ind (fun c => cb (oin r m c))) (c := r m) (z := 1) 200 0 a1 (by omega) e1 e2, h', e3]
    omega
/-- when as many are placed as there are formulas, none is left -/
theorem OdF_full {F : Int → Bool} {R : Int → Int → Prop} {r : Int → Int} {n : Int} (hn : 0 ≤ n) (h : OdF F R r n) (hc : n = sumf (ind F) 0 200) : onx F R r n = -1 := by
  obtain ⟨m, rfl⟩ : ∃ m : Nat, n = m := ⟨n.toNat, by omega⟩
  have h1 := OdF_cnt m h
  have h2 := (ind_le (p := fun c => cb (oin r m c)) (q := F) 200 0 (fun j _ _ hj => by
    obtain ⟨i, i1, i2, i3⟩ := cb_iff.mp hj
    rw [← i3]; exact (OdF_at h i1 i2).2.2.1)).2 (by rw [h1]; exact hc)
  unfold onx
  rcases low_spec (p := fun c => cb (F c = true ∧ ¬ oin r m c ∧ ∀ o, 0 ≤ o → o < 200 → F o = true → R c o → oin r m o)) 200 0 with ⟨e, _⟩ | ⟨e1, e2, e3, _⟩
  · exact e
  · have e4 := cb_iff.mp e3
    exact absurd (cb_iff.mp (h2 _ e1 e2 e4.1)) e4.2.1
theorem OdF_rm {F : Int → Bool} {R : Int → Int → Prop} {r : Int → Int} {n : Int} (hn : 0 ≤ n) (h : OdF F R r n) : n ≤ sumf (ind F) 0 200 := by
  obtain ⟨m, rfl⟩ : ∃ m : Nat, n = m := ⟨n.toNat, by omega⟩
  have h1 := OdF_cnt m h
  have h2 := (ind_le (p := fun c => cb (oin r m c)) (q := F) 200 0 (fun j _ _ hj => by
    obtain ⟨i, i1, i2, i3⟩ := cb_iff.mp hj
    rw [← i3]; exact (OdF_at h i1 i2).2.2.1)).1
  omega
/-- how many formulas c waits for -/
noncomputable def owt (F : Int → Bool) (R : Int → Int → Prop) (r : Int → Int) (n c : Int) : Int := sumf (ind (fun o => cb (F o = true ∧ R c o ∧ ¬ oin r n o))) 0 200
theorem owt_zero {F : Int → Bool} {R : Int → Int → Prop} {r : Int → Int} {n c : Int} : owt F R r n c = 0 ↔ ∀ o, 0 ≤ o → o < 200 → F o = true → R c o → oin r n o := by
  unfold owt
  rw [ind_zero]
  constructor
  · intro h o h1 h2 h3 h4
    exact Classical.byContradiction (fun h5 => cb_not.mp (h o h1 (by omega)) ⟨h3, h4, h5⟩)
  · intro h o h1 h2
    exact cb_not.mpr (fun h3 => h3.2.2 (h o h1 (by omega) h3.1 h3.2.1))
theorem owt_rng {F : Int → Bool} {R : Int → Int → Prop} {r : Int → Int} {n c : Int} : 0 ≤ owt F R r n c ∧ owt F R r n c ≤ 200 := ind_rng _ 200 0
theorem owt_congr {F : Int → Bool} {R : Int → Int → Prop} {r r' : Int → Int} {n c : Int} (h : ∀ i, 0 ≤ i → i < n → r i = r' i) : owt F R r n c = owt F R r' n c := by
  unfold owt
  refine sumf_congr 200 0 (fun j _ _ => ?_)
  unfold ind
  have : cb (F j = true ∧ R c j ∧ ¬ oin r n j) = cb (F j = true ∧ R c j ∧ ¬ oin r' n j) := by rw [oin_congr h]
  simp only [this]
theorem owt_step {F : Int → Bool} {R : Int → Int → Prop} {r : Int → Int} {n c : Int} (hn : 0 ≤ n) (h1 : 0 ≤ r n) (h2 : r n < 200) (hF : F (r n) = true) (hi : ¬ oin r n (r n)) : owt F R r (n + 1) c = owt F R r n c - (if cb (R c (r n)) = true then 1 else 0) := by
  unfold owt
  have e1 : ∀ j, ¬ j = r n → ind (fun o => cb (F o = true ∧ R c o ∧ ¬ oin r (n + 1) o)) j = ind (fun o => cb (F o = true ∧ R c o ∧ ¬ oin r n o)) j := fun j hj => by
    unfold ind
    have : cb (F j = true ∧ R c j ∧ ¬ oin r (n + 1) j) = cb (F j = true ∧ R c j ∧ ¬ oin r n j) := bool_ext (by
      rw [cb_iff, cb_iff, oin_succ hn]
      exact ⟨fun h => ⟨h.1, h.2.1, fun h3 => h.2.2 (.inl h3)⟩, fun h => ⟨h.1, h.2.1, fun h3 => h3.elim h.2.2 (fun e => hj e.symm)⟩⟩)
    simp only [this]
  have e2 : ind (fun o => cb (F o = true ∧ R c o ∧ ¬ oin r (n + 1) o)) (r n) = 0 := by
    unfold ind
    rw [if_neg]
    rw [cb_iff, oin_succ hn]
    exact fun h => h.2.2 (.inr rfl)
  have e3 : ind (fun o => cb (F o = true ∧ R c o ∧ ¬ oin r n o)) (r n) = if cb (R c (r n)) = true then 1 else 0 := by
    unfold ind
    have : cb (F (r n) = true ∧ R c (r n) ∧ ¬ oin r n (r n)) = cb (R c (r n)) := bool_ext (by rw [cb_iff, cb_iff]; exact ⟨fun h => h.2.1, fun h => ⟨hF, h, hi⟩⟩)
    simp only [this]
  rw [sumf_upd (f := ind (fun o => cb (F o = true ∧ R c o ∧ ¬ oin r n o))) (c := r n) (z := 0) 200 0 h1 (by omega) e1 e2, e3]
  omega
theorem FC_ex2 {r : Int → Int} {n : Int} {F : Int → Bool} (h : FC r n F) {i : Int} (h1 : 0 ≤ i) (h2 : i < n) : ∃ k : Nat, k < 200 ∧ F k = true ∧ sumf (ind F) 0 k = i ∧ r i = k := by
  have key : ∀ m : Nat, i < sumf (ind F) 0 m → ∃ k : Nat, k < m ∧ F k = true ∧ sumf (ind F) 0 k = i := by
    intro m
    induction m with
    | zero => intro h; simp [sumf] at h; omega
    | succ m ih =>
      intro hm
      rw [sumf_snoc] at hm
      by_cases e : i < sumf (ind F) 0 m
      · obtain ⟨k, k1, k2, k3⟩ := ih e
        exact ⟨k, by omega, k2, k3⟩
      · unfold ind at hm
        split at hm
        · next hf => rw [Int.zero_add] at hf; exact ⟨m, by omega, hf, by unfold ind at e ⊢; omega⟩
        · unfold ind at e; omega
  rw [h.1] at h2
  obtain ⟨k, k1, k2, k3⟩ := key 200 h2
  exact ⟨k, k1, k2, k3, by rw [← k3]; exact h.2 k k1 k2⟩
theorem FC_inj {r : Int → Int} {n : Int} {F : Int → Bool} (h : FC r n F) {i j : Int} (h1 : 0 ≤ i) (h2 : i < n) (h3 : 0 ≤ j) (h4 : j < n) (e : r i = r j) : i = j := by
  obtain ⟨k, k1, k2, k3, k4⟩ := FC_ex2 h h1 h2
  obtain ⟨k', k1', k2', k3', k4'⟩ := FC_ex2 h h3 h4
  have : k = k' := by omega
  rw [← k3, ← k3', this]
variable {X : xX} {d : Nat} {S : xLm} {g : xGm} {Q : xO → xH → Prop}
/-- the loop that counts what each formula waits for -/
theorem l_waits {l : Nat} {n : Int} {cnt : Int → Int} (hS : LkS S l) (hn0 : 0 ≤ n) (hn2 : n ≤ 200) : ∀ (m : Nat) (i : Int) (g : xGm), g l 2 = n → rg g (l + 2) 0 199 → (∀ c, 0 ≤ c → c < 200 → cnt c = sumf (fun i => if bt (g (l + 1)) c (g (l + 2) i) = true then 1 else 0) 0 n.toNat) → i + m = n → 0 ≤ i →
    ∃ f, (∀ j, f j = g (l + 5) j ∨ (f j = cnt j ∧ 0 ≤ j ∧ j < 200)) ∧ (∀ q, i ≤ q → q < n → f (g (l + 2) q) = cnt (g (l + 2) q)) ∧ ∀ Q, Wx X (d + 2) 104 7 [some (.ref l), some (.int (iI i)), none, none] [] (hp S g) Q = Wx X (d + 2) 104 42 [some (.ref l), some (.int (iI n)), none, none] [] (hp S (gr g (l + 5) f)) Q := by
  have hS' := hS
  obtain ⟨h0, h1, h2, h3, h4, h5, h6, h7, h8⟩ := hS'
  intro m
  induction m with
  | zero =>
    intro i g hn hF hcnt hi h
    obtain rfl : i = n := by omega
    have ti' : ti i = i := ti_eq (by omega) (by omega)
    refine ⟨g (l + 5), fun j => .inl rfl, fun q q1 q2 => by omega, fun Q => ?_⟩
    have e : gr g (l + 5) (g (l + 5)) = g := by
      funext h'; unfold gr; split
      · next e => rw [e]
      · rfl
    rw [w_iload_n1 (pc' := 8) q104 d104_7 rfl, e]
    simp (config := { decide := true }) only [w_aload_n0 (pc' := 9) q104 d104_8 rfl, w_getI (pc' := 12) q104 d104_9 rfl f104_38, w_icmp_ge (tg := 42) (pc' := 15) q104 d104_12 (by decide) rfl, gs_off, gs_off0, gs_0off, gs_2, xN_0, xN_2, xN_3, xN_6, xN_7, xN_8, xN_9, xN_10, xN_11, xN_12, xN_13, xN_14, xN_15, xN_16, xN_17, xN_18, xN_19, xN_20, xN_21, xN_22, xN_23, xN_24, xN_25, xN_26, xN_27, xN_28, xN_29, xN_30, xN_31, xN_32, xN_33, xN_34, xN_35, xN_36, xN_37, xN_38, xN_39, xN_40, xN_41, xN_42, xN_43, xN_44, xN_45, xN_46, xN_47, xN_48, xN_49, xN_50, xN_51, xN_52, xN_53, xN_54, xN_55, ti_0, ti_1, ti_2, ti_3, ti_4, ti_5, ti_6, ti_7, ti_8, ti_9, ti_10, ti_16, ti_19, ti_20, ti_29, ti_30, ti_31, ti_32, ti_35, ti_36, ti_38, ti_39, ti_40, ti_41, ti_42, ti_43, ti_44, ti_45, ti_46, ti_47, ti_48, ti_49, ti_50, ti_51, ti_52, ti_53, ti_54, ti_55, ti_56, ti_57, ti_58, ti_59, ti_60, ti_61, ti_62, ti_63, ti_64, ti_65, ti_74, ti_77, ti_126, ti_200, ti_201, ti_202, ti_203, ti_204, ti_205, ti_210, ti_255, ti_256, ti_400, ti_512, ti_600, ti_601, ti_602, ti_1000, ti_1023, ti_1024, ti_2000, ti_10000, ti_12602, ti_999999, ti_m999999, ti_m1, ti_2000000, ti_3000000, xN_1, xN_4, xN_5, xN_60, xN_61, xN_64, xN_200, xN_800, xN_12000, xN_12602, eq_self, and_self, and_true, true_and, if_true, if_false, decide_true, Nat.reduceLeDiff, xc2_int, xc2_ref, xc2_ra, xc2_null, xc2_long, xc2_none, xisaT_ref, xisaT_ra, xisaT_null, xc1T_int, xc1T_ref, xc1T_ra, xc1T_null, xsum_nil, xsum_int, xsum_ref, xsum_ra, xsum_long, xsum_double, xsum_null, xfl_nil, xfl_int, xfl_ref, xfl_ra, xfl_null, xfl_long, xfl_double, List.length_cons, List.length_nil, h0, hn, ti', Int.le_refl, xfk, xfv, xak, xan, xcls, xsv', List.getElem?_cons_zero, List.getElem?_cons_succ, List.getD_cons_zero, List.getD_cons_succ, Option.getD_some, Option.isSome_some, if_true, if_pos, xcont, Option.toList_none, Option.toList_some, List.nil_append, List.cons_append]
  | succ m ih =>
    intro i g hn hF hcnt hi h
    have ti' : ti i = i := ti_eq (by omega) (by omega)
    have tn : ti n = n := ti_eq (by omega) (by omega)
    have hlt : ¬ n ≤ i := by omega
    have b2 : i < 200 := by omega
    have f := hF i
    have f2 : g (l + 2) i < 200 := by omega
    have tf : ti (g (l + 2) i) = g (l + 2) i := ti_eq (by omega) (by omega)
    obtain ⟨g1, eg1⟩ : ∃ g1, g1 = gs g (l + 5) (g (l + 2) i) (cnt (g (l + 2) i)) := ⟨_, rfl⟩
    have r : ∀ h', ¬ h' = l + 5 → g1 h' = g h' := fun h' hh => by rw [eg1]; exact gs_row _ _ _ hh
    obtain ⟨f', k1, k2, k3⟩ := ih (i + 1) g1 (by rw [r l (by omega)]; exact hn) (by unfold rg; rw [r (l + 2) (by omega)]; exact hF) (by rw [r (l + 1) (by omega), r (l + 2) (by omega)]; exact hcnt) (by omega) (by omega)
    rw [r (l + 2) (by omega)] at k2
    refine ⟨f', fun j => ?_, fun q q1 q2 => ?_, fun Q => ?_⟩
    · rcases k1 j with e | e
      · rw [eg1, gs_at] at e
        split at e
        · next ej => exact .inr ⟨by rw [e, ej], by omega, by omega⟩
        · exact .inl e
      · exact .inr e
    · by_cases e : q = i
      · subst e
        rcases k1 (g (l + 2) q) with e | e
        · rw [e, eg1, gs_at, if_pos rfl]
        · exact e.1
      · exact k2 q (by omega) q2
    · have ec := hcnt (g (l + 2) i) f.1 f2
      rw [w_iload_n1 (pc' := 8) q104 d104_7 rfl]
      simp (config := { decide := true }) only [w_aload_n0 (pc' := 9) q104 d104_8 rfl, w_getI (pc' := 12) q104 d104_9 rfl f104_38, w_icmp_ge (tg := 42) (pc' := 15) q104 d104_12 (by decide) rfl, w_aload_n0 (pc' := 16) q104 d104_15 rfl, w_getV (pc' := 19) q104 d104_16 rfl f104_25, w_aload_n0 (pc' := 20) q104 d104_19 rfl, w_getV (pc' := 23) q104 d104_20 rfl f104_15, w_iload_n1 (pc' := 24) q104 d104_23 rfl, w_iaload (pc' := 25) q104 d104_24 rfl, w_aload_n0 (pc' := 26) q104 d104_25 rfl, w_aload_n0 (pc' := 27) q104 d104_26 rfl, w_getV (pc' := 30) q104 d104_27 rfl f104_15, w_iload_n1 (pc' := 31) q104 d104_30 rfl, w_iaload (pc' := 32) q104 d104_31 rfl, w_invv1 (ci := 6) (pc' := 35) q104 d104_32 rfl n104_98 k104_98_6 m105.1, w_iastore (pc' := 36) q104 d104_35 rfl, w_iinc1 (z := (1)) (pc' := 39) q104 d104_36 rfl, w_goto (tg := 7) q104 d104_39 (by decide), gs_off, gs_off0, gs_0off, gs_2, xN_0, xN_2, xN_3, xN_6, xN_7, xN_8, xN_9, xN_10, xN_11, xN_12, xN_13, xN_14, xN_15, xN_16, xN_17, xN_18, xN_19, xN_20, xN_21, xN_22, xN_23, xN_24, xN_25, xN_26, xN_27, xN_28, xN_29, xN_30, xN_31, xN_32, xN_33, xN_34, xN_35, xN_36, xN_37, xN_38, xN_39, xN_40, xN_41, xN_42, xN_43, xN_44, xN_45, xN_46, xN_47, xN_48, xN_49, xN_50, xN_51, xN_52, xN_53, xN_54, xN_55, ti_0, ti_1, ti_2, ti_3, ti_4, ti_5, ti_6, ti_7, ti_8, ti_9, ti_10, ti_16, ti_19, ti_20, ti_29, ti_30, ti_31, ti_32, ti_35, ti_36, ti_38, ti_39, ti_40, ti_41, ti_42, ti_43, ti_44, ti_45, ti_46, ti_47, ti_48, ti_49, ti_50, ti_51, ti_52, ti_53, ti_54, ti_55, ti_56, ti_57, ti_58, ti_59, ti_60, ti_61, ti_62, ti_63, ti_64, ti_65, ti_74, ti_77, ti_126, ti_200, ti_201, ti_202, ti_203, ti_204, ti_205, ti_210, ti_255, ti_256, ti_400, ti_512, ti_600, ti_601, ti_602, ti_1000, ti_1023, ti_1024, ti_2000, ti_10000, ti_12602, ti_999999, ti_m999999, ti_m1, ti_2000000, ti_3000000, xN_1, xN_4, xN_5, xN_60, xN_61, xN_64, xN_200, xN_800, xN_12000, xN_12602, eq_self, and_self, and_true, true_and, if_true, if_false, decide_true, Nat.reduceLeDiff, xc2_int, xc2_ref, xc2_ra, xc2_null, xc2_long, xc2_none, xisaT_ref, xisaT_ra, xisaT_null, xc1T_int, xc1T_ref, xc1T_ra, xc1T_null, xsum_nil, xsum_int, xsum_ref, xsum_ra, xsum_long, xsum_double, xsum_null, xfl_nil, xfl_int, xfl_ref, xfl_ra, xfl_null, xfl_long, xfl_double, List.length_cons, List.length_nil, h0, h2, h5, hn, ti', tn, hlt, h, b2, tf, f.1, f2, c_referredFormulas hS f.1 f2 hn hn0 hn2 hF, ← ec, xfk, xfv, xak, xan, xcls, xsv', List.getElem?_cons_zero, List.getElem?_cons_succ, List.getD_cons_zero, List.getD_cons_succ, Option.getD_some, Option.isSome_some, if_true, if_pos, xcont, Option.toList_none, Option.toList_some, List.nil_append, List.cons_append]
      rw [← eg1]
      rw [k3 Q]
      congr 2
      funext h'
      unfold gr
      split
      · rfl
      · next e => exact r h' e
end
