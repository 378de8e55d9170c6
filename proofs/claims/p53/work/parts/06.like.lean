/-! how the light heap, locals and stack lie in the machine's -/
section
def xv (ad ae : Nat → Nat) (v : Value) : Value := match v with
  | .ref a => .ref (ad a)
  | .retAddr k => .ref (ae k)
  | v => v
def xec (ad : Nat → Nat) (c : (Nat → Int32) ⊕ (Nat → Int64) ⊕ (Nat → UInt32) ⊕ (Nat → UInt64) ⊕ (Nat → Option Nat)) : (Nat → Int32) ⊕ (Nat → Int64) ⊕ (Nat → UInt32) ⊕ (Nat → UInt64) ⊕ (Nat → Option Nat) := match c with
  | .inr (.inr (.inr (.inr f))) => .inr (.inr (.inr (.inr (fun i => (f i).map ad))))
  | c => c
def xev (D2 : Nat → ClassId) (ad ae : Nat → Nat) (e : xE) : va_E := match e with
  | .inl (k, n, c) => .inl (D2 k, n, xec ad c)
  | .inr (ci, fs) => .inr (ci, fs.map (xv ad ae))
def xw (D2 : Nat → ClassId) (ad ae : Nat → Nat) (w : xH) : va_W := (List.range w.1).map (fun k => (ad k, xev D2 ad ae (w.2.1 k)))
theorem xv_cat (ad ae : Nat → Nat) (v : Value) : (xv ad ae v).category = v.category := by cases v <;> rfl
theorem xw_get {D2 : Nat → ClassId} {ad ae : Nat → Nat} {w : xH} {a : Nat} (h : a < w.1) : (xw D2 ad ae w)[a]? = some (ad a, xev D2 ad ae (w.2.1 a)) := by
  simp [xw, List.getElem?_map, List.getElem?_range h]
theorem xw_of {D2 : Nat → ClassId} {ad ae : Nat → Nat} {w : xH} {a : Nat} {q : Nat × va_E} (h : (xw D2 ad ae w)[a]? = some q) : a < w.1 ∧ q = (ad a, xev D2 ad ae (w.2.1 a)) := by
  by_cases ha : a < w.1
  · rw [xw_get ha] at h; exact ⟨ha, (Option.some.inj h).symm⟩
  · simp [xw, List.getElem?_map, List.getElem?_eq_none, Nat.not_lt.mp ha] at h
theorem xw_set {D2 : Nat → ClassId} {ad ae : Nat → Nat} {w : xH} {a : Nat} (e : xE) (ha : a < w.1) : (xw D2 ad ae w).set a (ad a, xev D2 ad ae e) = xw D2 ad ae (xpt w a e) := by
  apply List.ext_getElem?
  intro k
  by_cases hk : k < w.1
  · rw [xw_get (w := xpt w a e) hk, List.getElem?_set]
    by_cases h : a = k
    · subst h; simp [xpt, xw, ha]
    · rw [if_neg h, xw_get hk]; simp [xpt, Ne.symm h]
  · have h1 : (xw D2 ad ae w).length ≤ k := by simp [xw]; omega
    have h2 : (xw D2 ad ae (xpt w a e)).length ≤ k := by simp [xw, xpt]; omega
    rw [List.getElem?_eq_none (by rw [List.length_set]; exact h1), List.getElem?_eq_none h2]
/-- no reference to what isn't there -/
def xvk (n : Nat) (v : Value) : Prop := match v with | .ref a => a < n | _ => True
def xek (n : Nat) (e : xE) : Prop := match e with
  | .inl (_, _, .inr (.inr (.inr (.inr f)))) => ∀ i a, f i = some a → a < n
  | .inl _ => True
  | .inr (_, fs) => ∀ v ∈ fs, xvk n v
def xwk (w : xH) : Prop := ∀ k, k < w.1 → xek w.1 (w.2.1 k)
theorem xvk_mono {n m : Nat} (h : n ≤ m) {v : Value} (hv : xvk n v) : xvk m v := by
  cases v <;> first | exact Nat.lt_of_lt_of_le hv h | trivial
theorem xek_mono {n m : Nat} (h : n ≤ m) {e : xE} (he : xek n e) : xek m e := by
  rcases e with ⟨k, n', c⟩ | ⟨ci, fs⟩
  · rcases c with f | f | f | f | f <;> first | trivial | (intro i a hi; exact Nat.lt_of_lt_of_le (he i a hi) h)
  · exact fun v hv => xvk_mono h (he v hv)
theorem xv_eq {n : Nat} {ad ad' ae : Nat → Nat} (h : ∀ k, k < n → ad' k = ad k) {v : Value} (hv : xvk n v) : xv ad' ae v = xv ad ae v := by
  cases v <;> simp_all [xv, xvk]
theorem xev_eq {n : Nat} {D2 : Nat → ClassId} {ad ad' ae : Nat → Nat} (h : ∀ k, k < n → ad' k = ad k) {e : xE} (he : xek n e) : xev D2 ad' ae e = xev D2 ad ae e := by
  rcases e with ⟨k, n', c⟩ | ⟨ci, fs⟩
  · rcases c with f | f | f | f | f
    · rfl
    · rfl
    · rfl
    · rfl
    · have : (fun i => (f i).map ad') = fun i => (f i).map ad := by
        funext i
        cases hi : f i with
        | none => rfl
        | some a => simp [h a (he i a hi)]
      simp [xev, xec, this]
  · have : fs.map (xv ad' ae) = fs.map (xv ad ae) := List.map_congr_left fun v hv => xv_eq h (he v hv)
    simp [xev, this]
theorem xw_eq {D2 : Nat → ClassId} {ad ad' ae : Nat → Nat} {w : xH} (h : ∀ k, k < w.1 → ad' k = ad k) (hk : xwk w) : xw D2 ad' ae w = xw D2 ad ae w := by
  apply List.map_congr_left
  intro k hm
  have : k < w.1 := List.mem_range.mp hm
  rw [h k this, xev_eq h (hk k this)]
theorem xw_push {D2 : Nat → ClassId} {ad ad' ae : Nat → Nat} {w : xH} (h : ∀ k, k < w.1 → ad' k = ad k) (hk : xwk w) (e : xE) (n : Nat) : xw D2 ad' ae (xal w e n) = xw D2 ad ae w ++ [(ad' w.1, xev D2 ad' ae e)] := by
  show (List.range (w.1 + 1)).map _ = _
  rw [List.range_succ, List.map_append, ← xw_eq h hk]
  congr 1
  · apply List.map_congr_left
    intro k hm
    have : k < w.1 := List.mem_range.mp hm
    simp [xal, Nat.ne_of_lt this]
  · simp [xal]
theorem xwk_pt {w : xH} {a : Nat} {e : xE} (hk : xwk w) (he : xek w.1 e) : xwk (xpt w a e) := by
  intro k h
  show xek w.1 (if k = a then e else w.2.1 k)
  split
  · exact he
  · exact hk k h
theorem xwk_al {w : xH} {e : xE} {n : Nat} (hk : xwk w) (he : xek (w.1 + 1) e) : xwk (xal w e n) := by
  intro k h
  show xek (w.1 + 1) (if k = w.1 then e else w.2.1 k)
  split
  · exact he
  · next h1 => exact xek_mono (Nat.le_succ _) (hk k (by have : k < w.1 + 1 := h; omega))
/-! locals -/
def xlv (g : Value → Value) : Nat → xL → List (Nat × Value)
  | _, [] => []
  | k, some v :: r => (k, g v) :: xlv g (k + 1) r
  | k, none :: r => xlv g (k + 1) r
theorem xlv_mem {g : Value → Value} {i : Nat} {u : Value} : ∀ {L : xL} {k : Nat}, (i, u) ∈ xlv g k L ↔ ∃ j v, L[j]? = some (some v) ∧ i = k + j ∧ u = g v
  | [], k => by simp [xlv]
  | none :: r, k => by
    rw [xlv, xlv_mem]
    constructor
    · rintro ⟨j, v, h1, h2, h3⟩; exact ⟨j + 1, v, h1, by omega, h3⟩
    · rintro ⟨j, v, h1, h2, h3⟩
      cases j with
      | zero => simp at h1
      | succ j => exact ⟨j, v, h1, by omega, h3⟩
  | some w :: r, k => by
    rw [xlv, List.mem_cons, xlv_mem]
    constructor
    · rintro (h | ⟨j, v, h1, h2, h3⟩)
      · obtain ⟨rfl, rfl⟩ := Prod.mk.inj h; exact ⟨0, w, rfl, rfl, rfl⟩
      · exact ⟨j + 1, v, h1, by omega, h3⟩
    · rintro ⟨j, v, h1, h2, h3⟩
      cases j with
      | zero => simp at h1; subst h1; exact Or.inl (by rw [h2, h3]; rfl)
      | succ j => exact Or.inr ⟨j, v, h1, by omega, h3⟩
def xlr (ls : Array Slot) (g : Value → Value) (L : xL) : Prop := lv_has ls L.length (xlv g 0 L)
theorem xld_get {L : xL} {i : Nat} {v : Value} : xld L i = some v ↔ L[i]? = some (some v) := by
  unfold xld
  rw [List.getD_eq_getElem?_getD]
  cases L[i]? <;> simp
theorem xlr_at {ls : Array Slot} {g : Value → Value} {L : xL} (h : xlr ls g L) {i : Nat} {v : Value} (hv : xld L i = some v) : ls[i]? = some (.val (g v)) :=
  h.2.2 (i, g v) (xlv_mem.mpr ⟨i, v, xld_get.mp hv, by omega, rfl⟩)
theorem xcl_len (L : xL) (i : Nat) : (xcl L i).length = L.length := by
  unfold xcl
  split
  · rfl
  · split
    · split
      · exact List.length_set
      · rfl
    · rfl
theorem xcl_get {L : xL} {i j : Nat} {u : Value} (h : (xcl L i)[j]? = some (some u)) : L[j]? = some (some u) ∧ ¬ (j + 1 = i ∧ u.category = 2) := by
  unfold xcl at h
  split at h
  · exact ⟨h, by omega⟩
  · next k =>
    split at h
    · next v hv =>
      have hv' := xld_get.mp (show xld L k = some v from hv)
      split at h
      · next hc =>
        rw [List.getElem?_set] at h
        split at h
        · split at h <;> simp at h
        · exact ⟨h, by omega⟩
      · next hc =>
        refine ⟨h, fun hj => ?_⟩
        have : j = k := by omega
        subst this
        rw [hv'] at h
        cases h
        exact hc hj.2
    · next hv =>
      refine ⟨h, fun hj => ?_⟩
      have : j = k := by omega
      subst this
      have := xld_get.mpr h
      rw [show xld L j = L.getD j none from rfl, hv] at this
      cases this
theorem xlr_st {ls' : Array Slot} {g : Value → Value} (hg : ∀ v, (g v).category = v.category) {L : xL} {i : Nat} {v : Value}
    (h' : lv_has ls' L.length ((i, g v) :: (xlv g 0 L).filter (fun q => !(q.1 == i) && !(q.1 + 1 == i && q.2.category == 2)))) : xlr ls' g (xst L i v) := by
  refine ⟨by rw [h'.1]; simp [xst, xcl_len], h'.2.1, fun q hq => h'.2.2 q ?_⟩
  obtain ⟨j, u, h1, h2, h3⟩ := xlv_mem.mp (show (q.1, q.2) ∈ _ from hq)
  rw [Nat.zero_add] at h2
  unfold xst at h1
  rw [List.getElem?_set] at h1
  by_cases hi : i = j
  · rw [if_pos hi] at h1
    split at h1
    · cases h1
      rw [show q = (i, g v) from Prod.ext (by rw [h2, hi]) h3]
      exact List.mem_cons_self
    · cases h1
  · rw [if_neg hi] at h1
    obtain ⟨h4, h5⟩ := xcl_get h1
    refine List.mem_cons_of_mem _ (List.mem_filter.mpr ⟨?_, ?_⟩)
    · exact xlv_mem.mpr ⟨j, u, h4, by omega, h3⟩
    · rw [h3, hg, h2]
      simp only [Bool.and_eq_true, Bool.not_eq_true', beq_eq_false_iff_ne, Bool.and_eq_false_iff]
      refine ⟨fun h => hi h.symm, ?_⟩
      by_cases hj : j + 1 = i
      · exact Or.inr (fun h => h5 ⟨hj, by simpa using h⟩)
      · exact Or.inl hj
theorem xlr_st2 {ls' : Array Slot} {g : Value → Value} (hg : ∀ v, (g v).category = v.category) {L : xL} {i : Nat} {v : Value}
    (h' : lv_has ls' L.length ((i, g v) :: (xlv g 0 L).filter (fun q => !(q.1 == i) && (!(q.1 == i + 1) && !(q.1 + 1 == i && q.2.category == 2))))) : xlr ls' g (xst2 L i v) := by
  refine ⟨by rw [h'.1]; simp [xst2, xcl_len], h'.2.1, fun q hq => h'.2.2 q ?_⟩
  obtain ⟨j, u, h1, h2, h3⟩ := xlv_mem.mp (show (q.1, q.2) ∈ _ from hq)
  rw [Nat.zero_add] at h2
  unfold xst2 at h1
  rw [List.getElem?_set] at h1
  by_cases hi1 : i + 1 = j
  · rw [if_pos hi1] at h1
    split at h1 <;> cases h1
  rw [if_neg hi1, List.getElem?_set] at h1
  by_cases hi : i = j
  · rw [if_pos hi] at h1
    split at h1
    · cases h1
      rw [show q = (i, g v) from Prod.ext (by rw [h2, hi]) h3]
      exact List.mem_cons_self
    · cases h1
  · rw [if_neg hi] at h1
    obtain ⟨h4, h5⟩ := xcl_get h1
    refine List.mem_cons_of_mem _ (List.mem_filter.mpr ⟨?_, ?_⟩)
    · exact xlv_mem.mpr ⟨j, u, h4, by omega, h3⟩
    · rw [h3, hg, h2]
      simp only [Bool.and_eq_true, Bool.not_eq_true', beq_eq_false_iff_ne, Bool.and_eq_false_iff]
      refine ⟨fun h => hi h.symm, fun h => hi1 h.symm, ?_⟩
      by_cases hj : j + 1 = i
      · exact Or.inr (fun h => h5 ⟨hj, by simpa using h⟩)
      · exact Or.inl hj
/-! arguments -/
theorem xfl_sl (g : Value → Value) (hg : ∀ v, (g v).category = v.category) : ∀ vs : List Value, (lg_sl (vs.map g)).length = (xfl vs).length
  | [] => rfl
  | v :: vs => by
    have ih := xfl_sl g hg vs
    have h1 : lg_sl ((v :: vs).map g) = (if v.category = 2 then [Slot.val (g v), .second] else [.val (g v)]) ++ lg_sl (vs.map g) := by
      simp only [lg_sl, List.map_cons, List.flatMap_cons, hg]
    have h2 : xfl (v :: vs) = (if v.category = 2 then [some v, none] else [some v]) ++ xfl vs := by simp only [xfl, List.flatMap_cons]
    rw [h1, h2, List.length_append, List.length_append, ih]
    split <;> rfl
theorem xfl_args (g : Value → Value) (hg : ∀ v, (g v).category = v.category) : ∀ (vs : List Value) (k : Nat) (q : Nat × Value), q ∈ xlv g k (xfl vs) → q ∈ lv_args k (vs.map g)
  | [], _, q, h => by simp [xfl, xlv] at h
  | v :: vs, k, q, h => by
    have h2 : xfl (v :: vs) = (if v.category = 2 then [some v, none] else [some v]) ++ xfl vs := by simp only [xfl, List.flatMap_cons]
    rw [h2] at h
    rw [List.map_cons, lv_args]
    by_cases hc : v.category = 2
    · rw [if_pos hc] at h
      rw [if_pos (by rw [hg]; exact hc)]
      rcases List.mem_cons.mp (show q ∈ (k, g v) :: xlv g (k + 2) (xfl vs) from h) with h | h
      · exact h ▸ List.mem_cons_self
      · exact List.mem_cons_of_mem _ (xfl_args g hg vs _ q h)
    · rw [if_neg hc] at h
      rw [if_neg (by rw [hg]; exact hc)]
      rcases List.mem_cons.mp (show q ∈ (k, g v) :: xlv g (k + 1) (xfl vs) from h) with h | h
      · exact h ▸ List.mem_cons_self
      · exact List.mem_cons_of_mem _ (xfl_args g hg vs _ q h)
theorem xen_len {n : Nat} {vs : List Value} (h : (xfl vs).length ≤ n) : (xen n vs).length = n := by
  simp [xen]; omega
theorem xlr_entry {n : Nat} (g : Value → Value) (hg : ∀ v, (g v).category = v.category) {vs : List Value} (h : (xfl vs).length ≤ n) : xlr ((lg_sl (vs.map g) ++ List.replicate (n - (lg_sl (vs.map g)).length) Slot.unset).toArray) g (xen n vs) := by
  obtain ⟨h1, h2, h3⟩ := lv_entry (vs.map g) (n := n) (by rw [xfl_sl g hg]; exact h)
  refine ⟨by rw [xen_len h]; exact h1, h2, fun q hq => h3 q (xfl_args g hg vs 0 q ?_)⟩
  obtain ⟨j, u, h4, h5, h6⟩ := xlv_mem.mp (show (q.1, q.2) ∈ _ from hq)
  unfold xen at h4
  by_cases hj : j < (xfl vs).length
  · rw [List.getElem?_append_left hj] at h4
    exact xlv_mem.mpr ⟨j, u, h4, h5, h6⟩
  · rw [List.getElem?_append_right (by omega), List.getElem?_replicate] at h4
    split at h4 <;> simp at h4
end
