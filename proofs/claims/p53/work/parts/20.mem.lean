/-! MEMORY: the light machine's heap as shapes and integers; its steps as equations that rewrite -/
section
abbrev xSh : Type := (Nat × Nat) ⊕ (Nat × List (Option Value))
/-- shapes, how many cells, made cells, made slots -/
abbrev xLm : Type := (Nat → xSh) × Nat × Nat × Nat
abbrev xGm : Type := Nat → Int → Int
def iI (z : Int) : Int32 := Int32.ofInt z
def lI (z : Int) : Int64 := Int64.ofInt z
def ti (z : Int) : Int := (iI z).toInt
def xfs (r : Int → Int) : Int → List (Option Value) → List Value
  | _, [] => []
  | k, some v :: l => v :: xfs r (k + 1) l
  | k, none :: l => .int (iI (r k)) :: xfs r (k + 1) l
def xem (sh : xSh) (r : Int → Int) : xE := match sh with
  | .inl (k, n) => if k = 1 then .inl (k, n, .inr (.inl (fun j => lI (r j)))) else if k = 5 then .inl (k, n, .inr (.inr (.inr (.inr (fun j => if r j < 0 then none else some (r j).toNat))))) else .inl (k, n, .inl (fun j => iI (r j)))
  | .inr (ci, fs) => .inr (ci, xfs r 0 fs)
def hp (S : xLm) (g : xGm) : xH := (S.2.1, fun k => xem (S.1 k) (g k), S.2.2.1, S.2.2.2)
def gs (g : xGm) (h : Nat) (i z : Int) : xGm := fun h' i' => if h' = h ∧ i' = i then z else g h' i'
/-- a run from a place; a call -/
def Wx (X : xX) (d M pc : Nat) (L : xL) (st : List Value) (w : xH) (Q : xO → xH → Prop) : Prop := ∃ n out wf, xexec X n d M (xMo M) (xMc M) pc L st w = some (out, wf) ∧ Q out wf
def Cw (X : xX) (d M : Nat) (As : List Value) (w : xH) (Q : xO → xH → Prop) : Prop := Wx X d M 0 (xen (xMl M) As) [] w Q
/-! integers -/
theorem iI_add (a b : Int) : iI a + iI b = iI (a + b) := (Int32.ofInt_add a b).symm
theorem iI_sub (a b : Int) : iI a - iI b = iI (a - b) := (Int32.ofInt_sub a b).symm
theorem iI_mul (a b : Int) : iI a * iI b = iI (a * b) := (Int32.ofInt_mul a b).symm
theorem iI_neg (a : Int) : -iI a = iI (-a) := (Int32.ofInt_neg a).symm
theorem iI_of (x : Int32) : iI x.toInt = x := Int32.ofInt_toInt x
theorem ti_eq {z : Int} (h1 : -2147483648 ≤ z) (h2 : z < 2147483648) : ti z = z := by
  unfold ti iI
  exact Int32.toInt_ofInt_of_le h1 h2
theorem ti_rng (z : Int) : -2147483648 ≤ ti z ∧ ti z < 2147483648 := ⟨Int32.le_toInt _, Int32.toInt_lt _⟩
theorem iI_ti (z : Int) : iI (ti z) = iI z := iI_of _
theorem iI_lt (a b : Int) : (iI a < iI b) ↔ ti a < ti b := Int32.lt_iff_toInt_lt
theorem iI_le (a b : Int) : (iI a ≤ iI b) ↔ ti a ≤ ti b := Int32.le_iff_toInt_le
theorem iI_eq (a b : Int) : (iI a = iI b) ↔ ti a = ti b := by
  constructor
  · intro h; unfold ti; rw [h]
  · intro h; exact Int32.toInt_inj.mp h
theorem iI_clamp (z : Int) : ((iI z).toNatClampNeg : Int) = if ti z < 0 then 0 else ti z := by
  show ((ti z).toNat : Int) = _
  split <;> omega
theorem xin_iff (z : Int) (n : Nat) : xin (iI z) n = true ↔ 0 ≤ ti z ∧ ti z < n := by
  unfold xin
  rw [Bool.and_eq_true, Bool.not_eq_true', decide_eq_false_iff_not, decide_eq_true_eq, show (0 : Int32) = iI 0 from rfl, iI_lt, ti_eq (z := 0) (by decide) (by decide)]
  have := iI_clamp z
  constructor
  · rintro ⟨h1, h2⟩; rw [if_neg h1] at this; omega
  · rintro ⟨h1, h2⟩; rw [if_neg (by omega)] at this; omega
/-! memory -/
theorem gs_hit (g : xGm) (h : Nat) (i z : Int) : gs g h i z h i = z := by simp [gs]
theorem gs_row {h h' : Nat} (g : xGm) (i z : Int) (hne : ¬ h' = h) : gs g h i z h' = g h' := by funext i'; simp [gs, hne]
theorem gs_at (g : xGm) (h : Nat) (i z i' : Int) : gs g h i z h i' = if i' = i then z else g h i' := by simp [gs]
theorem xfs_get (r : Int → Int) : ∀ (l : List (Option Value)) (b : Int) (k : Nat), (xfs r b l)[k]? = (l[k]?).map (fun o => o.getD (.int (iI (r (b + k)))))
  | [], _, k => by simp [xfs]
  | o :: l, b, 0 => by cases o <;> simp [xfs]
  | o :: l, b, k + 1 => by
    have h := xfs_get r l (b + 1) k
    have e : b + 1 + (k : Int) = b + ((k + 1 : Nat) : Int) := by omega
    rw [e] at h
    cases o <;> simpa [xfs] using h
theorem xfs_len (r : Int → Int) : ∀ (l : List (Option Value)) (b : Int), (xfs r b l).length = l.length
  | [], _ => rfl
  | some _ :: l, b => congrArg (· + 1) (xfs_len r l (b + 1))
  | none :: l, b => congrArg (· + 1) (xfs_len r l (b + 1))
theorem xfs_congr {r r' : Int → Int} : ∀ (l : List (Option Value)) (b : Int), (∀ k, b ≤ k → r k = r' k) → xfs r b l = xfs r' b l
  | [], _, _ => rfl
  | some v :: l, b, h => by rw [xfs, xfs, xfs_congr l (b + 1) (fun k hk => h k (by omega))]
  | none :: l, b, h => by rw [xfs, xfs, xfs_congr l (b + 1) (fun k hk => h k (by omega)), h b (Int.le_refl _)]
theorem xfs_set (r : Int → Int) (z : Int) : ∀ (l : List (Option Value)) (b : Int) (k : Nat), l[k]? = some none → (xfs r b l).set k (.int (iI z)) = xfs (fun i => if i = b + k then z else r i) b l
  | [], _, k, h => by simp at h
  | o :: l, b, 0, h => by
    simp at h
    subst h
    simp only [xfs, List.set_cons_zero]
    rw [if_pos (by omega), xfs_congr l (b + 1) (r := r) (r' := fun i => if i = b + ((0 : Nat) : Int) then z else r i) (fun k hk => by rw [if_neg (by omega)])]
  | o :: l, b, k + 1, h => by
    have h' := xfs_set r z l (b + 1) k (by simpa using h)
    have e : (fun i => if i = b + 1 + (k : Int) then z else r i) = fun i => if i = b + ((k + 1 : Nat) : Int) then z else r i := by
      funext i
      rw [show b + 1 + (k : Int) = b + ((k + 1 : Nat) : Int) by omega]
    rw [e] at h'
    cases o with
    | none => simp only [xfs, List.set_cons_succ]; rw [h', if_neg (by omega)]
    | some v => simp only [xfs, List.set_cons_succ]; rw [h']
theorem xfs_setV (r : Int → Int) (v : Value) : ∀ (l : List (Option Value)) (b : Int) (k : Nat), (xfs r b l).set k v = xfs r b (l.set k (some v))
  | [], _, k => by simp [xfs]
  | none :: l, b, 0 => by simp [xfs]
  | some u :: l, b, 0 => by simp [xfs]
  | none :: l, b, k + 1 => by simp [xfs, xfs_setV r v l (b + 1) k]
  | some u :: l, b, k + 1 => by simp [xfs, xfs_setV r v l (b + 1) k]
/-- a write -/
theorem hp_pt (S : xLm) (g : xGm) (a : Nat) (r' : Int → Int) (sh : xSh) (hs : S.1 a = sh) : xpt (hp S g) a (xem sh r') = hp S (fun h => if h = a then r' else g h) := by
  unfold xpt hp
  congr 2
  funext k
  show (if k = a then xem sh r' else xem (S.1 k) (g k)) = xem (S.1 k) (if k = a then r' else g k)
  by_cases h : k = a
  · subst h; rw [if_pos rfl, if_pos rfl, hs]
  · rw [if_neg h, if_neg h]
theorem gs_fun (g : xGm) (a : Nat) (i z : Int) : (fun h => if h = a then (fun j => if j = i then z else g a j) else g h) = gs g a i z := by
  funext h j
  unfold gs
  by_cases h1 : h = a
  · subst h1; simp
  · simp [h1]
/-! the machine's steps -/
variable {X : xX} {d M : Nat} {cc : ByteArray} {pc pc' : Nat} {L L' : xL} {st st' : List Value} {w w' : xH} {Q Q' : xO → xH → Prop} {i : Instr} {len : Nat}
theorem Wx_step (hq : xMc M = cc) (hd : decode cc pc = .ok (i, len)) (h : xone X M (xMo M) pc L st w i len = some (pc', L', st', w')) : Wx X d M pc L st w Q = Wx X d M pc' L' st' w' Q := by
  subst hq
  have key : ∀ n, xexec X (n + 1) d M (xMo M) (xMc M) pc L st w = xexec X n d M (xMo M) (xMc M) pc' L' st' w' := by
    intro n
    show (match decode (xMc M) pc with
      | .ok (i, len) => xins X (xexec X n) d M (xMo M) (xMc M) pc L st w i len
      | .error _ => none) = _
    rw [hd]
    show xins X (xexec X n) d M (xMo M) (xMc M) pc L st w i len = _
    unfold xins
    rw [h]
  apply propext
  constructor
  · rintro ⟨n, out, wf, h1, h2⟩
    cases n with
    | zero => cases h1
    | succ n => exact ⟨n, out, wf, by rw [← key]; exact h1, h2⟩
  · rintro ⟨n, out, wf, h1, h2⟩
    exact ⟨n + 1, out, wf, by rw [key]; exact h1, h2⟩
theorem Wx_ctl (hq : xMc M = cc) (hd : decode cc pc = .ok (i, len)) (h : xone X M (xMo M) pc L st w i len = none) : Wx X d M pc L st w Q = ∃ n out wf, xctl (xexec X n) d M (xMo M) (xMc M) pc L st w i len = some (out, wf) ∧ Q out wf := by
  subst hq
  have key : ∀ n, xexec X (n + 1) d M (xMo M) (xMc M) pc L st w = xctl (xexec X n) d M (xMo M) (xMc M) pc L st w i len := by
    intro n
    show (match decode (xMc M) pc with
      | .ok (i, len) => xins X (xexec X n) d M (xMo M) (xMc M) pc L st w i len
      | .error _ => none) = _
    rw [hd]
    show xins X (xexec X n) d M (xMo M) (xMc M) pc L st w i len = _
    unfold xins
    rw [h]
  apply propext
  constructor
  · rintro ⟨n, out, wf, h1, h2⟩
    cases n with
    | zero => cases h1
    | succ n => exact ⟨n, out, wf, by rw [← key]; exact h1, h2⟩
  · rintro ⟨n, out, wf, h1, h2⟩
    exact ⟨n + 1, out, wf, by rw [key]; exact h1, h2⟩
/-- stuck -/
theorem Wx_no (hq : xMc M = cc) (hd : decode cc pc = .ok (i, len)) (h : xone X M (xMo M) pc L st w i len = none) (h2 : ∀ rec, xctl rec d M (xMo M) (xMc M) pc L st w i len = none) : Wx X d M pc L st w Q = False := by
  rw [Wx_ctl hq hd h]
  apply propext
  constructor
  · rintro ⟨n, out, wf, h1, -⟩
    rw [h2] at h1
    cases h1
  · exact False.elim
/-! more fuel, more depth -/
def xle (f f' : xF) : Prop := ∀ d M o cc pc L st w r, f d M o cc pc L st w = some r → ∀ d', d ≤ d' → f' d' M o cc pc L st w = some r
theorem xcall_le {f f' : xF} (h : xle f f') {d d' M o : Nat} {cc : ByteArray} {pc : Nat} {L : xL} {rest As : List Value} {w : xH} {k M' : Nat} {r : xO × xH} (hd : d ≤ d') (h1 : xcall f d M o cc pc L rest As w k M' = some r) : xcall f' d' M o cc pc L rest As w k M' = some r := by
  unfold xcall at h1 ⊢
  cases d with
  | zero => cases h1
  | succ d =>
    obtain ⟨d', rfl⟩ : ∃ e, d' = e + 1 := ⟨d' - 1, by omega⟩
    obtain ⟨g1, g2⟩ := xk_some.mp h1
    refine xk_some.mpr ⟨g1, ?_⟩
    split at g2
    · next v w1 hr => rw [h _ _ _ _ _ _ _ _ _ hr d' (by omega)]; exact h _ _ _ _ _ _ _ _ _ g2 _ (by omega)
    · next ee w1 hr => rw [h _ _ _ _ _ _ _ _ _ hr d' (by omega)]; exact g2
    · cases g2
theorem xctl_le {f f' : xF} (h : xle f f') {d d' M o : Nat} {cc : ByteArray} {pc len : Nat} {L : xL} {st : List Value} {w : xH} {i : Instr} {r : xO × xH} (hd : d ≤ d') (h1 : xctl f d M o cc pc L st w i len = some r) : xctl f' d' M o cc pc L st w i len = some r := by
  obtain ⟨out, wf⟩ := r
  have h0 := h1
  unfold xctl at h1 ⊢
  split at h1
  · exact h1
  · exact h1
  · exact h1
  · exact h1
  · exact h1
  · obtain ⟨g1, g2⟩ := xk_some.mp h1
    refine xk_some.mpr ⟨g1, ?_⟩
    split at g2
    · next hac =>
      rw [if_pos hac]
      split at g2
      · next r w' hcp =>
        obtain ⟨g3, g4⟩ := xk_some.mp g2
        rw [Bool.and_eq_true, decide_eq_true_eq, decide_eq_true_eq] at g3
        exact xk_some.mpr ⟨by rw [Bool.and_eq_true, decide_eq_true_eq, decide_eq_true_eq]; exact ⟨g3.1, by omega⟩, h _ _ _ _ _ _ _ _ _ g4 _ hd⟩
      · cases g2
    · next hac =>
      rw [if_neg hac]
      split at g2
      · obtain ⟨g3, g4⟩ := xk_some.mp g2
        exact xk_some.mpr ⟨g3, xcall_le h hd g4⟩
      · cases g2
  · obtain ⟨g1, g2⟩ := xk_some.mp h1
    refine xk_some.mpr ⟨g1, ?_⟩
    split at g2
    · next hoi =>
      rw [if_pos hoi]
      split at g2
      · obtain ⟨g3, g4⟩ := xk_some.mp g2
        rw [Bool.and_eq_true, decide_eq_true_eq, decide_eq_true_eq] at g3
        exact xk_some.mpr ⟨by rw [Bool.and_eq_true, decide_eq_true_eq, decide_eq_true_eq]; exact ⟨g3.1, by omega⟩, h _ _ _ _ _ _ _ _ _ g4 _ hd⟩
      · cases g2
    · next hoi =>
      rw [if_neg hoi]
      split at g2
      · split at g2
        · split at g2
          · exact xcall_le h hd g2
          · cases g2
        · cases g2
      · cases g2
  · obtain ⟨g1, g2⟩ := xk_some.mp h1
    refine xk_some.mpr ⟨g1, ?_⟩
    split at g2
    · split at g2
      · split at g2
        · split at g2
          · obtain ⟨g3, g4⟩ := xk_some.mp g2
            exact xk_some.mpr ⟨g3, xcall_le h hd g4⟩
          · cases g2
        · cases g2
      · cases g2
    · cases g2
  · split at h1
    · obtain ⟨g3, g4⟩ := xk_some.mp h1
      simp only [Bool.and_eq_true, decide_eq_true_eq] at g3
      exact xk_some.mpr ⟨by simp only [Bool.and_eq_true, decide_eq_true_eq]; omega, g4⟩
    · cases h1
  · cases h1
theorem xexec_le (X : xX) : ∀ n m, n ≤ m → xle (xexec X n) (xexec X m)
  | 0, _, _ => by intro d M o cc pc L st w r h; cases h
  | n + 1, m, hm => by
    obtain ⟨m, rfl⟩ : ∃ e, m = e + 1 := ⟨m - 1, by omega⟩
    have ih := xexec_le X n m (by omega)
    intro d M o cc pc L st w r h d' hd
    have h0 : (match decode cc pc with
      | .ok (i, len) => xins X (xexec X n) d M o cc pc L st w i len
      | .error _ => none) = some r := h
    show (match decode cc pc with
      | .ok (i, len) => xins X (xexec X m) d' M o cc pc L st w i len
      | .error _ => none) = some r
    split at h0
    · next i len hdg =>
      unfold xins at h0 ⊢
      split at h0
      · next q hq => exact ih _ _ _ _ _ _ _ _ _ h0 _ hd
      · exact xctl_le ih hd h0
    · cases h0
theorem Wx_mono (h : Wx X d M pc L st w Q) (hQ : ∀ o w, Q o w → Q' o w) : Wx X d M pc L st w Q' := by
  obtain ⟨n, out, wf, h1, h2⟩ := h
  exact ⟨n, out, wf, h1, hQ _ _ h2⟩
end
