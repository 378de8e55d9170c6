/-! The model: the pile machine, purely -/
section
/-! the stack machine: pile, what is begun, place, whether an operand is asked, what is wrong -/
abbrev Mc : Type := List Int × List (Int × Int × Int) × Int × Int × Int
def rnk (s : Int) : Int := if s = 210 then 4 else if s = 42 ∨ s = 47 then 3 else if s = 43 ∨ s = 45 then 2 else if s = 60 ∨ s = 62 ∨ s = 61 then 1 else 0
def psh (p : List Int) (w v : Int) : List Int × Int := (v :: p, if w = 0 ∧ ¬ (-999999999 ≤ v ∧ v ≤ 999999999) then 2 else w)
def wkR (s a b : Int) : Int := if s = 43 then a + b else if s = 45 then a - b else if s = 42 then a * b else if s = 60 then (if a < b then 1 else 0) else if s = 62 then (if b < a then 1 else 0) else (if a = b then 1 else 0)
/-- the latest operation is done -/
def wks (s : Int) : List Int → Option (List Int × Int)
  | [] => none
  | b :: p => if s = 210 then some (psh p 0 (-b)) else match p with
    | [] => none
    | a :: p => if s = 47 ∧ b = 0 then some (0 :: p, 1) else some (psh p 0 (if s = 47 then a.fdiv b else wkR s a b))
/-- operations of rank k or more are done -/
def wd (k : Int) : List (Int × Int × Int) → List Int → Int → Option (List Int × List (Int × Int × Int) × Int)
  | [], p, w => some (p, [], w)
  | (s, su, cn) :: D, p, w => if w = 0 ∧ k ≤ rnk s then (match wks s p with | none => none | some (p', w') => wd k D p' w') else some (p, (s, su, cn) :: D, w)
def gvA (s su cn v : Int) : Int × Int × Int :=
  if s = 200 then (su + v, cn + 1, if su + v < -999999999 ∨ 999999999 < su + v then 2 else 0) else (if cn = 0 ∨ (s = 201 ∧ v < su) ∨ (¬ s = 201 ∧ su < v) then v else su, cn + 1, 0)
def gvC (K Er R : Int → Int) (s : Int) (q : Int × Int × Int) (c : Int) : Int × Int × Int :=
  if K c = 0 ∨ 0 < q.2.2 then q else if s = 203 then (q.1, q.2.1 + 1, q.2.2) else if 0 < Er c then (q.1, q.2.1, Er c) else gvA s q.1 q.2.1 (R c)
def gvW (K Er R : Int → Int) (s : Int) : Nat → Int → Int × Int × Int → Int × Int × Int
  | 0, _, q => q
  | m + 1, c, q => gvW K Er R s m (c + 1) (gvC K Er R s q c)
def gvS (K Er R : Int → Int) (s : Int) (m : Nat) : Nat → Int → Int × Int × Int → Int × Int × Int
  | 0, _, q => q
  | n + 1, c, q => gvS K Er R s m n (c + 10) (gvW K Er R s m c q)
def gvR (K Er R : Int → Int) (s a b : Int) (q : Int × Int × Int) : Int × Int × Int :=
  gvS K Er R s (imax (a % 10) (b % 10) - imin (a % 10) (b % 10) + 1).toNat (imax (a / 10) (b / 10) - imin (a / 10) (b / 10) + 1).toNat (10 * imin (a / 10) (b / 10) + imin (a % 10) (b % 10)) q
def mkat (ms : List Int) (a : Int) : Int := ms.getD a.toNat 0
def tgt (k : Int) : Int := (k - 2000000) % 1000
def isRf (k : Int) : Bool := decide (2000000 ≤ k ∧ k < 3000000)

/-- an operand is read -/
def tkO (ms : List Int) (K Er R : Int → Int) (p : List Int) (D : List (Int × Int × Int)) (a : Int) : Option Mc :=
  if mkat ms a = 45 then some (p, (210, 0, 0) :: D, a + 1, 1, 0)
  else if mkat ms a = 40 then some (p, (40, 0, 0) :: D, a + 1, 1, 0)
  else if 200 ≤ mkat ms a ∧ mkat ms a ≤ 205 then some (p, (mkat ms a, 0, 0) :: D, a + 2, 1, 0)
  else if isRf (mkat ms a) = true ∧ mkat ms (a + 1) = 58 then (match D with
    | [] => none
    | (s, su, cn) :: D' => some (p, (s, (gvR K Er R s (tgt (mkat ms a)) (tgt (mkat ms (a + 2))) (su, cn, 0)).1, (gvR K Er R s (tgt (mkat ms a)) (tgt (mkat ms (a + 2))) (su, cn, 0)).2.1) :: D', a + 3, 0, (gvR K Er R s (tgt (mkat ms a)) (tgt (mkat ms (a + 2))) (su, cn, 0)).2.2))
  else if isRf (mkat ms a) = true then some ((psh p (Er (tgt (mkat ms a))) (if 0 < Er (tgt (mkat ms a)) then 0 else R (tgt (mkat ms a)))).1, D, a + 1, 0, (psh p (Er (tgt (mkat ms a))) (if 0 < Er (tgt (mkat ms a)) then 0 else R (tgt (mkat ms a)))).2)
  else if mkat ms a = 3000000 then some (p, D, a + 1, 1, 3)
  else some ((psh p 0 (mkat ms a - 10000)).1, D, a + 1, 0, (psh p 0 (mkat ms a - 10000)).2)
def wasR (ms : List Int) (a : Int) : Bool := decide (3 ≤ a ∧ mkat ms (a - 2) = 58)
/-- an argument ends -/
def enA (ms : List Int) (a : Int) (p : List Int) : List (Int × Int × Int) → Option (List Int × List (Int × Int × Int) × Int)
  | [] => none
  | (f, su, cn) :: D => if f < 204 ∧ ¬ wasR ms a = true then (match p with
      | [] => none
      | v :: p' => some (p', (f, (gvA f su cn v).1, (gvA f su cn v).2.1) :: D, (gvA f su cn v).2.2))
    else some (p, (f, su, cn) :: D, 0)
/-- a call ends -/
def enC (p : List Int) : List (Int × Int × Int) → Option (List Int × List (Int × Int × Int) × Int)
  | [] => none
  | (f, su, cn) :: D =>
    if f < 203 then some ((psh p (if (f = 201 ∨ f = 202) ∧ cn = 0 then 4 else 0) su).1, D, (psh p (if (f = 201 ∨ f = 202) ∧ cn = 0 then 4 else 0) su).2)
    else if f = 203 then some ((psh p 0 cn).1, D, (psh p 0 cn).2)
    else if f = 204 then (match p with
      | [] => none
      | v :: p' => some ((psh p' 0 (if v < 0 then -v else v)).1, D, (psh p' 0 (if v < 0 then -v else v)).2))
    else some (p, D, 0)
def skF (ms : List Int) (te : Bool) : Nat → Int → Int → Option Int
  | 0, _, _ => none
  | n + 1, dd, a => if 0 ≤ dd + (if mkat ms a = 40 then 1 else if mkat ms a = 41 then -1 else 0) ∧ (te = true ∨ 0 < dd + (if mkat ms a = 40 then 1 else if mkat ms a = 41 then -1 else 0) ∨ ¬ mkat ms a = 44) then skF ms te n (dd + (if mkat ms a = 40 then 1 else if mkat ms a = 41 then -1 else 0)) (a + 1) else some a
/-- behind a part of IF -/
def chF (ms : List Int) (a : Int) (p : List Int) (su cn : Int) (D : List (Int × Int × Int)) : Option Mc :=
  if cn = 0 then (match p with
    | [] => none
    | x :: p' => if x = 0 then (match skF ms false 61 0 (a + 1) with | none => none | some b => some (p', (205, su, 2) :: D, b + 1, 1, 0)) else some (p', (205, su, 1) :: D, a + 1, 1, 0))
  else (match skF ms true 61 0 (a + 1) with | none => none | some b => some (p, D, b + 1, 0, 0))
/-- what is behind an operand is read -/
def tkB (ms : List Int) (p : List Int) (D : List (Int × Int × Int)) (a : Int) : Option Mc :=
  if mkat ms a = 44 ∨ mkat ms a = 41 then (match wd 1 D p 0 with
    | none => none
    | some (p1, D1, w1) => if 0 < w1 then some (p1, D1, a, 0, w1) else (match D1 with
      | [] => none
      | (f, su, cn) :: D2 => if f = 205 ∧ mkat ms a = 44 then chF ms a p1 su cn D2
        else if f = 40 then some (p1, D2, a + 1, if mkat ms a = 44 then 1 else 0, 0)
        else (match enA ms a p1 ((f, su, cn) :: D2) with
          | none => none
          | some (p3, D3, w3) => if mkat ms a = 41 ∧ w3 = 0 then (match enC p3 D3 with | none => none | some (p4, D4, w4) => some (p4, D4, a + 1, 0, w4)) else some (p3, D3, a + 1, if mkat ms a = 44 then 1 else 0, w3))))
  else if rnk (mkat ms a) = 0 then none else (match wd (rnk (mkat ms a)) D p 0 with
    | none => none
    | some (p1, D1, w1) => some (p1, (mkat ms a, 0, 0) :: D1, a + 1, 1, w1))
def mst (ms : List Int) (K Er R : Int → Int) (s : Mc) : Option Mc := if s.2.2.2.1 = 1 then tkO ms K Er R s.1 s.2.1 s.2.2.1 else tkB ms s.1 s.2.1 s.2.2.1
def itr (ms : List Int) (K Er R : Int → Int) : Nat → Mc → Option Mc
  | 0, s => some s
  | n + 1, s => if s.2.2.2.2 = 0 ∧ s.2.2.1 < ms.length then (match mst ms K Er R s with | none => none | some s' => itr ms K Er R n s') else none
def Run (ms : List Int) (K Er R : Int → Int) (s s' : Mc) : Prop := ∃ n, itr ms K Er R n s = some s'
theorem Run_refl (ms : List Int) (K Er R : Int → Int) (s : Mc) : Run ms K Er R s s := ⟨0, rfl⟩
theorem Run_trans {ms : List Int} {K Er R : Int → Int} {s s' s'' : Mc} (h1 : Run ms K Er R s s') (h2 : Run ms K Er R s' s'') : Run ms K Er R s s'' := by
  obtain ⟨n, h1⟩ := h1
  obtain ⟨k, h2⟩ := h2
  refine ⟨n + k, ?_⟩
  induction n generalizing s with
  | zero =>
    have e : s = s' := by simpa [itr] using h1
    subst e
    rw [Nat.zero_add]; exact h2
  | succ n ih =>
    rw [Nat.succ_add]
    rw [itr] at h1 ⊢
    split at h1
    · next hc =>
      rw [if_pos hc]
      split at h1
      · cases h1
      · exact ih h1
    · cases h1
theorem Run_one {ms : List Int} {K Er R : Int → Int} {p p' : List Int} {D D' : List (Int × Int × Int)} {a a' k k' w' : Int} (ha : a < ms.length) (h : mst ms K Er R (p, D, a, k, 0) = some (p', D', a', k', w')) : Run ms K Er R (p, D, a, k, 0) (p', D', a', k', w') := by
  refine ⟨1, ?_⟩
  rw [itr, if_pos ⟨rfl, ha⟩, h]
  rfl
theorem Run_O {ms : List Int} {K Er R : Int → Int} {p p' : List Int} {D D' : List (Int × Int × Int)} {a a' k' w' : Int} (ha : a < ms.length) (h : tkO ms K Er R p D a = some (p', D', a', k', w')) : Run ms K Er R (p, D, a, 1, 0) (p', D', a', k', w') := Run_one ha (by unfold mst; rw [if_pos rfl]; exact h)
theorem Run_B {ms : List Int} {K Er R : Int → Int} {p p' : List Int} {D D' : List (Int × Int × Int)} {a a' k' w' : Int} (ha : a < ms.length) (h : tkB ms p D a = some (p', D', a', k', w')) : Run ms K Er R (p, D, a, 0, 0) (p', D', a', k', w') := Run_one ha (by unfold mst; rw [if_neg (show ¬ (0 : Int) = 1 by decide)]; exact h)
def AtM (ms : List Int) : Int → List Int → Prop
  | _, [] => True
  | a, x :: l => mkat ms a = x ∧ AtM ms (a + 1) l
theorem AtM_app {ms : List Int} : ∀ (l l' : List Int) (a : Int), AtM ms a (l ++ l') ↔ AtM ms a l ∧ AtM ms (a + l.length) l'
  | [], l', a => by simp [AtM]
  | x :: l, l', a => by
    rw [List.cons_append, AtM, AtM, AtM_app l l' (a + 1), List.length_cons, show a + 1 + (l.length : Int) = a + ((l.length + 1 : Nat) : Int) by omega, and_assoc]
theorem AtM_self (ms : List Int) : AtM ms 0 ms := by
  have key : ∀ (l pre : List Int), AtM (pre ++ l) pre.length l := by
    intro l
    induction l with
    | nil => intro pre; trivial
    | cons x l ih =>
      intro pre
      refine ⟨?_, ?_⟩
      · unfold mkat
        rw [Int.toNat_natCast, List.getD_eq_getElem?_getD, List.getElem?_append_right (Nat.le_refl _), Nat.sub_self]
        rfl
      · have := ih (pre ++ [x])
        rw [List.append_assoc, List.length_append] at this
        exact this
  exact key ms []
theorem mkat_end {ms : List Int} {a : Int} (h : (ms.length : Int) ≤ a) : mkat ms a = 0 := by
  unfold mkat
  rw [List.getD_eq_getElem?_getD, List.getElem?_eq_none (by omega)]
  rfl
theorem rnk_op {op : Int} (h : isO op) : rnk op = prc op := by
  unfold isO at h
  unfold rnk prc
  rcases h with e | e | e | e | e | e | e <;> subst e <;> decide
def topr : List (Int × Int × Int) → Int
  | [] => 0
  | (s, _, _) :: _ => rnk s
theorem wd_top {k : Int} {D : List (Int × Int × Int)} {p : List Int} {w : Int} (h : topr D < k) : wd k D p w = some (p, D, w) := by
  cases D with
  | nil => rfl
  | cons d D =>
    obtain ⟨s, su, cn⟩ := d
    have h : rnk s < k := h
    rw [wd, if_neg (fun h' => by have := h'.2; omega)]
theorem wd_w {k : Int} {D : List (Int × Int × Int)} {p : List Int} {w : Int} (h : ¬ w = 0) : wd k D p w = some (p, D, w) := by
  cases D with
  | nil => rfl
  | cons d D =>
    obtain ⟨s, su, cn⟩ := d
    rw [wd, if_neg (fun h' => h h'.1)]
/-- what is known of a function's sum and count -/
def RelA (w su cn acc : Int) : Prop := 0 ≤ cn ∧ (-999999999 ≤ su ∧ su ≤ 999999999) ∧ (w = 0 → acc = su) ∧ (w = 1 ∨ w = 2 → (cn = 0 ∧ acc = nothing) ∨ (1 ≤ cn ∧ acc = su)) ∧ (w = 3 → acc = cn)
theorem gvA_rel {w su cn acc x : Int} (hw : 0 ≤ w ∧ w ≤ 3) (h : RelA w su cn acc) (hx : -999999999 ≤ x ∧ x ≤ 999999999) :
    ((jn w acc x).1 = 0 → (gvA (200 + w) su cn x).2.2 = 0 ∧ RelA w (gvA (200 + w) su cn x).1 (gvA (200 + w) su cn x).2.1 (jn w acc x).2) ∧ (¬ (jn w acc x).1 = 0 → (gvA (200 + w) su cn x).2.2 = (jn w acc x).1) := by
  obtain ⟨h1, h2, h3, h4, h5⟩ := h
  obtain ⟨w0, w3⟩ := hw
  by_cases e0 : w = 0
  · subst e0
    have := h3 rfl
    subst this
    have e1 : gvA (200 + 0) acc cn x = (acc + x, cn + 1, if acc + x < -999999999 ∨ 999999999 < acc + x then 2 else 0) := by unfold gvA; rw [if_pos (by decide)]
    have e2 : jn 0 acc x = lim (acc + x) := by unfold jn; rw [if_pos rfl]
    rw [e1, e2]
    unfold lim
    by_cases hl : -999999999 ≤ acc + x ∧ acc + x ≤ 999999999
    · rw [if_pos hl, if_neg (by omega)]
      exact ⟨fun _ => ⟨rfl, ⟨by show 0 ≤ cn + 1; omega, hl, fun _ => rfl, fun h => by omega, fun h => by omega⟩⟩, fun h => absurd rfl h⟩
    · rw [if_neg hl, if_pos (by omega)]
      exact ⟨fun h => absurd h (by decide), fun _ => rfl⟩
  · obtain ⟨y, ey⟩ : ∃ y, (if cn = 0 ∨ (200 + w = 201 ∧ x < su) ∨ (¬ 200 + w = 201 ∧ su < x) then x else su) = y := ⟨_, rfl⟩
    have e1 : gvA (200 + w) su cn x = (y, cn + 1, 0) := by unfold gvA; rw [if_neg (by omega), ey]
    have hy : -999999999 ≤ y ∧ y ≤ 999999999 := by rw [← ey]; split <;> omega
    rw [e1]
    by_cases e1 : w = 1
    · subst e1
      have e2 : jn 1 acc x = (0, if acc = nothing ∨ x < acc then x else acc) := by unfold jn; rw [if_neg (by decide), if_pos rfl]
      rw [e2]
      refine ⟨fun _ => ⟨rfl, ⟨by show 0 ≤ cn + 1; omega, hy, fun h => by omega, fun _ => .inr ⟨by show 1 ≤ cn + 1; omega, ?_⟩, fun h => by omega⟩⟩, fun h => absurd rfl h⟩
      show (if acc = nothing ∨ x < acc then x else acc) = y
      rw [← ey]
      rcases h4 (.inl rfl) with ⟨c1, c2⟩ | ⟨c1, c2⟩
      · rw [if_pos (.inl c2), if_pos (.inl c1)]
      · subst c2
        have : ¬ acc = nothing := by unfold nothing; omega
        by_cases hlt : x < acc
        · rw [if_pos (.inr hlt), if_pos (.inr (.inl ⟨by decide, hlt⟩))]
        · rw [if_neg (by omega), if_neg (by omega)]
    · by_cases e2 : w = 2
      · subst e2
        have e2 : jn 2 acc x = (0, if acc < x then x else acc) := by unfold jn; rw [if_neg (by decide), if_neg (by decide), if_pos rfl]
        rw [e2]
        refine ⟨fun _ => ⟨rfl, ⟨by show 0 ≤ cn + 1; omega, hy, fun h => by omega, fun _ => .inr ⟨by show 1 ≤ cn + 1; omega, ?_⟩, fun h => by omega⟩⟩, fun h => absurd rfl h⟩
        show (if acc < x then x else acc) = y
        rw [← ey]
        rcases h4 (.inr rfl) with ⟨c1, c2⟩ | ⟨c1, c2⟩
        · rw [if_pos (show acc < x by unfold nothing at c2; omega), if_pos (.inl c1)]
        · subst c2
          by_cases hlt : acc < x
          · rw [if_pos hlt, if_pos (.inr (.inr ⟨by decide, hlt⟩))]
          · rw [if_neg hlt, if_neg (by omega)]
      · obtain rfl : w = 3 := by omega
        have e2 : jn 3 acc x = (0, acc + 1) := by unfold jn; rw [if_neg (by decide), if_neg (by decide), if_neg (by decide)]
        rw [e2]
        refine ⟨fun _ => ⟨rfl, ⟨by show 0 ≤ cn + 1; omega, hy, fun h => by omega, fun h => by omega, fun _ => ?_⟩⟩, fun h => absurd rfl h⟩
        show acc + 1 = cn + 1
        rw [h5 rfl]
/-- a cell comes to a function -/
theorem gvC_w {K Er R : Int → Int} {s c : Int} {q : Int × Int × Int} (h : 0 < q.2.2) : gvC K Er R s q c = q := by unfold gvC; rw [if_pos (.inr h)]
theorem gvW_w {K Er R : Int → Int} {s : Int} : ∀ (m : Nat) (c : Int) (q : Int × Int × Int), 0 < q.2.2 → gvW K Er R s m c q = q
  | 0, _, _, _ => rfl
  | m + 1, c, q, h => by rw [gvW, gvC_w h, gvW_w m _ _ h]
theorem gvS_w {K Er R : Int → Int} {s : Int} {m : Nat} : ∀ (n : Nat) (c : Int) (q : Int × Int × Int), 0 < q.2.2 → gvS K Er R s m n c q = q
  | 0, _, _, _ => rfl
  | n + 1, c, q, h => by rw [gvS, gvW_w m c q h, gvS_w n _ _ h]
/-- q is what v says -/
def RelQ (w : Int) (q : Int × Int × Int) (v : Int × Int) : Prop := (v.1 = 0 → q.2.2 = 0 ∧ RelA w q.1 q.2.1 v.2) ∧ (¬ v.1 = 0 → q.2.2 = v.1 ∧ 0 < v.1)
theorem RelQ_bnd {w : Int} {q : Int × Int × Int} {v : Int × Int} {f : Int → Int × Int} {F : Int × Int × Int → Int × Int × Int} (h : RelQ w q v) (hF : ∀ q, 0 < q.2.2 → F q = q) (hf : ∀ su cn acc, RelA w su cn acc → RelQ w (F (su, cn, 0)) (f acc)) : RelQ w (F q) (bnd v f) := by
  obtain ⟨su, cn, e⟩ := q
  by_cases h0 : v.1 = 0
  · obtain ⟨h1, h2⟩ := h.1 h0
    have h1 : e = 0 := h1
    subst h1
    rw [bnd_0 h0]
    exact hf su cn v.2 h2
  · obtain ⟨h1, h2⟩ := h.2 h0
    rw [bnd_e h0, hF _ (by rw [h1]; exact h2)]
    exact ⟨fun h => absurd h h0, fun _ => ⟨h1, h2⟩⟩
theorem jn_pos {w acc x : Int} (h : ¬ (jn w acc x).1 = 0) : 0 < (jn w acc x).1 := by
  unfold jn lim at h ⊢
  split
  · split
    · next h1 h2 => rw [if_pos h1, if_pos h2] at h; exact absurd rfl h
    · decide
  · next h1 =>
    rw [if_neg h1] at h
    split
    · next h2 => rw [if_pos h2] at h; exact absurd rfl h
    · next h2 =>
      rw [if_neg h2] at h
      split
      · next h3 => rw [if_pos h3] at h; exact absurd rfl h
      · next h3 => rw [if_neg h3] at h; exact absurd rfl h
theorem gvC_rel {K Er R : Int → Int} (hE : okE Er R) {w su cn acc c : Int} (hw : 0 ≤ w ∧ w ≤ 3) (h : RelA w su cn acc) :
    RelQ w (gvC K Er R (200 + w) (su, cn, 0) c) (if K c = 0 then (0, acc) else if w = 3 then jn w acc 1 else if Er c = 0 then jn w acc (R c) else (Er c, 0)) := by
  unfold gvC
  by_cases hk : K c = 0
  · rw [if_pos (.inl hk), if_pos hk]
    exact ⟨fun _ => ⟨rfl, h⟩, fun h => absurd rfl h⟩
  · rw [if_neg (by intro h'; rcases h' with h' | h'; exact hk h'; exact absurd h' (by show ¬ (0 : Int) < 0; decide)), if_neg hk]
    by_cases h3 : w = 3
    · subst h3
      rw [if_pos rfl, if_pos (by decide)]
      have e2 : jn 3 acc 1 = (0, acc + 1) := by unfold jn; rw [if_neg (by decide), if_neg (by decide), if_neg (by decide)]
      rw [e2]
      obtain ⟨h1, h2, h3, h4, h5⟩ := h
      exact ⟨fun _ => ⟨rfl, ⟨by show 0 ≤ cn + 1; omega, h2, fun h => by omega, fun h => by omega, fun _ => by show acc + 1 = cn + 1; rw [h5 rfl]⟩⟩, fun h => absurd rfl h⟩
    · rw [if_neg h3, if_neg (by omega)]
      rcases hE c with ⟨e1, e2⟩ | e1
      · rw [if_pos e1, if_neg (by omega)]
        have hg := gvA_rel hw h e2
        exact ⟨hg.1, fun h => ⟨hg.2 h, jn_pos h⟩⟩
      · rw [if_neg (show ¬ Er c = 0 by omega), if_pos (show 0 < Er c by omega)]
        exact ⟨fun h => by have : Er c = 0 := h; omega, fun _ => ⟨rfl, by show 0 < Er c; omega⟩⟩
theorem gvW_rel {K Er R : Int → Int} (hE : okE Er R) {w : Int} (hw : 0 ≤ w ∧ w ≤ 3) : ∀ (m : Nat) (c su cn acc : Int), RelA w su cn acc → RelQ w (gvW K Er R (200 + w) m c (su, cn, 0)) (rowv K Er R w m c acc)
  | 0, c, su, cn, acc, h => ⟨fun _ => ⟨rfl, h⟩, fun h => absurd rfl h⟩
  | m + 1, c, su, cn, acc, h => by
    rw [gvW, rowv]
    exact RelQ_bnd (F := gvW K Er R (200 + w) m (c + 1)) (gvC_rel hE hw h) (fun q hq => gvW_w m _ q hq) (fun su cn acc h => gvW_rel hE hw m (c + 1) su cn acc h)
theorem gvS_rel {K Er R : Int → Int} (hE : okE Er R) {w : Int} (hw : 0 ≤ w ∧ w ≤ 3) (m : Nat) : ∀ (n : Nat) (c su cn acc : Int), RelA w su cn acc → RelQ w (gvS K Er R (200 + w) m n c (su, cn, 0)) (rowsv K Er R w m n c acc)
  | 0, c, su, cn, acc, h => ⟨fun _ => ⟨rfl, h⟩, fun h => absurd rfl h⟩
  | n + 1, c, su, cn, acc, h => by
    rw [gvS, rowsv]
    exact RelQ_bnd (F := gvS K Er R (200 + w) m n (c + 10)) (gvW_rel hE hw m c su cn acc h) (fun q hq => gvS_w n _ q hq) (fun su cn acc h => gvS_rel hE hw m n (c + 10) su cn acc h)
theorem gvR_rel {K Er R : Int → Int} (hE : okE Er R) {w a b su cn acc : Int} (hw : 0 ≤ w ∧ w ≤ 3) (h : RelA w su cn acc) : RelQ w (gvR K Er R (200 + w) a b (su, cn, 0)) (rngv K Er R w a b acc) := gvS_rel hE hw _ _ _ su cn acc h
/-! over a part that is not read -/
def SkL (te : Bool) (lo : Int) (l : List Int) : Prop := ∀ (ms : List Int) (dd a : Int) (k : Nat), AtM ms a l → lo ≤ dd → skF ms te (k + l.length) dd a = skF ms te k dd (a + l.length)
theorem SkL_app {te : Bool} {lo : Int} {l l' : List Int} (h : SkL te lo l) (h' : SkL te lo l') : SkL te lo (l ++ l') := fun ms dd a k hA hd => by
  rw [AtM_app] at hA
  rw [List.length_append, show k + (l.length + l'.length) = (k + l'.length) + l.length by omega, h ms dd a _ hA.1 hd, h' ms dd _ k hA.2 hd]
  congr 1
  omega
theorem SkL_mono {te : Bool} {lo lo' : Int} {l : List Int} (h : SkL te lo l) (hl : lo ≤ lo') : SkL te lo' l := fun ms dd a k hA hd => h ms dd a k hA (by omega)
theorem SkL_one {te : Bool} {x : Int} (h1 : ¬ x = 40) (h2 : ¬ x = 41) (h3 : ¬ x = 44) : SkL te 0 [x] := fun ms dd a k hA hd => by
  show skF ms te (k + 1) dd a = _
  rw [skF, hA.1, if_neg h1, if_neg h2, if_pos ⟨by omega, .inr (.inr h3)⟩, Int.add_zero]
  rfl
theorem SkL_comma {te : Bool} : SkL te 1 [44] := fun ms dd a k hA hd => by
  show skF ms te (k + 1) dd a = _
  rw [skF, hA.1, if_neg (show ¬ (44 : Int) = 40 by decide), if_neg (show ¬ (44 : Int) = 41 by decide), if_pos ⟨by omega, .inr (.inl (by omega))⟩, Int.add_zero]
  rfl
theorem SkL_par {te : Bool} {l : List Int} (h : SkL te 1 l) : SkL te 0 (40 :: (l ++ [41])) := fun ms dd a k hA hd => by
  rw [AtM, AtM_app] at hA
  obtain ⟨h1, h2, h3, -⟩ := hA
  rw [List.length_cons, List.length_append, show k + (l.length + [(41 : Int)].length + 1) = ((k + 1) + l.length) + 1 by simp; omega, skF, h1, if_pos rfl, if_pos ⟨by omega, .inr (.inl (by omega))⟩, h ms (dd + 1) (a + 1) (k + 1) h2 (by omega), skF, h3, if_neg (show ¬ (41 : Int) = 40 by decide), if_pos (show (41 : Int) = 41 from rfl), if_pos ⟨by omega, .inr (.inr (by decide))⟩]
  congr 1
  · omega
  · simp; omega
theorem mk1_325 : mk1 325 = [40] := by decide
theorem mk1_333 : mk1 333 = [41] := by decide
theorem mk1_357 : mk1 357 = [44] := by decide
theorem mk1_365 : mk1 365 = [45] := by decide
theorem mk1_op (op : Int) : mk1 (op * 8 + 5) = [op] := by
  unfold mk1
  rw [if_neg (by omega), if_neg (by omega), if_neg (by omega), if_neg (by omega), if_pos (by omega), show (op * 8 + 5) / 8 = op by omega]
theorem mk1_call (k : Int) : mk1 (k * 8 + 6) = [200 + k, 40] := by
  unfold mk1
  rw [if_neg (by omega), if_neg (by omega), if_neg (by omega), if_neg (by omega), if_neg (by omega), show (k * 8 + 6) / 8 = k by omega]
theorem mks_cons (t : Int) (L : List Int) : mks (t :: L) = mk1 t ++ mks L := rfl
theorem mks_par (L : List Int) : mks (325 :: (L ++ [333])) = 40 :: (mks L ++ [41]) := by
  rw [mks_cons, mks_app, mks_cons, mk1_325, mk1_333]; rfl
theorem mks_fun (k : Int) (L : List Int) : mks ((k * 8 + 6) :: (L ++ [333])) = (200 + k) :: 40 :: (mks L ++ [41]) := by
  rw [mks_cons, mks_app, mks_cons, mk1_call, mk1_333]; rfl
theorem mks_if (L L1 L2 : List Int) : mks (46 :: (L ++ 357 :: (L1 ++ 357 :: (L2 ++ [333])))) = 205 :: 40 :: (mks L ++ 44 :: (mks L1 ++ 44 :: (mks L2 ++ [41]))) := by
  rw [mks_cons, mks_app, mks_cons, mks_app, mks_cons, mks_app, mks_cons, mk1_357, mk1_333, show (46 : Int) = 5 * 8 + 6 by decide, mk1_call]; rfl
theorem mks_bin (op : Int) (L L1 : List Int) : mks (L ++ (op * 8 + 5) :: L1) = mks L ++ op :: mks L1 := by
  rw [mks_app, mks_cons, mk1_op]; rfl
theorem mks_neg (L : List Int) : mks (365 :: L) = 45 :: mks L := by rw [mks_cons, mk1_365]; rfl
theorem mks_more (L L1 : List Int) : mks (L ++ 357 :: L1) = mks L ++ 44 :: mks L1 := by
  rw [mks_app, mks_cons, mk1_357]; rfl
theorem spm_rng {s : Int} (h : okS s) : 2000000 ≤ spm s ∧ spm s < 3000000 := by
  unfold okS at h; unfold spm; split <;> split <;> omega
theorem tgt_spm {s : Int} (h : okS s) : tgt (spm s) = clp s := by
  unfold okS at h
  unfold tgt spm clp
  rw [if_pos h.2.2]
  split <;> split <;> omega
/-- the mark of an operand without a call -/
theorem mk1_leaf {t : Int} (h : okL t) : ∃ x, mk1 t = [x] ∧ 10000 ≤ x := by
  unfold mk1
  rcases h with h | h | h
  · rw [if_pos h.1]; exact ⟨_, rfl, by omega⟩
  · rw [if_neg (by omega), if_pos h.1]; exact ⟨_, rfl, by have := spm_rng h.2; omega⟩
  · subst h; exact ⟨3000000, by decide, by decide⟩
theorem mk1_rng {t : Int} (h : okR t) : mk1 t = [spm (t / 8 % 1024), 58, spm (t / 8 / 1024)] := by
  unfold mk1
  rw [if_neg (by have := h.1; omega), if_neg (by have := h.1; omega), if_pos h.1]
theorem mks_1 (t : Int) : mks [t] = mk1 t := by rw [mks_cons]; exact List.append_nil _
theorem SkL_fun {te : Bool} {x : Int} {l : List Int} (hx : 200 ≤ x) (h : SkL te 1 l) : SkL te 0 (x :: 40 :: (l ++ [41])) :=
  SkL_app (l := [x]) (SkL_one (by omega) (by omega) (by omega)) (SkL_par h)
theorem skL_tr (te : Bool) : ∀ s r n L v, Tr s r n L v → (s = 0 → SkL te 0 (mks L)) ∧ SkL te 1 (mks L) := by
  have lift : ∀ {s : Nat} {l : List Int}, SkL te 0 l → (s = 0 → SkL te 0 l) ∧ SkL te 1 l := fun h => ⟨fun _ => h, SkL_mono h (by decide)⟩
  refine Tr_ind ?_ ?_ ?_ ?_ ?_ ?_ ?_ ?_ ?_ ?_ ?_
  · intro t ht
    obtain ⟨x, e, hx⟩ := mk1_leaf ht
    rw [mks_1, e]
    exact lift (SkL_one (by omega) (by omega) (by omega))
  · intro r n L v _ h
    rw [mks_par]; exact lift (SkL_par h.2)
  · intro r n L v _ h
    rw [show (38 : Int) = 4 * 8 + 6 by decide, mks_fun]; exact lift (SkL_fun (by decide) h.2)
  · intro r n L v r1 n1 L1 v1 r2 n2 L2 v2 _ _ _ h h1 h2
    rw [mks_if]
    have e : (mks L ++ 44 :: (mks L1 ++ 44 :: (mks L2 ++ [41]))) = (mks L ++ [44] ++ mks L1 ++ [44] ++ mks L2) ++ [41] := by simp
    rw [e]
    exact lift (SkL_fun (by decide) (SkL_app (SkL_app (SkL_app (SkL_app h.2 SkL_comma) h1.2) SkL_comma) h2.2))
  · intro w r n L v w0 w3 _ h
    rw [mks_fun]; exact lift (SkL_fun (by omega) h.2)
  · intro r n L v _ h _
    rw [mks_neg]; exact lift (SkL_app (l := [45]) (SkL_one (by decide) (by decide) (by decide)) (h.1 rfl))
  · intro op r n L v r1 n1 L1 v1 ho _ _ h h1 _ _ _
    rw [mks_bin]
    unfold isO at ho
    exact lift (SkL_app (h.1 rfl) (SkL_app (l := [op]) (SkL_one (by omega) (by omega) (by omega)) (h1.1 rfl)))
  · intro r n L v _ h
    exact ⟨fun h => absurd h (by decide), h.2⟩
  · intro t ht
    rw [mks_1, mk1_rng ht]
    have a := spm_rng ht.2.1
    have b := spm_rng ht.2.2
    exact lift (SkL_app (l := [_]) (SkL_one (by omega) (by omega) (by omega)) (SkL_app (l := [58]) (SkL_one (by decide) (by decide) (by decide)) (SkL_one (by omega) (by omega) (by omega))))
  · intro r n L v _ h
    exact ⟨fun h => absurd h (by decide), h.2⟩
  · intro r n L v r1 n1 L1 v1 _ _ h h1
    rw [mks_more]
    exact ⟨fun h => absurd h (by decide), SkL_app h.2 (SkL_app (l := [44]) SkL_comma h1.2)⟩
/-- the last marks are no ":" -/
theorem last_tr : ∀ s r n L v, Tr s r n L v → 1 ≤ (mks L).length ∧ ∀ ms a, AtM ms a (mks L) → ¬ mkat ms (a + (mks L).length - 1) = 58 ∧ (s = 0 → 2 ≤ (mks L).length → ¬ mkat ms (a + (mks L).length - 2) = 58) := by
  refine Tr_ind ?_ ?_ ?_ ?_ ?_ ?_ ?_ ?_ ?_ ?_ ?_
  · intro t ht
    obtain ⟨x, e, hx⟩ := mk1_leaf ht
    rw [mks_1, e]
    refine ⟨by simp, fun ms a hA => ⟨?_, fun _ h => by simp at h⟩⟩
    rw [show a + (([x] : List Int).length : Int) - 1 = a by simp, hA.1]; omega
  · intro r n L v _ h
    rw [mks_par]
    refine ⟨by simp, fun ms a hA => ?_⟩
    rw [AtM, AtM_app] at hA
    have h2 := (h.2 ms (a + 1) hA.2.1).1
    simp only [List.length_cons, List.length_append, List.length_nil]
    refine ⟨?_, fun _ _ => ?_⟩
    · rw [show a + (((mks L).length + (0 + 1) + 1 : Nat) : Int) - 1 = a + 1 + (mks L).length by omega, hA.2.2.1]; decide
    · rw [show a + (((mks L).length + (0 + 1) + 1 : Nat) : Int) - 2 = a + 1 + (mks L).length - 1 by omega]; exact h2
  · intro r n L v _ h
    rw [show (38 : Int) = 4 * 8 + 6 by decide, mks_fun]
    refine ⟨by simp, fun ms a hA => ?_⟩
    rw [AtM, AtM, AtM_app] at hA
    have h2 := (h.2 ms (a + 1 + 1) hA.2.2.1).1
    simp only [List.length_cons, List.length_append, List.length_nil]
    refine ⟨?_, fun _ _ => ?_⟩
    · rw [show a + (((mks L).length + (0 + 1) + 1 + 1 : Nat) : Int) - 1 = a + 1 + 1 + (mks L).length by omega, hA.2.2.2.1]; decide
    · rw [show a + (((mks L).length + (0 + 1) + 1 + 1 : Nat) : Int) - 2 = a + 1 + 1 + (mks L).length - 1 by omega]; exact h2
  · intro r n L v r1 n1 L1 v1 r2 n2 L2 v2 _ _ _ h h1 h2
    rw [mks_if]
    refine ⟨by simp, fun ms a hA => ?_⟩
    rw [AtM, AtM, AtM_app, AtM, AtM_app, AtM, AtM_app] at hA
    obtain ⟨-, -, -, -, -, -, h3, h4, -⟩ := hA
    have h5 := (h2.2 ms _ h3).1
    simp only [List.length_cons, List.length_append, List.length_nil]
    refine ⟨?_, fun _ _ => ?_⟩
    · rw [show a + (((mks L).length + ((mks L1).length + ((mks L2).length + (0 + 1) + 1) + 1) + 1 + 1 : Nat) : Int) - 1 = a + 1 + 1 + (mks L).length + 1 + (mks L1).length + 1 + (mks L2).length by omega, h4]; decide
    · rw [show a + (((mks L).length + ((mks L1).length + ((mks L2).length + (0 + 1) + 1) + 1) + 1 + 1 : Nat) : Int) - 2 = a + 1 + 1 + (mks L).length + 1 + (mks L1).length + 1 + (mks L2).length - 1 by omega]; exact h5
  · intro w r n L v w0 w3 _ h
    rw [mks_fun]
    refine ⟨by simp, fun ms a hA => ?_⟩
    rw [AtM, AtM, AtM_app] at hA
    have h2 := (h.2 ms (a + 1 + 1) hA.2.2.1).1
    simp only [List.length_cons, List.length_append, List.length_nil]
    refine ⟨?_, fun _ _ => ?_⟩
    · rw [show a + (((mks L).length + (0 + 1) + 1 + 1 : Nat) : Int) - 1 = a + 1 + 1 + (mks L).length by omega, hA.2.2.2.1]; decide
    · rw [show a + (((mks L).length + (0 + 1) + 1 + 1 : Nat) : Int) - 2 = a + 1 + 1 + (mks L).length - 1 by omega]; exact h2
  · intro r n L v _ h _
    rw [mks_neg]
    refine ⟨by simp, fun ms a hA => ?_⟩
    rw [AtM] at hA
    have h2 := h.2 ms (a + 1) hA.2
    have hl := h.1
    simp only [List.length_cons]
    refine ⟨?_, fun _ _ => ?_⟩
    · rw [show a + (((mks L).length + 1 : Nat) : Int) - 1 = a + 1 + (mks L).length - 1 by omega]; exact h2.1
    · by_cases e : (mks L).length = 1
      · rw [show a + (((mks L).length + 1 : Nat) : Int) - 2 = a by omega, hA.1]; decide
      · rw [show a + (((mks L).length + 1 : Nat) : Int) - 2 = a + 1 + (mks L).length - 2 by omega]; exact h2.2 rfl (by omega)
  · intro op r n L v r1 n1 L1 v1 ho _ _ h h1 _ _ _
    rw [mks_bin]
    refine ⟨by simp only [List.length_append, List.length_cons]; omega, fun ms a hA => ?_⟩
    rw [AtM_app, AtM] at hA
    have h2 := h1.2 ms _ hA.2.2
    have hl := h1.1
    unfold isO at ho
    simp only [List.length_cons, List.length_append]
    refine ⟨?_, fun _ _ => ?_⟩
    · rw [show a + (((mks L).length + ((mks L1).length + 1) : Nat) : Int) - 1 = a + (mks L).length + 1 + (mks L1).length - 1 by omega]; exact h2.1
    · by_cases e : (mks L1).length = 1
      · rw [show a + (((mks L).length + ((mks L1).length + 1) : Nat) : Int) - 2 = a + (mks L).length by omega, hA.2.1]; omega
      · rw [show a + (((mks L).length + ((mks L1).length + 1) : Nat) : Int) - 2 = a + (mks L).length + 1 + (mks L1).length - 2 by omega]; exact h2.2 rfl (by omega)
  · intro r n L v _ h
    exact ⟨h.1, fun ms a hA => ⟨(h.2 ms a hA).1, fun h => absurd h (by decide)⟩⟩
  · intro t ht
    rw [mks_1, mk1_rng ht]
    have b := spm_rng ht.2.2
    refine ⟨by simp, fun ms a hA => ⟨?_, fun h => absurd h (by decide)⟩⟩
    have := hA.2.2.1
    rw [show a + (([spm (t / 8 % 1024), 58, spm (t / 8 / 1024)] : List Int).length : Int) - 1 = a + 1 + 1 by simp; omega, this]; omega
  · intro r n L v _ h
    exact ⟨h.1, fun ms a hA => ⟨(h.2 ms a hA).1, fun h => absurd h (by decide)⟩⟩
  · intro r n L v r1 n1 L1 v1 _ _ h h1
    rw [mks_more]
    refine ⟨by simp only [List.length_append, List.length_cons]; omega, fun ms a hA => ⟨?_, fun h => absurd h (by decide)⟩⟩
    rw [AtM_app, AtM] at hA
    have h2 := h1.2 ms _ hA.2.2
    simp only [List.length_cons, List.length_append]
    rw [show a + (((mks L).length + ((mks L1).length + 1) : Nat) : Int) - 1 = a + (mks L).length + 1 + (mks L1).length - 1 by omega]; exact h2.1
/-! the machine computes what a formula is worth -/
def OuE (ms : List Int) (K Er R : Int → Int) (s0 : Mc) (b r : Int) (v : Int × Int) (p : List Int) (D : List (Int × Int × Int)) : Prop :=
  (v.1 = 0 → ∃ p' D', Run ms K Er R s0 (p', D', b, 0, 0) ∧ ∀ k, 1 ≤ k → k ≤ r → wd k D' p' 0 = wd k D (v.2 :: p) 0) ∧
  (¬ v.1 = 0 → (∃ s', Run ms K Er R s0 s' ∧ s'.2.2.2.2 = v.1) ∨ ∃ p' D', Run ms K Er R s0 (p', D', b, 0, 0) ∧ ∀ k, 1 ≤ k → k ≤ r → ∃ p'' D'', wd k D' p' 0 = some (p'', D'', v.1))
def OuA (ms : List Int) (K Er R : Int → Int) (s0 : Mc) (b w : Int) (v : Int × Int) (p : List Int) (D : List (Int × Int × Int)) : Prop :=
  (¬ v.1 = 0 ∧ ∃ s', Run ms K Er R s0 s' ∧ s'.2.2.2.2 = v.1) ∨
  ∃ p' D', Run ms K Er R s0 (p', D', b, 0, 0) ∧ ((¬ v.1 = 0 ∧ ∃ p'' D'', wd 1 D' p' 0 = some (p'', D'', v.1)) ∨
    ∃ p1 su1 cn1 p3 su3 cn3 w3, wd 1 D' p' 0 = some (p1, (200 + w, su1, cn1) :: D, 0) ∧ enA ms b p1 ((200 + w, su1, cn1) :: D) = some (p3, (200 + w, su3, cn3) :: D, w3) ∧ (v.1 = 0 → w3 = 0 ∧ p3 = p ∧ RelA w su3 cn3 v.2) ∧ (¬ v.1 = 0 → w3 = v.1))
theorem OuE_run {ms : List Int} {K Er R : Int → Int} {s0 s1 : Mc} {b r : Int} {v : Int × Int} {p : List Int} {D : List (Int × Int × Int)} (h0 : Run ms K Er R s0 s1) (h : OuE ms K Er R s1 b r v p D) : OuE ms K Er R s0 b r v p D := by
  refine ⟨fun e => ?_, fun e => ?_⟩
  · obtain ⟨p', D', h1, h2⟩ := h.1 e
    exact ⟨p', D', Run_trans h0 h1, h2⟩
  · rcases h.2 e with ⟨s', h1, h2⟩ | ⟨p', D', h1, h2⟩
    · exact .inl ⟨s', Run_trans h0 h1, h2⟩
    · exact .inr ⟨p', D', Run_trans h0 h1, h2⟩
theorem OuA_run {ms : List Int} {K Er R : Int → Int} {s0 s1 : Mc} {b w : Int} {v : Int × Int} {p : List Int} {D : List (Int × Int × Int)} (h0 : Run ms K Er R s0 s1) (h : OuA ms K Er R s1 b w v p D) : OuA ms K Er R s0 b w v p D := by
  rcases h with ⟨e, s', h1, h2⟩ | ⟨p', D', h1, h2⟩
  · exact .inl ⟨e, s', Run_trans h0 h1, h2⟩
  · exact .inr ⟨p', D', Run_trans h0 h1, h2⟩
theorem OuE_w {ms : List Int} {K Er R : Int → Int} {s0 s' : Mc} {b r e z : Int} {p : List Int} {D : List (Int × Int × Int)} (he : 0 < e) (h : Run ms K Er R s0 s') (hw : s'.2.2.2.2 = e) : OuE ms K Er R s0 b r (e, z) p D :=
  ⟨fun h => by have h : e = 0 := h; omega, fun _ => .inl ⟨s', h, hw⟩⟩
theorem OuE_z {ms : List Int} {K Er R : Int → Int} {s0 : Mc} {b r z : Int} {p : List Int} {D : List (Int × Int × Int)} (h : Run ms K Er R s0 (z :: p, D, b, 0, 0)) : OuE ms K Er R s0 b r (0, z) p D :=
  ⟨fun _ => ⟨_, _, h, fun _ _ _ => rfl⟩, fun h => absurd rfl h⟩
theorem tkB_err {ms : List Int} {p p1 : List Int} {D D1 : List (Int × Int × Int)} {b e : Int} (hk : mkat ms b = 44 ∨ mkat ms b = 41) (h : wd 1 D p 0 = some (p1, D1, e)) (he : 0 < e) : tkB ms p D b = some (p1, D1, b, 0, e) := by
  unfold tkB
  rw [if_pos hk, h]
  dsimp only
  rw [if_pos he]
theorem OuE_err {ms : List Int} {K Er R : Int → Int} {s0 : Mc} {b r : Int} {v : Int × Int} {p : List Int} {D : List (Int × Int × Int)} (h : OuE ms K Er R s0 b r v p D) (h0 : 0 < v.1) (hk : mkat ms b = 44 ∨ mkat ms b = 41) (hb : b < ms.length) (hr : 1 ≤ r) : ∃ s', Run ms K Er R s0 s' ∧ s'.2.2.2.2 = v.1 := by
  rcases h.2 (by omega) with h | ⟨p', D', h1, h2⟩
  · exact h
  · obtain ⟨p'', D'', h3⟩ := h2 1 (by omega) hr
    exact ⟨_, Run_trans h1 (Run_B hb (tkB_err hk h3 h0)), rfl⟩
theorem psh_ok {p : List Int} {v : Int} (h : -999999999 ≤ v ∧ v ≤ 999999999) : psh p 0 v = (v :: p, 0) := by unfold psh; rw [if_neg (fun h' => h'.2 h)]
theorem psh_w {p : List Int} {w v : Int} (h : ¬ w = 0) : psh p w v = (v :: p, w) := by unfold psh; rw [if_neg (fun h' => h h'.1)]
theorem psh_big {p : List Int} {v : Int} (h : ¬ (-999999999 ≤ v ∧ v ≤ 999999999)) : psh p 0 v = (v :: p, 2) := by unfold psh; rw [if_pos ⟨rfl, h⟩]
theorem wks_opv {op x y : Int} {p : List Int} (ho : isO op) (hx : -999999999 ≤ x ∧ x ≤ 999999999) : ∃ p' w', wks op (y :: x :: p) = some (p', w') ∧ ((opv op x y).1 = 0 → p' = (opv op x y).2 :: p ∧ w' = 0) ∧ (¬ (opv op x y).1 = 0 → w' = (opv op x y).1) := by
  unfold isO at ho
  rw [wks, if_neg (by omega)]
  have lim' : ∀ z, ∃ p' w', some (psh p 0 z) = some (p', w') ∧ ((lim z).1 = 0 → p' = (lim z).2 :: p ∧ w' = 0) ∧ (¬ (lim z).1 = 0 → w' = (lim z).1) := fun z => by
    unfold lim
    by_cases h : -999999999 ≤ z ∧ z ≤ 999999999
    · rw [psh_ok h, if_pos h]; exact ⟨_, _, rfl, fun _ => ⟨rfl, rfl⟩, fun h => absurd rfl h⟩
    · rw [psh_big h, if_neg h]; exact ⟨_, _, rfl, fun h => absurd h (by decide), fun _ => rfl⟩
  have ok : ∀ z, -999999999 ≤ z ∧ z ≤ 999999999 → ∃ p' w', some (psh p 0 z) = some (p', w') ∧ (((0, z) : Int × Int).1 = 0 → p' = ((0, z) : Int × Int).2 :: p ∧ w' = 0) ∧ (¬ ((0, z) : Int × Int).1 = 0 → w' = ((0, z) : Int × Int).1) := fun z h => by
    rw [psh_ok h]; exact ⟨_, _, rfl, fun _ => ⟨rfl, rfl⟩, fun h => absurd rfl h⟩
  by_cases e47 : op = 47
  · subst e47
    have eo : opv 47 x y = if y = 0 then (1, 0) else (0, x.fdiv y) := by unfold opv; rw [if_neg (by decide), if_neg (by decide), if_neg (by decide), if_pos rfl]
    rw [eo]
    by_cases hy : y = 0
    · rw [if_pos hy]
      dsimp only
      rw [if_pos ⟨rfl, hy⟩]
      exact ⟨_, _, rfl, fun h => absurd h (by decide), fun _ => rfl⟩
    · rw [if_neg hy]
      dsimp only
      rw [if_neg (fun h => hy h.2), if_pos rfl]
      exact ok _ (fdiv_rng hx.1 hx.2)
  · rw [if_neg (fun h => e47 h.1), if_neg e47]
    rcases ho with e | e | e | e | e | e | e <;> subst e
    · have e1 : wkR 42 x y = x * y := by unfold wkR; rw [if_neg (by decide), if_neg (by decide), if_pos rfl]
      have e2 : opv 42 x y = lim (x * y) := by unfold opv; rw [if_neg (by decide), if_neg (by decide), if_pos rfl]
      rw [e1, e2]; exact lim' _
    · exact absurd rfl e47
    · have e1 : wkR 43 x y = x + y := by unfold wkR; rw [if_pos rfl]
      have e2 : opv 43 x y = lim (x + y) := by unfold opv; rw [if_pos rfl]
      rw [e1, e2]; exact lim' _
    · have e1 : wkR 45 x y = x - y := by unfold wkR; rw [if_neg (by decide), if_pos rfl]
      have e2 : opv 45 x y = lim (x - y) := by unfold opv; rw [if_neg (by decide), if_pos rfl]
      rw [e1, e2]; exact lim' _
    · have e1 : wkR 60 x y = if x < y then 1 else 0 := by unfold wkR; rw [if_neg (by decide), if_neg (by decide), if_neg (by decide), if_pos rfl]
      have e2 : opv 60 x y = (0, if x < y then 1 else 0) := by unfold opv; rw [if_neg (by decide), if_neg (by decide), if_neg (by decide), if_neg (by decide), if_pos rfl]
      rw [e1, e2]; exact ok _ (by split <;> omega)
    · have e1 : wkR 61 x y = if x = y then 1 else 0 := by unfold wkR; rw [if_neg (by decide), if_neg (by decide), if_neg (by decide), if_neg (by decide), if_neg (by decide)]
      have e2 : opv 61 x y = (0, if x = y then 1 else 0) := by unfold opv; rw [if_neg (by decide), if_neg (by decide), if_neg (by decide), if_neg (by decide), if_neg (by decide), if_neg (by decide)]
      rw [e1, e2]; exact ok _ (by split <;> omega)
    · have e1 : wkR 62 x y = if y < x then 1 else 0 := by unfold wkR; rw [if_neg (by decide), if_neg (by decide), if_neg (by decide), if_neg (by decide), if_pos rfl]
      have e2 : opv 62 x y = (0, if y < x then 1 else 0) := by unfold opv; rw [if_neg (by decide), if_neg (by decide), if_neg (by decide), if_neg (by decide), if_neg (by decide), if_pos rfl]
      rw [e1, e2]; exact ok _ (by split <;> omega)
theorem mks_len : ∀ (L : List Int), L.length ≤ (mks L).length
  | [] => Nat.le_refl _
  | t :: L => by
    have := mks_len L
    have h1 : 1 ≤ (mk1 t).length := by
      unfold mk1; split
      · simp
      · split
        · simp
        · split
          · simp
          · split
            · simp
            · split <;> simp
    rw [mks_cons, List.length_append, List.length_cons]; omega
theorem isRf_y {k : Int} (h : 2000000 ≤ k ∧ k < 3000000) : isRf k = true := decide_eq_true h
theorem isRf_n {k : Int} (h : ¬ (2000000 ≤ k ∧ k < 3000000)) : ¬ isRf k = true := fun h' => h (of_decide_eq_true h')
theorem rnk_f {w : Int} (h : 0 ≤ w ∧ w ≤ 3) : rnk (200 + w) = 0 := by
  unfold rnk
  rw [if_neg (by omega), if_neg (by omega), if_neg (by omega), if_neg (by omega)]
/-- what is to be shown of a part -/
def MaP (ms : List Int) (K Er R : Int → Int) (s : Nat) (r : Int) (L : List Int) (v : Ev) : Prop :=
  (s = 0 → ∀ a p D, AtM ms a (mks L) → 0 ≤ a → a + (mks L).length ≤ ms.length → ¬ mkat ms (a + (mks L).length) = 58 → (topr D < r ∨ 4 ≤ r) → OuE ms K Er R (p, D, a, 1, 0) (a + (mks L).length) r (v K Er R 0 0) p D) ∧
  (¬ s = 0 → ∀ a p D w su cn acc, AtM ms a (mks L) → 0 ≤ a → a + (mks L).length ≤ ms.length → ¬ mkat ms (a + (mks L).length) = 58 → ¬ mkat ms (a - 1) = 58 → 0 ≤ w ∧ w ≤ 3 → RelA w su cn acc → 0 ≤ (v K Er R w acc).1 ∧ OuA ms K Er R (p, (200 + w, su, cn) :: D, a, 1, 0) (a + (mks L).length) w (v K Er R w acc) p D)
theorem goodV_or {p : Int × Int} (h : goodV p) : (p.1 = 0 ∧ -999999999 ≤ p.2 ∧ p.2 ≤ 999999999) ∨ 0 < p.1 := by
  rcases h with h | h
  · exact .inl h
  · exact .inr (by omega)
/-- behind a part in brackets -/
theorem MaP_in {ms : List Int} {K Er R : Int → Int} {L : List Int} {v : Ev} {r : Int} {s0 : Mc} {a f su cn : Int} {p : List Int} {D : List (Int × Int × Int)} (hE : okE Er R) (hr : 1 ≤ r) (hl : ms.length ≤ 60) (hT : ∃ n, Tr 0 r n L v) (hP : MaP ms K Er R 0 r L v) (h0 : Run ms K Er R s0 (p, (f, su, cn) :: D, a, 1, 0)) (hf : rnk f = 0) (hA : AtM ms a (mks L)) (ha : 0 ≤ a) (hb : a + (mks L).length < ms.length) (hk : mkat ms (a + (mks L).length) = 44 ∨ mkat ms (a + (mks L).length) = 41) :
    ((v K Er R 0 0).1 = 0 ∧ (-999999999 ≤ (v K Er R 0 0).2 ∧ (v K Er R 0 0).2 ≤ 999999999) ∧ ∃ p' D', Run ms K Er R s0 (p', D', a + (mks L).length, 0, 0) ∧ wd 1 D' p' 0 = some ((v K Er R 0 0).2 :: p, (f, su, cn) :: D, 0)) ∨
    (0 < (v K Er R 0 0).1 ∧ ∃ s', Run ms K Er R s0 s' ∧ s'.2.2.2.2 = (v K Er R 0 0).1) := by
  obtain ⟨n, hT⟩ := hT
  have hg := (Tr_good (K := K) hE _ _ _ _ _ hT).1 rfl (by have := mks_len L; omega)
  have ho := OuE_run h0 (hP.1 rfl a p ((f, su, cn) :: D) hA ha (by omega) (by omega) (.inl (by show rnk f < r; omega)))
  rcases goodV_or hg with ⟨e, h1⟩ | e
  · obtain ⟨p', D', h2, h3⟩ := ho.1 e
    refine .inl ⟨e, h1, p', D', h2, ?_⟩
    rw [h3 1 (by decide) hr]
    exact wd_top (by show rnk f < 1; omega)
  · exact .inr ⟨e, OuE_err ho e hk hb hr⟩
end
