/-! formulas as trees: what they are worth. A formula is what every closed P holds of -/
section
def prc (op : Int) : Int := if op = 42 ∨ op = 47 then 3 else if op = 43 ∨ op = 45 then 2 else 1
def isO (op : Int) : Prop := op = 42 ∨ op = 47 ∨ op = 43 ∨ op = 45 ∨ op = 60 ∨ op = 61 ∨ op = 62
def okS (s : Int) : Prop := 0 ≤ s ∧ s < 1024 ∧ s % 256 < 200
def okL (t : Int) : Prop := (t % 8 = 1 ∧ 0 ≤ t / 8 ∧ t / 8 ≤ 999999) ∨ (t % 8 = 2 ∧ okS (t / 8)) ∨ t = 4
def okR (t : Int) : Prop := t % 8 = 3 ∧ okS (t / 8 % 1024) ∧ okS (t / 8 / 1024)
def lim (z : Int) : Int × Int := if -999999999 ≤ z ∧ z ≤ 999999999 then (0, z) else (2, 0)
def bnd (a : Int × Int) (f : Int → Int × Int) : Int × Int := if a.1 = 0 then f a.2 else (a.1, 0)
theorem bnd_0 {a : Int × Int} {f : Int → Int × Int} (h : a.1 = 0) : bnd a f = f a.2 := if_pos h
theorem bnd_e {a : Int × Int} {f : Int → Int × Int} (h : ¬ a.1 = 0) : bnd a f = (a.1, 0) := if_neg h
def opv (op x y : Int) : Int × Int :=
  if op = 43 then lim (x + y) else if op = 45 then lim (x - y) else if op = 42 then lim (x * y)
  else if op = 47 then (if y = 0 then (1, 0) else (0, x.fdiv y))
  else if op = 60 then (0, if x < y then 1 else 0) else if op = 62 then (0, if y < x then 1 else 0) else (0, if x = y then 1 else 0)
def nothing : Int := -1000000000
def jn (w acc v : Int) : Int × Int :=
  if w = 0 then lim (acc + v) else if w = 1 then (0, if acc = nothing ∨ v < acc then v else acc) else if w = 2 then (0, if acc < v then v else acc) else (0, acc + 1)
/-- the cells c, c + 1, .. m of them -/
def rowv (K Er R : Int → Int) (w : Int) : Nat → Int → Int → Int × Int
  | 0, _, acc => (0, acc)
  | m + 1, c, acc => bnd (if K c = 0 then (0, acc) else if w = 3 then jn w acc 1 else if Er c = 0 then jn w acc (R c) else (Er c, 0)) (rowv K Er R w m (c + 1))
def rowsv (K Er R : Int → Int) (w : Int) (m : Nat) : Nat → Int → Int → Int × Int
  | 0, _, acc => (0, acc)
  | n + 1, c, acc => bnd (rowv K Er R w m c acc) (rowsv K Er R w m n (c + 10))
def imin (a b : Int) : Int := if b < a then b else a
def imax (a b : Int) : Int := if a < b then b else a
def rngv (K Er R : Int → Int) (w a b acc : Int) : Int × Int :=
  rowsv K Er R w (imax (a % 10) (b % 10) - imin (a % 10) (b % 10) + 1).toNat (imax (a / 10) (b / 10) - imin (a / 10) (b / 10) + 1).toNat (10 * imin (a / 10) (b / 10) + imin (a % 10) (b % 10)) acc

abbrev Ev : Type := (Int → Int) → (Int → Int) → (Int → Int) → Int → Int → Int × Int
def vLeaf (t : Int) : Ev := fun _ Er R _ _ => if t % 8 = 1 then (0, t / 8) else if t % 8 = 2 then (if Er (clp (t / 8)) = 0 then (0, R (clp (t / 8))) else (Er (clp (t / 8)), 0)) else (3, 0)
def vAbs (v : Ev) : Ev := fun K Er R _ _ => bnd (v K Er R 0 0) (fun x => (0, if x < 0 then -x else x))
def vIff (c a b : Ev) : Ev := fun K Er R _ _ => bnd (c K Er R 0 0) (fun x => if x = 0 then b K Er R 0 0 else a K Er R 0 0)
def vAgg (w : Int) (s : Ev) : Ev := fun K Er R _ _ => bnd (s K Er R w (if w = 1 ∨ w = 2 then nothing else 0)) (fun z => if z = nothing then (4, 0) else (0, z))
def vNeg (v : Ev) : Ev := fun K Er R _ _ => bnd (v K Er R 0 0) (fun x => (0, -x))
def vBin (op : Int) (l r : Ev) : Ev := fun K Er R _ _ => bnd (l K Er R 0 0) (fun x => bnd (r K Er R 0 0) (fun y => opv op x y))
def vOne (v : Ev) : Ev := fun K Er R w acc => bnd (v K Er R 0 0) (fun x => jn w acc x)
def vRng (t : Int) : Ev := fun K Er R w acc => rngv K Er R w (clp (t / 8 % 1024)) (clp (t / 8 / 1024 % 1024)) acc
def vMore (s a : Ev) : Ev := fun K Er R w acc => bnd (s K Er R w acc) (fun z => a K Er R w z)
abbrev Tp : Type := Nat → Int → Nat → List Int → Ev → Prop
/-- sort 0 an expression, 1 the arguments, 2 an argument; rank; nesting; words; worth -/
def TrC (P : Tp) : Prop :=
  (∀ t, okL t → P 0 5 0 [t] (vLeaf t)) ∧
  (∀ r n L v, P 0 r n L v → P 0 5 (n + 1) (325 :: (L ++ [333])) v) ∧
  (∀ r n L v, P 0 r n L v → P 0 5 (n + 1) (38 :: (L ++ [333])) (vAbs v)) ∧
  (∀ r n L v r1 n1 L1 v1 r2 n2 L2 v2, P 0 r n L v → P 0 r1 n1 L1 v1 → P 0 r2 n2 L2 v2 → P 0 5 (max n (max n1 n2) + 1) (46 :: (L ++ 357 :: (L1 ++ 357 :: (L2 ++ [333])))) (vIff v v1 v2)) ∧
  (∀ w r n L v, 0 ≤ w → w ≤ 3 → P 1 r n L v → P 0 5 (n + 1) ((w * 8 + 6) :: (L ++ [333])) (vAgg w v)) ∧
  (∀ r n L v, P 0 r n L v → 4 ≤ r → P 0 4 n (365 :: L) (vNeg v)) ∧
  (∀ op r n L v r1 n1 L1 v1, isO op → P 0 r n L v → P 0 r1 n1 L1 v1 → prc op ≤ r → prc op < r1 → 1 < r → P 0 (prc op) (max n n1) (L ++ (op * 8 + 5) :: L1) (vBin op v v1)) ∧
  (∀ r n L v, P 0 r n L v → P 2 0 n L (vOne v)) ∧
  (∀ t, okR t → P 2 0 0 [t] (vRng t)) ∧
  (∀ r n L v, P 2 r n L v → P 1 0 n L v) ∧
  (∀ r n L v r1 n1 L1 v1, P 1 r n L v → P 2 r1 n1 L1 v1 → P 1 0 (max n n1) (L ++ 357 :: L1) (vMore v v1))
def Tr : Tp := fun s r n L v => ∀ P, TrC P → P s r n L v
theorem Tr_leaf {t : Int} (h : okL t) : Tr 0 5 0 [t] (vLeaf t) := fun _ hP => hP.1 t h
theorem Tr_par {r : Int} {n : Nat} {L : List Int} {v : Ev} (h : Tr 0 r n L v) : Tr 0 5 (n + 1) (325 :: (L ++ [333])) v := fun P hP => hP.2.1 r n L v (h P hP)
theorem Tr_abs {r : Int} {n : Nat} {L : List Int} {v : Ev} (h : Tr 0 r n L v) : Tr 0 5 (n + 1) (38 :: (L ++ [333])) (vAbs v) := fun P hP => hP.2.2.1 r n L v (h P hP)
theorem Tr_iff {r r1 r2 : Int} {n n1 n2 : Nat} {L L1 L2 : List Int} {v v1 v2 : Ev} (h : Tr 0 r n L v) (h1 : Tr 0 r1 n1 L1 v1) (h2 : Tr 0 r2 n2 L2 v2) : Tr 0 5 (max n (max n1 n2) + 1) (46 :: (L ++ 357 :: (L1 ++ 357 :: (L2 ++ [333])))) (vIff v v1 v2) := fun P hP => hP.2.2.2.1 r n L v r1 n1 L1 v1 r2 n2 L2 v2 (h P hP) (h1 P hP) (h2 P hP)
theorem Tr_agg {w r : Int} {n : Nat} {L : List Int} {v : Ev} (hw : 0 ≤ w) (hw3 : w ≤ 3) (h : Tr 1 r n L v) : Tr 0 5 (n + 1) ((w * 8 + 6) :: (L ++ [333])) (vAgg w v) := fun P hP => hP.2.2.2.2.1 w r n L v hw hw3 (h P hP)
theorem Tr_neg {r : Int} {n : Nat} {L : List Int} {v : Ev} (h : Tr 0 r n L v) (h4 : 4 ≤ r) : Tr 0 4 n (365 :: L) (vNeg v) := fun P hP => hP.2.2.2.2.2.1 r n L v (h P hP) h4
theorem Tr_bin {op r r1 : Int} {n n1 : Nat} {L L1 : List Int} {v v1 : Ev} (ho : isO op) (h : Tr 0 r n L v) (h1 : Tr 0 r1 n1 L1 v1) (a : prc op ≤ r) (b : prc op < r1) (c : 1 < r) : Tr 0 (prc op) (max n n1) (L ++ (op * 8 + 5) :: L1) (vBin op v v1) := fun P hP => hP.2.2.2.2.2.2.1 op r n L v r1 n1 L1 v1 ho (h P hP) (h1 P hP) a b c
theorem Tr_one {r : Int} {n : Nat} {L : List Int} {v : Ev} (h : Tr 0 r n L v) : Tr 2 0 n L (vOne v) := fun P hP => hP.2.2.2.2.2.2.2.1 r n L v (h P hP)
theorem Tr_rng {t : Int} (h : okR t) : Tr 2 0 0 [t] (vRng t) := fun _ hP => hP.2.2.2.2.2.2.2.2.1 t h
theorem Tr_sing {r : Int} {n : Nat} {L : List Int} {v : Ev} (h : Tr 2 r n L v) : Tr 1 0 n L v := fun P hP => hP.2.2.2.2.2.2.2.2.2.1 r n L v (h P hP)
theorem Tr_more {r r1 : Int} {n n1 : Nat} {L L1 : List Int} {v v1 : Ev} (h : Tr 1 r n L v) (h1 : Tr 2 r1 n1 L1 v1) : Tr 1 0 (max n n1) (L ++ 357 :: L1) (vMore v v1) := fun P hP => hP.2.2.2.2.2.2.2.2.2.2 r n L v r1 n1 L1 v1 (h P hP) (h1 P hP)
theorem Tr_ind {P : Tp} (h1 : ∀ t, okL t → P 0 5 0 [t] (vLeaf t))
  (h2 : ∀ r n L v, Tr 0 r n L v → P 0 r n L v → P 0 5 (n + 1) (325 :: (L ++ [333])) v)
  (h3 : ∀ r n L v, Tr 0 r n L v → P 0 r n L v → P 0 5 (n + 1) (38 :: (L ++ [333])) (vAbs v))
  (h4 : ∀ r n L v r1 n1 L1 v1 r2 n2 L2 v2, Tr 0 r n L v → Tr 0 r1 n1 L1 v1 → Tr 0 r2 n2 L2 v2 → P 0 r n L v → P 0 r1 n1 L1 v1 → P 0 r2 n2 L2 v2 → P 0 5 (max n (max n1 n2) + 1) (46 :: (L ++ 357 :: (L1 ++ 357 :: (L2 ++ [333])))) (vIff v v1 v2))
  (h5 : ∀ w r n L v, 0 ≤ w → w ≤ 3 → Tr 1 r n L v → P 1 r n L v → P 0 5 (n + 1) ((w * 8 + 6) :: (L ++ [333])) (vAgg w v))
  (h6 : ∀ r n L v, Tr 0 r n L v → P 0 r n L v → 4 ≤ r → P 0 4 n (365 :: L) (vNeg v))
  (h7 : ∀ op r n L v r1 n1 L1 v1, isO op → Tr 0 r n L v → Tr 0 r1 n1 L1 v1 → P 0 r n L v → P 0 r1 n1 L1 v1 → prc op ≤ r → prc op < r1 → 1 < r → P 0 (prc op) (max n n1) (L ++ (op * 8 + 5) :: L1) (vBin op v v1))
  (h8 : ∀ r n L v, Tr 0 r n L v → P 0 r n L v → P 2 0 n L (vOne v))
  (h9 : ∀ t, okR t → P 2 0 0 [t] (vRng t))
  (h10 : ∀ r n L v, Tr 2 r n L v → P 2 r n L v → P 1 0 n L v)
  (h11 : ∀ r n L v r1 n1 L1 v1, Tr 1 r n L v → Tr 2 r1 n1 L1 v1 → P 1 r n L v → P 2 r1 n1 L1 v1 → P 1 0 (max n n1) (L ++ 357 :: L1) (vMore v v1)) :
  ∀ s r n L v, Tr s r n L v → P s r n L v := fun s r n L v h =>
  (h (fun s r n L v => Tr s r n L v ∧ P s r n L v)
    ⟨fun t a => ⟨Tr_leaf a, h1 t a⟩, fun r n L v a => ⟨Tr_par a.1, h2 r n L v a.1 a.2⟩, fun r n L v a => ⟨Tr_abs a.1, h3 r n L v a.1 a.2⟩,
     fun r n L v r1 n1 L1 v1 r2 n2 L2 v2 a b c => ⟨Tr_iff a.1 b.1 c.1, h4 r n L v r1 n1 L1 v1 r2 n2 L2 v2 a.1 b.1 c.1 a.2 b.2 c.2⟩,
     fun w r n L v a b c => ⟨Tr_agg a b c.1, h5 w r n L v a b c.1 c.2⟩, fun r n L v a b => ⟨Tr_neg a.1 b, h6 r n L v a.1 a.2 b⟩,
     fun op r n L v r1 n1 L1 v1 o a b c d e => ⟨Tr_bin o a.1 b.1 c d e, h7 op r n L v r1 n1 L1 v1 o a.1 b.1 a.2 b.2 c d e⟩,
     fun r n L v a => ⟨Tr_one a.1, h8 r n L v a.1 a.2⟩, fun t a => ⟨Tr_rng a, h9 t a⟩, fun r n L v a => ⟨Tr_sing a.1, h10 r n L v a.1 a.2⟩,
     fun r n L v r1 n1 L1 v1 a b => ⟨Tr_more a.1 b.1, h11 r n L v r1 n1 L1 v1 a.1 b.1 a.2 b.2⟩⟩).2
/-- nesting is bounded by the length -/
theorem Tr_len : ∀ s r n L v, Tr s r n L v → 2 * n + 1 ≤ L.length ∧ s ≤ 2 ∧ (s = 0 → 1 ≤ r ∧ r ≤ 5) := by
  have prc_rng : ∀ op : Int, 1 ≤ prc op ∧ prc op ≤ 5 := fun op => by unfold prc; split <;> (try split) <;> omega
  refine Tr_ind ?_ ?_ ?_ ?_ ?_ ?_ ?_ ?_ ?_ ?_ ?_
  · intros; (try simp only [List.length_cons, List.length_append, List.length_nil] at *); omega
  · intros; (try simp only [List.length_cons, List.length_append, List.length_nil] at *); omega
  · intros; (try simp only [List.length_cons, List.length_append, List.length_nil] at *); omega
  · intros; (try simp only [List.length_cons, List.length_append, List.length_nil] at *); omega
  · intros; (try simp only [List.length_cons, List.length_append, List.length_nil] at *); omega
  · intros; (try simp only [List.length_cons, List.length_append, List.length_nil] at *); omega
  · intro op; have := prc_rng op; intros; simp only [List.length_cons, List.length_append] at *; omega
  · intros; (try simp only [List.length_cons, List.length_append, List.length_nil] at *); omega
  · intros; (try simp only [List.length_cons, List.length_append, List.length_nil] at *); omega
  · intros; (try simp only [List.length_cons, List.length_append, List.length_nil] at *); omega
  · intros; (try simp only [List.length_cons, List.length_append, List.length_nil] at *); omega
/-! what a formula is worth is in its range -/
def goodV (p : Int × Int) : Prop := (p.1 = 0 ∧ -999999999 ≤ p.2 ∧ p.2 ≤ 999999999) ∨ (1 ≤ p.1 ∧ p.1 ≤ 5 ∧ p.2 = 0)
def goodA (p : Int × Int) : Prop := (p.1 = 0 ∧ ((-999999999 ≤ p.2 ∧ p.2 ≤ 999999999) ∨ p.2 = nothing)) ∨ (1 ≤ p.1 ∧ p.1 ≤ 5 ∧ p.2 = 0)
theorem goodV_bnd {a : Int × Int} {f : Int → Int × Int} (h : goodV a) (hf : ∀ x, -999999999 ≤ x → x ≤ 999999999 → goodV (f x)) : goodV (bnd a f) := by
  rcases h with ⟨h1, h2, h3⟩ | ⟨h1, h2, h3⟩
  · rw [bnd_0 h1]; exact hf _ h2 h3
  · rw [bnd_e (by omega)]; exact .inr ⟨h1, h2, rfl⟩
theorem goodV_lim (z : Int) : goodV (lim z) := by
  unfold lim; split
  · next h => exact .inl ⟨rfl, h.1, h.2⟩
  · exact .inr ⟨by decide, by decide, rfl⟩
theorem goodV_01 {p : Prop} [Decidable p] : goodV (0, if p then 1 else 0) := .inl ⟨rfl, by dsimp only; split <;> omega, by dsimp only; split <;> omega⟩
theorem fdiv_rng {x y : Int} (hx : -999999999 ≤ x) (hx2 : x ≤ 999999999) : -999999999 ≤ x.fdiv y ∧ x.fdiv y ≤ 999999999 := by
  have := Int.natAbs_fdiv_le_natAbs x y
  omega
theorem goodV_opv {op x y : Int} (hx : -999999999 ≤ x) (hx2 : x ≤ 999999999) : goodV (opv op x y) := by
  unfold opv
  split
  · exact goodV_lim _
  split
  · exact goodV_lim _
  split
  · exact goodV_lim _
  split
  · split
    · exact .inr ⟨by decide, by decide, rfl⟩
    · exact .inl ⟨rfl, fdiv_rng hx hx2⟩
  split
  · exact goodV_01
  split
  · exact goodV_01
  · exact goodV_01
/-- what is gathered is in its range -/
def goodG (w n : Int) (p : Int × Int) : Prop :=
  (p.1 = 0 ∧ ((w = 0 ∧ -999999999 ≤ p.2 ∧ p.2 ≤ 999999999) ∨ ((w = 1 ∨ w = 2) ∧ ((-999999999 ≤ p.2 ∧ p.2 ≤ 999999999) ∨ p.2 = nothing)) ∨ (w = 3 ∧ 0 ≤ p.2 ∧ p.2 ≤ n))) ∨ (1 ≤ p.1 ∧ p.1 ≤ 5 ∧ p.2 = 0)
theorem goodG_mono {w n n' : Int} {p : Int × Int} (h : goodG w n p) (hn : n ≤ n') : goodG w n' p := by
  unfold goodG at h ⊢; omega
theorem goodG_bnd {w n n' : Int} {a : Int × Int} {f : Int → Int × Int} (h : goodG w n a) (hf : ∀ z, goodG w n (0, z) → goodG w n' (f z)) : goodG w n' (bnd a f) := by
  by_cases h1 : a.1 = 0
  · rw [bnd_0 h1]
    refine hf _ ?_
    unfold goodG at h ⊢
    dsimp only
    omega
  · rw [bnd_e h1]
    unfold goodG at h ⊢
    dsimp only
    omega
theorem goodG_jn {w n acc v : Int} (hw : 0 ≤ w) (hw3 : w ≤ 3) (h : goodG w n (0, acc)) (hv : -999999999 ≤ v ∧ v ≤ 999999999) : goodG w (n + 1) (jn w acc v) := by
  unfold jn
  split
  · next e =>
    rcases goodV_lim (acc + v) with h1 | h1
    · exact .inl ⟨h1.1, .inl ⟨e, h1.2⟩⟩
    · exact .inr h1
  split
  · next e =>
    refine .inl ⟨rfl, .inr (.inl ⟨.inl e, ?_⟩)⟩
    unfold goodG at h
    dsimp only at h ⊢
    split <;> omega
  split
  · next e =>
    refine .inl ⟨rfl, .inr (.inl ⟨.inr e, ?_⟩)⟩
    unfold goodG at h
    dsimp only at h ⊢
    split <;> omega
  · next e1 e2 e3 =>
    refine .inl ⟨rfl, .inr (.inr ⟨by omega, ?_⟩)⟩
    unfold goodG at h
    dsimp only at h ⊢
    omega
def okE (Er R : Int → Int) : Prop := ∀ c, (Er c = 0 ∧ -999999999 ≤ R c ∧ R c ≤ 999999999) ∨ (1 ≤ Er c ∧ Er c ≤ 5)
theorem goodG_row {K Er R : Int → Int} (hE : okE Er R) {w : Int} (hw : 0 ≤ w) (hw3 : w ≤ 3) : ∀ (m : Nat) (c n acc : Int), goodG w n (0, acc) → goodG w (n + m) (rowv K Er R w m c acc)
  | 0, c, n, acc, h => goodG_mono h (by omega)
  | m + 1, c, n, acc, h => by
    rw [rowv]
    refine goodG_bnd (n := n + 1) ?_ (fun z hz => goodG_mono (goodG_row hE hw hw3 m (c + 1) (n + 1) z hz) (by omega))
    split
    · exact goodG_mono h (by omega)
    · split
      · next e => subst e; exact goodG_jn (by decide) (by decide) h (by decide)
      · split
        · next e => 
          rcases hE c with h1 | h1
          · exact goodG_jn hw hw3 h h1.2
          · omega
        · next e => 
          rcases hE c with h1 | h1
          · omega
          · exact .inr ⟨h1.1, h1.2, rfl⟩
theorem goodG_rows {K Er R : Int → Int} (hE : okE Er R) {w : Int} (hw : 0 ≤ w) (hw3 : w ≤ 3) (m : Nat) : ∀ (k : Nat) (c n acc : Int), goodG w n (0, acc) → goodG w (n + m * k) (rowsv K Er R w m k c acc)
  | 0, c, n, acc, h => goodG_mono h (by omega)
  | k + 1, c, n, acc, h => by
    rw [rowsv]
    refine goodG_bnd (goodG_row hE hw hw3 m c n acc h) (fun z hz => goodG_mono (goodG_rows hE hw hw3 m k (c + 10) (n + m) z hz) ?_)
    have : ((k + 1 : Nat) : Int) = k + 1 := rfl
    rw [this, Int.mul_add]; omega
theorem goodG_rng {K Er R : Int → Int} (hE : okE Er R) {w : Int} (hw : 0 ≤ w) (hw3 : w ≤ 3) (a b n acc : Int) (ha : 0 ≤ a ∧ a < 200) (hb : 0 ≤ b ∧ b < 200) (h : goodG w n (0, acc)) : goodG w (n + 200) (rngv K Er R w a b acc) := by
  unfold rngv
  refine goodG_mono (goodG_rows hE hw hw3 _ _ _ n acc h) ?_
  obtain ⟨m, hm⟩ : ∃ m : Nat, (imax (a % 10) (b % 10) - imin (a % 10) (b % 10) + 1).toNat = m := ⟨_, rfl⟩
  obtain ⟨k, hk⟩ : ∃ k : Nat, (imax (a / 10) (b / 10) - imin (a / 10) (b / 10) + 1).toNat = k := ⟨_, rfl⟩
  rw [hm, hk]
  have h1 : m ≤ 10 := by rw [← hm]; unfold imax imin; split <;> split <;> omega
  have h2 : k ≤ 20 := by rw [← hk]; unfold imax imin; split <;> split <;> omega
  have := Nat.mul_le_mul h1 h2
  have e : ((m : Int) * (k : Int)) = ((m * k : Nat) : Int) := rfl
  rw [e]; omega

theorem Tr_good {K Er R : Int → Int} (hE : okE Er R) : ∀ s r n L v, Tr s r n L v → (s = 0 → L.length ≤ 100 → goodV (v K Er R 0 0)) ∧ (¬ s = 0 → L.length ≤ 100 → ∀ w n acc, 0 ≤ w → w ≤ 3 → goodG w n (0, acc) → goodG w (n + 200 * L.length) (v K Er R w acc)) := by
  refine Tr_ind ?_ ?_ ?_ ?_ ?_ ?_ ?_ ?_ ?_ ?_ ?_
  · refine fun t h => ⟨fun _ _ => ?_, fun h => absurd rfl h⟩
    unfold vLeaf
    rcases h with h | h | h
    · rw [if_pos h.1]; exact .inl ⟨rfl, by dsimp only; omega, by dsimp only; omega⟩
    · rw [if_neg (by omega), if_pos h.1]
      rcases hE (clp (t / 8)) with h1 | h1
      · rw [if_pos h1.1]; exact .inl ⟨rfl, h1.2⟩
      · rw [if_neg (by omega)]; exact .inr ⟨h1.1, h1.2, rfl⟩
    · rw [if_neg (by omega), if_neg (by omega)]; exact .inr ⟨by decide, by decide, rfl⟩
  · refine fun r n L v _ h => ⟨fun _ hl => ?_, fun h => absurd rfl h⟩
    simp only [List.length_cons, List.length_append] at hl
    exact h.1 rfl (by omega)
  · refine fun r n L v _ h => ⟨fun _ hl => ?_, fun h => absurd rfl h⟩
    simp only [List.length_cons, List.length_append] at hl
    refine goodV_bnd (h.1 rfl (by omega)) (fun x h1 h2 => .inl ⟨rfl, ?_⟩)
    dsimp only; split <;> omega
  · refine fun r n L v r1 n1 L1 v1 r2 n2 L2 v2 _ _ _ h h1 h2 => ⟨fun _ hl => ?_, fun h => absurd rfl h⟩
    simp only [List.length_cons, List.length_append] at hl
    refine goodV_bnd (h.1 rfl (by omega)) (fun x _ _ => ?_)
    split
    · exact h2.1 rfl (by omega)
    · exact h1.1 rfl (by omega)
  · refine fun w r n L v h1 h2 _ h => ⟨fun _ hl => ?_, fun h => absurd rfl h⟩
    simp only [List.length_cons, List.length_append, List.length_nil] at hl
    have hg := h.2 (by decide) (by omega) w 0 (if w = 1 ∨ w = 2 then nothing else 0) h1 h2 (by
      refine .inl ⟨rfl, ?_⟩
      dsimp only; split <;> omega)
    unfold vAgg
    generalize v K Er R w (if w = 1 ∨ w = 2 then nothing else 0) = p at hg ⊢
    unfold goodG nothing at hg
    by_cases hp : p.1 = 0
    · rw [bnd_0 hp]
      split
      · exact .inr ⟨by decide, by decide, rfl⟩
      · next hz => refine .inl ⟨rfl, ?_⟩; unfold nothing at hz; dsimp only; omega
    · rw [bnd_e hp]; refine .inr ⟨by dsimp only; omega, by dsimp only; omega, rfl⟩
  · refine fun r n L v _ h _ => ⟨fun _ hl => ?_, fun h => absurd rfl h⟩
    simp only [List.length_cons] at hl
    exact goodV_bnd (h.1 rfl (by omega)) (fun x h1 h2 => .inl ⟨rfl, by dsimp only; omega⟩)
  · refine fun op r n L v r1 n1 L1 v1 _ _ _ h h' _ _ _ => ⟨fun _ hl => ?_, fun h => absurd rfl h⟩
    simp only [List.length_cons, List.length_append] at hl
    exact goodV_bnd (h.1 rfl (by omega)) (fun x h1 h2 => goodV_bnd (h'.1 rfl (by omega)) (fun y _ _ => goodV_opv h1 h2))
  · refine fun r n L v ht h => ⟨fun h => absurd h (by decide), fun _ hl w k acc hw hw3 ha => ?_⟩
    have hp := (Tr_len _ _ _ _ _ ht).1
    unfold vOne
    rcases h.1 rfl hl with h1 | h1
    · rw [bnd_0 h1.1]; exact goodG_mono (goodG_jn hw hw3 ha h1.2) (by omega)
    · rw [bnd_e (by omega)]; exact .inr ⟨h1.1, h1.2.1, rfl⟩
  · refine fun t h => ⟨fun h => absurd h (by decide), fun _ hl w k acc hw hw3 ha => ?_⟩
    exact goodG_rng hE hw hw3 _ _ k acc (clp_rng _) (clp_rng _) ha
  · exact fun r n L v _ h => ⟨fun h => absurd h (by decide), fun _ => h.2 (by decide)⟩
  · refine fun r n L v r1 n1 L1 v1 _ _ h h' => ⟨fun h => absurd h (by decide), fun _ hl w k acc hw hw3 ha => ?_⟩
    simp only [List.length_cons, List.length_append] at hl ⊢
    exact goodG_bnd (h.2 (by decide) (by omega) w k acc hw hw3 ha) (fun z hz => goodG_mono (h'.2 (by decide) (by omega) w _ z hw hw3 hz) (by omega))
/-! skipping -/
/-- brackets that stay open behind the words; none if it stops at a comma or a bracket -/
def opr (t : Int) : Bool := t % 8 = 6 || t = 325
def skp : Nat → List Int → Option Nat
  | n, [] => some n
  | n, t :: L => if n = 0 ∧ (t = 357 ∨ t = 333) then none else skp (if opr t = true then n + 1 else if t = 333 then n - 1 else n) L
theorem skp_plain {n : Nat} {t : Int} {L : List Int} (h1 : ¬ t = 357) (h2 : ¬ t = 333) (h3 : opr t = false) : skp n (t :: L) = skp n L := by
  rw [skp, if_neg (by omega), if_neg (by rw [h3]; decide), if_neg h2]
theorem skp_open {n : Nat} {t : Int} {L : List Int} (h3 : opr t = true) (h1 : ¬ t = 357) (h2 : ¬ t = 333) : skp n (t :: L) = skp (n + 1) L := by
  rw [skp, if_neg (by omega), if_pos h3]
theorem skp_close {n : Nat} {L : List Int} : skp (n + 1) (333 :: L) = skp n L := by
  rw [skp, if_neg (by omega), if_neg (by decide), if_pos rfl]; rfl
theorem skp_comma {n : Nat} {L : List Int} : skp (n + 1) (357 :: L) = skp (n + 1) L := by
  rw [skp, if_neg (by omega), if_neg (by decide), if_neg (by decide)]
theorem opr_false {t : Int} (h : ¬ t % 8 = 6) (h2 : ¬ t = 325) : opr t = false := by unfold opr; simp [h, h2]
theorem opr_true {t : Int} (h : t % 8 = 6) : opr t = true := by unfold opr; simp [h]
theorem Tr_skp : ∀ s r n L v, Tr s r n L v → ∀ L', (s = 0 → ∀ m, skp m (L ++ L') = skp m L') ∧ (¬ s = 0 → ∀ m, skp (m + 1) (L ++ L') = skp (m + 1) L') := by
  refine Tr_ind ?_ ?_ ?_ ?_ ?_ ?_ ?_ ?_ ?_ ?_ ?_
  · refine fun t h L' => ⟨fun _ n => ?_, fun h => absurd rfl h⟩
    unfold okL okS at h
    exact skp_plain (by omega) (by omega) (opr_false (by omega) (by omega))
  · refine fun r n L v _ h L' => ⟨fun _ m => ?_, fun h => absurd rfl h⟩
    simp only [List.cons_append, List.append_assoc]
    rw [skp_open (by decide) (by decide) (by decide), (h _).1 rfl, List.nil_append, skp_close]
  · refine fun r n L v _ h L' => ⟨fun _ m => ?_, fun h => absurd rfl h⟩
    simp only [List.cons_append, List.append_assoc]
    rw [skp_open (by decide) (by decide) (by decide), (h _).1 rfl, List.nil_append, skp_close]
  · refine fun r n L v r1 n1 L1 v1 r2 n2 L2 v2 _ _ _ h h1 h2 L' => ⟨fun _ m => ?_, fun h => absurd rfl h⟩
    simp only [List.cons_append, List.append_assoc]
    rw [skp_open (by decide) (by decide) (by decide), (h _).1 rfl, skp_comma, (h1 _).1 rfl, skp_comma, (h2 _).1 rfl, List.nil_append, skp_close]
  · refine fun w r n L v h1 h2 _ h L' => ⟨fun _ m => ?_, fun h => absurd rfl h⟩
    simp only [List.cons_append, List.append_assoc]
    rw [skp_open (opr_true (by omega)) (by omega) (by omega), (h _).2 (by decide), List.nil_append, skp_close]
  · refine fun r n L v _ h _ L' => ⟨fun _ m => ?_, fun h => absurd rfl h⟩
    simp only [List.cons_append]
    rw [skp_plain (by decide) (by decide) (by decide), (h _).1 rfl]
  · refine fun op r n L v r1 n1 L1 v1 ho _ _ h h' _ _ _ L' => ⟨fun _ m => ?_, fun h => absurd rfl h⟩
    simp only [List.cons_append, List.append_assoc]
    unfold isO at ho
    rw [(h _).1 rfl, skp_plain (by omega) (by omega) (opr_false (by omega) (by omega)), (h' _).1 rfl]
  · exact fun r n L v _ h L' => ⟨fun h => absurd h (by decide), fun _ m => (h L').1 rfl (m + 1)⟩
  · refine fun t h L' => ⟨fun h => absurd h (by decide), fun _ n => ?_⟩
    unfold okR at h
    exact skp_plain (by omega) (by omega) (opr_false (by omega) (by omega))
  · exact fun r n L v _ h L' => ⟨fun h => absurd h (by decide), fun _ => (h L').2 (by decide)⟩
  · refine fun r n L v r1 n1 L1 v1 _ _ h h' L' => ⟨fun h => absurd h (by decide), fun _ m => ?_⟩
    simp only [List.cons_append, List.append_assoc]
    rw [(h _).2 (by decide), skp_comma, (h' _).2 (by decide)]
/-! an operation behind a tree -/
theorem prc_rng (op : Int) : 1 ≤ prc op ∧ prc op ≤ 3 := by unfold prc; split <;> (try split) <;> omega
theorem Tr_ins {op ry : Int} {ny : Nat} {Ly : List Int} {vy : Ev} (ho : isO op) (hy : Tr 0 ry ny Ly vy) (hy4 : 4 ≤ ry) : ∀ s r n L v, Tr s r n L v → s = 0 → (prc op = 1 → 1 < r) → ∃ r' n' v', Tr 0 r' n' (L ++ (op * 8 + 5) :: Ly) v' ∧ imin (prc op) r ≤ r' := by
  have p3 := prc_rng op
  have base : ∀ r n L v, Tr 0 r n L v → prc op ≤ r → 1 < r → ∃ r' n' v', Tr 0 r' n' (L ++ (op * 8 + 5) :: Ly) v' ∧ imin (prc op) r ≤ r' := fun r n L v h h1 h2 =>
    ⟨_, _, _, Tr_bin ho h hy h1 (by omega) h2, by unfold imin; split <;> omega⟩
  refine Tr_ind ?_ ?_ ?_ ?_ ?_ ?_ ?_ ?_ ?_ ?_ ?_
  · exact fun t h _ _ => base _ _ _ _ (Tr_leaf h) (by omega) (by omega)
  · exact fun r n L v h _ _ _ => base _ _ _ _ (Tr_par h) (by omega) (by omega)
  · exact fun r n L v h _ _ _ => base _ _ _ _ (Tr_abs h) (by omega) (by omega)
  · exact fun r n L v r1 n1 L1 v1 r2 n2 L2 v2 h h1 h2 _ _ _ _ _ => base _ _ _ _ (Tr_iff h h1 h2) (by omega) (by omega)
  · exact fun w r n L v hw hw3 h _ _ _ => base _ _ _ _ (Tr_agg hw hw3 h) (by omega) (by omega)
  · exact fun r n L v h _ h4 _ _ => base _ _ _ _ (Tr_neg h h4) (by omega) (by omega)
  · intro o r n L v r1 n1 L1 v1 hoo h h1 _ ih a b c _ e
    have po := prc_rng o
    by_cases hle : prc op ≤ prc o
    · exact base _ _ _ _ (Tr_bin hoo h h1 a b c) hle (by omega)
    · obtain ⟨r', n', v', k1, k2⟩ := ih rfl (by omega)
      refine ⟨_, _, _, by rw [List.append_assoc, List.cons_append]; exact Tr_bin hoo h k1 a (by unfold imin at k2; split at k2 <;> omega) c, ?_⟩
      unfold imin
      rw [if_pos (by omega)]
      exact Int.le_refl _
  all_goals intros
  all_goals contradiction
end
