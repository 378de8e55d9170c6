/-! rows of whole that the class needs (written by wip/p53/extract.py) -/
section
def rnk (s : Int) : Int := if s = 210 then 4 else if s = 42 ∨ s = 47 then 3 else if s = 43 ∨ s = 45 then 2 else if s = 60 ∨ s = 62 ∨ s = 61 then 1 else 0
def psh (p : List Int) (w v : Int) : List Int × Int := (v :: p, if w = 0 ∧ ¬ (-999999999 ≤ v ∧ v ≤ 999999999) then 2 else w)
def wkR (s a b : Int) : Int := if s = 43 then a + b else if s = 45 then a - b else if s = 42 then a * b else if s = 60 then (if a < b then 1 else 0) else if s = 62 then (if b < a then 1 else 0) else (if a = b then 1 else 0)
/-- the latest operation is done -/
def wks (s : Int) : List Int → Option (List Int × Int)
  | [] => none
  | b :: p => if s = 210 then some (psh p 0 (-b)) else match p with
    | [] => none
    | a :: p => if s = 47 ∧ b = 0 then some (0 :: p, 1) else some (psh p 0 (if s = 47 then a.fdiv b else wkR s a b))
/-- operations of rank k or more are done -/
def wd (k : Int) : List (Int × Int × Int) → List Int → Int → Option (List Int × List (Int × Int × Int) × Int)
  | [], p, w => some (p, [], w)
  | (s, su, cn) :: D, p, w => if w = 0 ∧ k ≤ rnk s then (match wks s p with | none => none | some (p', w') => wd k D p' w') else some (p, (s, su, cn) :: D, w)
def mkat (ms : List Int) (a : Int) : Int := ms.getD a.toNat 0
def tgt (k : Int) : Int := (k - 2000000) % 1000
theorem mk1_op (op : Int) : mk1 (op * 8 + 5) = [op] := by
  unfold mk1
  rw [if_neg (by omega), if_neg (by omega), if_neg (by omega), if_neg (by omega), if_pos (by omega), show (op * 8 + 5) / 8 = op by omega]
theorem mks_cons (t : Int) (L : List Int) : mks (t :: L) = mk1 t ++ mks L := rfl
theorem spm_rng {s : Int} (h : okS s) : 2000000 ≤ spm s ∧ spm s < 3000000 := by
  unfold okS at h; unfold spm; split <;> split <;> omega
theorem tgt_spm {s : Int} (h : okS s) : tgt (spm s) = clp s := by
  unfold okS at h
  unfold tgt spm clp
  rw [if_pos h.2.2]
  split <;> split <;> omega
theorem mk1_rng {t : Int} (h : okR t) : mk1 t = [spm (t / 8 % 1024), 58, spm (t / 8 / 1024)] := by
  unfold mk1
  rw [if_neg (by have := h.1; omega), if_neg (by have := h.1; omega), if_pos h.1]
theorem mks_len : ∀ (L : List Int), L.length ≤ (mks L).length
  | [] => Nat.le_refl _
  | t :: L => by
    have := mks_len L
    have h1 : 1 ≤ (mk1 t).length := by
      unfold mk1; split
      · simp
      · split
        · simp
        · split
          · simp
          · split
            · simp
            · split <;> simp
    rw [mks_cons, List.length_append, List.length_cons]; omega
end
