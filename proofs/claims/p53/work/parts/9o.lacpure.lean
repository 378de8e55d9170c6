/-! p53: copying, moving, orders -/
section
variable {A : Sh} {P : Pd} {L : List Int} {fi to h w f t c : Int}
theorem cbk_at (hh : 1 ≤ h) (hw : 1 ≤ w) : (cbkS A fi to h w).1 to = A.1 fi ∧ (cbkS A fi to h w).2.1 to = A.2.1 fi ∧ (cbkS A fi to h w).2.2.1 to = (A.2.2.1 fi).map (tkF (cpS (to / 10 - fi / 10) (to % 10 - fi % 10)) (fun s _ => cpS (to / 10 - fi / 10) (to % 10 - fi % 10) s)) := by
  have hb : inBk to h w to ∧ (fun _ : Int => true) to = true := by
    unfold inBk
    refine ⟨⟨Int.le_refl _, by omega, Int.le_refl _, by omega⟩, rfl⟩
  have e := cpQ_y (A := A) (fi := fi) (f := tkF (cpS (to / 10 - fi / 10) (to % 10 - fi % 10)) (fun s _ => cpS (to / 10 - fi / 10) (to % 10 - fi % 10) s)) (p := fun _ => true) (to := to) (h := h) (w := w) (x := to) hb
  rw [show to - to + fi = fi by omega] at e
  exact e
theorem cpS_id {s : Int} (hs : okS s) : cpS 0 0 s = s := by
  obtain ⟨s1, s2, s3⟩ := hs
  unfold cpS
  simp only [ite_self, Int.add_zero]
  rw [if_pos (by omega)]
  omega
theorem tk_id : ∀ (L : List Int), (∀ t ∈ L, okG t) → L.map (tkF (cpS 0 0) (fun s _ => cpS 0 0 s)) = L
  | [], _ => rfl
  | t :: L, hL => by
    have ih := tk_id L (fun y hy => hL y (List.mem_cons_of_mem _ hy))
    rw [List.map_cons, ih]
    have e : tkF (cpS 0 0) (fun s _ => cpS 0 0 s) t = t := by
      unfold tkF
      rcases hL t (List.mem_cons_self) with q | q | q | q | q | q
      · rw [if_neg (by omega), if_neg (by omega)]
      · have q2 := q.2.1
        rw [if_pos q.1, cpS_id q.2, if_neg (by omega)]
        omega
      · rw [if_neg (by omega), if_neg (by omega)]
      · obtain ⟨q1, q2, q3⟩ := q
        have r2 := q2.1
        have r3 := q3.1
        have r4 := q3.2.1
        have e4 : t / 8 / 1024 % 1024 = t / 8 / 1024 := by omega
        rw [if_neg (by omega), if_pos q1, e4]
        dsimp only
        have c1 := cpS_id q2
        have c2 := cpS_id q3
        rw [if_neg (by omega)]
        omega
      · rw [if_neg (by omega), if_neg (by omega)]
      · rw [if_neg (by omega), if_neg (by omega)]
    rw [e]
theorem cbk_len (oA : ShOK A) (hf : 0 ≤ fi ∧ fi < 200) (hh : 1 ≤ h) (hw : 1 ≤ w) : qLen (cbkS A fi fi h w) fi = qLen A fi := by
  obtain ⟨e1, -, e3⟩ := cbk_at (A := A) (fi := fi) (to := fi) hh hw
  unfold qLen
  rw [e1]
  by_cases k : A.1 fi = 2
  · obtain ⟨v, r, n, hT⟩ := ((oA fi hf.1 hf.2).2.1 k).1
    rw [if_pos k, if_pos k, e3, show fi / 10 - fi / 10 = 0 by omega, show fi % 10 - fi % 10 = 0 by omega, tk_id _ (Tr_okG _ _ _ _ _ hT)]
  · rw [if_neg k, if_neg k]
/-! a moved cell -/
theorem mo_k (x : Int) : (moS A f t).1 x = if x = f then 0 else if x = t then A.1 f else A.1 x := rfl
theorem mo_n (hne : ¬ f = t) : (moS A f t).2.1 t = A.2.1 f := by
  show (if t = f then (0 : Int) else if t = t then A.2.1 f else A.2.1 t) = A.2.1 f
  rw [if_neg (fun e => hne e.symm), if_pos rfl]
theorem fil_mo (hf : 0 ≤ f ∧ f < 200) (ht : 0 ≤ t ∧ t < 200) (hne : ¬ f = t) : qFil (moS A f t) = qFil A - (if A.1 t = 0 then 0 else 1) := by
  have h1 := fil_upd (A := A) (B := shP A t (A.1 f) (A.2.1 f) (A.2.2.1 f)) (c := t) (k := A.1 f) ht.1 ht.2 (fun x hx => if_neg hx) (if_pos rfl)
  have h2 := fil_upd (A := shP A t (A.1 f) (A.2.1 f) (A.2.2.1 f)) (B := moS A f t) (c := f) (k := 0) hf.1 hf.2 (fun x hx => if_neg hx) (if_pos rfl)
  have e : (shP A t (A.1 f) (A.2.1 f) (A.2.2.1 f)).1 f = A.1 f := if_neg hne
  rw [e] at h2
  rw [if_pos rfl] at h2
  omega
theorem tcS_rng {g : Int → Int} (hg : ∀ s, 0 ≤ g s ∧ g s ≤ 1) : ∀ L : List Int, 0 ≤ tcS g L ∧ tcS g L ≤ L.length
  | [] => ⟨Int.le_refl _, Int.le_refl _⟩
  | t :: L => by
    have ih := tcS_rng hg L
    have := hg (t / 8)
    rw [tcS, List.length_cons]
    split <;> omega
theorem mo_rng (hf : 0 ≤ f ∧ f < 200) (oA : ShOK A) : 0 ≤ moN A f t ∧ moN A f t ≤ 12000 := by
  have := sumf_rng (f := fun x => if (mvA A f t).1 x = 2 then tcS (tcM f t) ((mvA A f t).2.2.1 x) else 0) (lo := 0) (hi := 60) 200 0 (fun x x1 x2 => by
    by_cases e : (mvA A f t).1 x = 2
    · have h1 := tcS_rng (g := tcM f t) (fun s => by unfold tcM; split <;> omega) ((mvA A f t).2.2.1 x)
      have h2 := ((mvA_ok (t := t) hf oA x x1 (by omega)).2.1 e).2
      have h3 := mks_len ((mvA A f t).2.2.1 x)
      rw [if_pos e]
      omega
    · rw [if_neg e]; omega)
  unfold moN
  omega
/-! orders -/
def chL (L : List Int) (i : Int) : Int := if 0 ≤ i ∧ i < L.length then L.getD i.toNat 0 else 0
theorem pdc_L (hP : PdL P L) : pdc P = chL L := by
  funext i
  unfold pdc chL
  rw [hP.1]
  by_cases e : 0 ≤ i ∧ i < (L.length : Int)
  · rw [if_pos e, if_pos e]
    have := hP.2 i.toNat (by omega)
    rw [Int.toNat_of_nonneg e.1] at this
    exact this
  · rw [if_neg e, if_neg e]
theorem os_1 : osF (chL [66, 50, 58, 61, 65, 49, 59]) 7 60 0 = -1 := by decide +kernel
theorem os_2 : osF (chL [66, 50, 58, 61, 65, 49, 59, 65, 49, 58, 51, 59]) 12 60 0 = -1 := by decide +kernel
theorem os_3 : osF (chL [66, 50, 58, 61, 65, 49, 59, 59]) 8 60 0 = 7 := by decide +kernel
theorem os_4 : osF (chL [66, 50, 58, 61, 65, 49, 59, 65, 49, 58, 51, 59, 59]) 13 60 0 = 12 := by decide +kernel
theorem or_1 : orF (chL [66, 50, 58, 61, 65, 49, 59]) 0 = .inr (7, 11, 2, 0, [2]) := by decide +kernel
theorem or_2 : orF (chL [66, 50, 58, 61, 65, 49, 59, 65, 49, 58, 51, 59]) 0 = .inr (7, 11, 2, 0, [2]) := by decide +kernel
theorem or_3 : orF (chL [66, 50, 58, 61, 65, 49, 59, 65, 49, 58, 51, 59]) 7 = .inr (12, 0, 1, 3, []) := by decide +kernel
theorem oa_1 : orA (chL [66, 50, 58, 61, 65, 49, 59]) 7 60 0 A = (shP A 11 2 0 [2], 1) := by
  rw [orA, if_neg (by decide), or_1]
  dsimp only
  rw [orA_end (by decide)]
  rfl
theorem oa_2 : orA (chL [66, 50, 58, 61, 65, 49, 59, 65, 49, 58, 51, 59]) 12 60 0 A = (shP (shP A 11 2 0 [2]) 0 1 3 [], 2) := by
  rw [orA, if_neg (by decide), or_2]
  dsimp only
  rw [orA, if_neg (by decide), or_3]
  dsimp only
  rw [orA_end (by decide)]
  rfl
/-- B2 refers to A1 -/
theorem or_ref {B : Sh} (h1 : B.1 11 = 2) (h2 : B.2.2.1 11 = [2]) : reA B 0 11 = true := by
  refine re_one (by decide) (by decide) (by decide) (by decide) ⟨h1, 2, ?_, ?_⟩
  · rw [h2]; exact List.mem_singleton.mpr rfl
  · exact (rfT_2 (by decide)).mpr (by decide)
end
