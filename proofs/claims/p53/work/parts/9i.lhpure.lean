/-! p53: counts and sums of a sheet -/
section
variable {A : Sh} {f h : Int → Int}
theorem sumf_plus : ∀ (n : Nat) (a : Int), sumf (fun j => f j + h j) a n = sumf f a n + sumf h a n
  | 0, _ => rfl
  | n + 1, a => by
    have ih := sumf_plus n (a + 1)
    show f a + h a + sumf (fun j => f j + h j) (a + 1) n = f a + sumf f (a + 1) n + (h a + sumf h (a + 1) n)
    omega
/-- by lines, or all at once -/
theorem sumf_lines {q : Int → Int} {m : Nat} : ∀ n : Nat, (∀ c : Int, 0 ≤ c → c < (n : Int) → 0 ≤ q c ∧ q c < m) → sumf (fun k => sumf (fun c => if q c = k then f c else 0) 0 n) 0 m = sumf f 0 n
  | 0, _ => sumf_zero m 0 (fun _ _ _ => rfl)
  | n + 1, hq => by
    have ih := sumf_lines (q := q) (m := m) n (fun c c1 c2 => hq c c1 (by omega))
    have e1 : sumf (fun k => sumf (fun c => if q c = k then f c else 0) 0 (n + 1)) 0 m = sumf (fun k => sumf (fun c => if q c = k then f c else 0) 0 n + (if q n = k then f n else 0)) 0 m :=
      sumf_congr m 0 (fun k _ _ => by
        try dsimp only
        rw [sumf_snoc, Int.zero_add])
    rw [e1, sumf_plus, ih, sumf_snoc, Int.zero_add]
    obtain ⟨q1, q2⟩ := hq n (by omega) (by omega)
    rw [sumf_one (x := q n) m 0 q1 (by omega) (fun j _ _ hj => if_neg (fun e => hj e.symm)), if_pos rfl]
noncomputable def vSum (A : Sh) : Int := sumf (fun c => if flA A c = 0 then vlA A c else 0) 0 200
noncomputable def aAll (A : Sh) (k : Int) : Int := qTot A 1 k + (if k < 10 then qTot A 0 k else 0)
theorem tot_ln {b : Int} {m : Nat} (hq : ∀ c, 0 ≤ c → c < 200 → 0 ≤ lnO b c ∧ lnO b c < m) : sumf (qTot A b) 0 m = vSum A := by
  have e := sumf_lines (f := fun c => if flA A c = 0 then vlA A c else 0) (q := lnO b) (m := m) 200 hq
  unfold vSum
  rw [← e]
  refine sumf_congr m 0 (fun k _ _ => ?_)
  unfold qTot
  refine sumf_congr 200 0 (fun c _ _ => ?_)
  try dsimp only
  by_cases e1 : lnO b c = k
  · by_cases e2 : flA A c = 0
    · rw [if_pos ⟨e1, e2⟩, if_pos e1, if_pos e2]
    · rw [if_neg (fun q => e2 q.2), if_pos e1, if_neg e2]
  · rw [if_neg (fun q => e1 q.1), if_neg e1]
theorem all_two : sumf (aAll A) 0 20 = 2 * vSum A := by
  have h1 : sumf (qTot A 1) 0 20 = vSum A := tot_ln (b := 1) (m := 20) (fun c c1 c2 => by
    unfold lnO
    rw [if_neg (by decide)]
    omega)
  have h0 : sumf (qTot A 0) 0 10 = vSum A := tot_ln (b := 0) (m := 10) (fun c c1 c2 => by
    unfold lnO
    rw [if_pos rfl]
    omega)
  have e : sumf (aAll A) 0 20 = sumf (qTot A 1) 0 20 + sumf (fun k => if k < 10 then qTot A 0 k else 0) 0 20 := sumf_plus 20 0
  have e2 : sumf (fun k => if k < 10 then qTot A 0 k else 0) 0 20 = sumf (fun k => if k < 10 then qTot A 0 k else 0) 0 10 + sumf (fun k => if k < 10 then qTot A 0 k else 0) (0 + ((10 : Nat) : Int)) 10 := sumf_add _ 10 10 0
  have e3 : sumf (fun k => if k < 10 then qTot A 0 k else 0) 0 10 = sumf (qTot A 0) 0 10 := sumf_congr 10 0 (fun k k1 k2 => by
    try dsimp only
    rw [if_pos (by omega)])
  have e4 : sumf (fun k => if k < 10 then qTot A 0 k else 0) (0 + ((10 : Nat) : Int)) 10 = 0 := sumf_zero 10 _ (fun k k1 k2 => if_neg (by omega))
  omega
/-- values of empty cells are 0 -/
theorem vl_emp (hS : SlF A) {c : Int} (c1 : 0 ≤ c) (c2 : c < 200) (hk : A.1 c = 0) : vlA A c = 0 := by
  rw [hS.2.2.2.2.2.2.2 c c1 c2 (by omega), if_neg (by omega)]
theorem sum_one (hS : SlF A) : vSum A = qSum A := by
  unfold vSum qSum
  refine sumf_congr 200 0 (fun c c1 c2 => ?_)
  try dsimp only
  unfold qOne
  by_cases e0 : A.1 c = 0
  · rw [if_neg (show ¬ (decide (¬ A.1 c = 0) && decide (flA A c = 0)) = true by simp [e0])]
    split
    · exact vl_emp hS c1 (by omega) e0
    · rfl
  · by_cases e : flA A c = 0
    · rw [if_pos e, if_pos (by simp [e0, e])]
    · rw [if_neg e, if_neg (by simp [e])]
theorem mea_num {z : UInt64} (h : Jvm.FP.Core.dIsNaN z = false) : Op.cmpValue (FP.dcmp z z) .l = iI 0 := by
  have e : FP.dcmp z z = some .eq := Jvm.FP.Core.dcmp_self (fun hn => by
    have h2 : Jvm.FP.Core.dIsNaN z = true := decide_eq_true hn
    rw [h] at h2
    exact absurd h2 (by decide))
  rw [e]
  rfl
theorem mea_self : Op.cmpValue (FP.dcmp (qMea A) (qMea A)) .l = iI 0 := by
  refine mea_num ?_
  unfold qMea
  split
  · decide
  · next e =>
    have hn := ind_rng (qOne A) 200 0
    have eM : sumf (ind (qOne A)) 0 200 = qMny A := rfl
    have hn2 : ¬ iI (qMny A) = 0 := fun e2 => by
      have e3 : ti (qMny A) = 0 := by unfold ti; rw [e2]; rfl
      rw [ti_eq (by omega) (by omega)] at e3
      omega
    have hz : ¬ Jvm.FP.Core.DZero (Jvm.FP.Core.i2d (iI (qMny A))) := fun e => Jvm.FP.Core.i2d_ne_zero hn2 ((Jvm.FP.Core.zero_bits2 _).mp e)
    exact Jvm.FP.Core.ddiv_out (Jvm.FP.Core.l2d_notNaN (lI (qSum A))) (Jvm.FP.Core.i2d_fin (iI (qMny A))) hz
theorem mny_rng : 0 ≤ qMny A ∧ qMny A ≤ 200 := ind_rng (qOne A) 200 0
theorem for_rng : 0 ≤ qFor A ∧ qFor A ≤ 200 := ind_rng _ 200 0
theorem fil_rng : 0 ≤ qFil A ∧ qFil A ≤ 200 := by
  have := sumf_rng (f := fun c => if A.1 c = 0 then 0 else 1) (lo := 0) (hi := 1) 200 0 (fun j _ _ => by split <;> omega)
  unfold qFil
  omega
theorem err_rng : 0 ≤ qErr A ∧ qErr A ≤ 200 := by
  have := sumf_rng (f := fun c => if flA A c = 0 then 0 else 1) (lo := 0) (hi := 1) 200 0 (fun j _ _ => by split <;> omega)
  unfold qErr
  omega
/-- what the law has counted up to c, and what is left -/
def HoI (A : Sh) (c : Int) (m : Nat) (f1 f2 f3 f4 f5 s : Int) : Prop :=
  f1 + sumf (fun c => if A.1 c = 0 then 0 else 1) c m = qFil A ∧ f2 + sumf (ind (fun c => decide (A.1 c = 2))) c m = qFor A ∧ f3 + sumf (fun c => if flA A c = 0 then 0 else 1) c m = qErr A ∧
  f4 + sumf (ind (fun c => decide (A.1 c = 2 ∧ ¬ flA A c = 5))) c m = onA A ∧ f5 + sumf (ind (qOne A)) c m = qMny A ∧ s + sumf (fun c => if flA A c = 0 then vlA A c else 0) c m = vSum A
theorem ho_0 (oA : ShOK A) (hS : SlF A) : HoI A 0 200 0 0 0 0 0 0 := by
  refine ⟨Int.zero_add _, Int.zero_add _, Int.zero_add _, ?_, Int.zero_add _, Int.zero_add _⟩
  rw [Int.zero_add]
  exact sf_cnt oA hS
theorem ho_next {c : Int} {m : Nat} {f1 f2 f3 f4 f5 s a1 a2 a3 a4 a5 t : Int} (hH : HoI A c (m + 1) f1 f2 f3 f4 f5 s) (e1 : (if A.1 c = 0 then 0 else 1) = a1) (e2 : (if A.1 c = 2 then 1 else 0) = a2) (e3 : (if flA A c = 0 then 0 else 1) = a3) (e4 : (if A.1 c = 2 ∧ ¬ flA A c = 5 then 1 else 0) = a4) (e5 : (if ¬ A.1 c = 0 ∧ flA A c = 0 then 1 else 0) = a5) (e6 : (if flA A c = 0 then vlA A c else 0) = t) : HoI A (c + 1) m (f1 + a1) (f2 + a2) (f3 + a3) (f4 + a4) (f5 + a5) (s + t) := by
  obtain ⟨h1, h2, h3, h4, h5, h6⟩ := hH
  have g2 : ind (fun c => decide (A.1 c = 2)) c = a2 := by
    rw [← e2]; unfold ind
    by_cases q : A.1 c = 2
    · rw [if_pos q, if_pos (decide_eq_true q)]
    · rw [if_neg q, if_neg (fun w => q (of_decide_eq_true w))]
  have g4 : ind (fun c => decide (A.1 c = 2 ∧ ¬ flA A c = 5)) c = a4 := by
    rw [← e4]; unfold ind
    by_cases q : A.1 c = 2 ∧ ¬ flA A c = 5
    · rw [if_pos q, if_pos (decide_eq_true q)]
    · rw [if_neg q, if_neg (fun w => q (of_decide_eq_true w))]
  have g5 : ind (qOne A) c = a5 := by
    rw [← e5]; unfold ind
    have hq : qOne A c = true ↔ ¬ A.1 c = 0 ∧ flA A c = 0 := by
      unfold qOne
      rw [Bool.and_eq_true, decide_eq_true_iff, decide_eq_true_iff]
    by_cases q1 : qOne A c = true
    · rw [if_pos q1, if_pos (hq.mp q1)]
    · rw [if_neg q1, if_neg (fun w => q1 (hq.mpr w))]
  have u1 : sumf (fun c => if A.1 c = 0 then 0 else 1) c (m + 1) = a1 + sumf (fun c => if A.1 c = 0 then 0 else 1) (c + 1) m := by rw [← e1]; rfl
  have u2 : sumf (ind (fun c => decide (A.1 c = 2))) c (m + 1) = a2 + sumf (ind (fun c => decide (A.1 c = 2))) (c + 1) m := by rw [← g2]; rfl
  have u3 : sumf (fun c => if flA A c = 0 then 0 else 1) c (m + 1) = a3 + sumf (fun c => if flA A c = 0 then 0 else 1) (c + 1) m := by rw [← e3]; rfl
  have u4 : sumf (ind (fun c => decide (A.1 c = 2 ∧ ¬ flA A c = 5))) c (m + 1) = a4 + sumf (ind (fun c => decide (A.1 c = 2 ∧ ¬ flA A c = 5))) (c + 1) m := by rw [← g4]; rfl
  have u5 : sumf (ind (qOne A)) c (m + 1) = a5 + sumf (ind (qOne A)) (c + 1) m := by rw [← g5]; rfl
  have u6 : sumf (fun c => if flA A c = 0 then vlA A c else 0) c (m + 1) = t + sumf (fun c => if flA A c = 0 then vlA A c else 0) (c + 1) m := by rw [← e6]; rfl
  exact ⟨by omega, by omega, by omega, by omega, by omega, by omega⟩
theorem ho_end {c : Int} {f1 f2 f3 f4 f5 s : Int} (hH : HoI A c 0 f1 f2 f3 f4 f5 s) : f1 = qFil A ∧ f2 = qFor A ∧ f3 = qErr A ∧ f4 = onA A ∧ f5 = qMny A ∧ s = vSum A := by
  obtain ⟨h1, h2, h3, h4, h5, h6⟩ := hH
  exact ⟨(Int.add_zero _).symm.trans h1, (Int.add_zero _).symm.trans h2, (Int.add_zero _).symm.trans h3, (Int.add_zero _).symm.trans h4, (Int.add_zero _).symm.trans h5, (Int.add_zero _).symm.trans h6⟩
theorem lcm_self (x : Int) : lcm x x = 0 := by
  unfold lcm
  rw [if_neg (Int.lt_irrefl _), if_pos rfl]
theorem lcm_zero {x y : Int} : lcm x y = 0 ↔ lI x = lI y := by
  rw [lI_eq]
  unfold lcm
  constructor
  · intro h
    split at h
    · exact absurd h (by decide)
    · split at h
      · next e => exact e
      · exact absurd h (by decide)
  · intro e
    rw [if_neg (by omega), if_pos e]
end
