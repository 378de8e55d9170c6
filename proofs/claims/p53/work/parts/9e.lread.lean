/-! p53: a content that is typed is read, and its text is what was typed -/
section
variable {ch : Int → Int} {a v s z x y j c : Int} {m : Nat} {st : List Fr} {tk : List Int} {cc : Int}
def neT (z : Int) : List Int := if 0 < z / 64 % 9 then [] else [365]
def paT (j z : Int) : List Int := (if j = 0 then [] else [opC z * 8 + 5]) ++ (neT z ++ boT z)
def paN (j z : Int) : Nat := (if j = 0 then 0 else 1) + ((neC z).length + boN z)
def drT (x y : Int) : List Int := paT 0 (zA x) ++ (if lowF (xshr x 3) 2 = 0 then [] else paT 1 (zB y))
theorem boN_le : boN z ≤ 9 := by
  unfold boN
  split
  · decide
  · split
    · decide
    · split
      · split <;> decide
      · split <;> decide
theorem neC_le : (neC z).length ≤ 1 := by unfold neC; split <;> decide
theorem p_neg (hz : 0 ≤ z ∧ z < 2147483648) (h : TL ch a (neC z ++ boC z)) (he : ndg (ch (a + (neC z ++ boC z).length))) : cnT ch 0 (m + ((neC z).length + boN z)) 0 [(7, 1, 0)] tk a = cnT ch 0 m 2 [(7, 1, 0)] (tk ++ (neT z ++ boT z)) (a + (neC z ++ boC z).length) := by
  by_cases e : 0 < z / 64 % 9
  · have e1 : neC z = [] := by unfold neC; rw [if_pos e]
    have e2 : neT z = [] := by unfold neT; rw [if_pos e]
    rw [e1] at h he ⊢
    rw [e2]
    rw [show ([] : List Int).length + boN z = boN z from Nat.zero_add _]
    exact p_body hz rfl h he
  · have e1 : neC z = [45] := by unfold neC; rw [if_neg e]
    have e2 : neT z = [365] := by unfold neT; rw [if_neg e]
    rw [e1] at h he ⊢
    rw [e2]
    have hl : (a + 1) + ((boC z).length : Int) = a + (([45] ++ boC z : List Int).length : Int) := by simp only [List.length_append, List.length_singleton]; omega
    have em : m + (([45] : List Int).length + boN z) = (m + boN z) + 1 := by show m + (1 + boN z) = _; omega
    rw [em]
    refine (cS_neg (by decide) h.1).trans ?_
    refine (p_body (m := m) hz rfl h.2 (by rw [hl]; exact he)).trans ?_
    rw [hl, List.append_assoc]
theorem p_part1 (hz : 0 ≤ z ∧ z < 2147483648) (h : TL ch a (paC 1 z)) (he : ndg (ch (a + (paC 1 z).length))) : cnT ch 0 (m + paN 1 z) 2 [(7, 1, 0)] tk a = cnT ch 0 m 2 [(7, 1, 0)] (tk ++ paT 1 z) (a + (paC 1 z).length) := by
  have e1 : paC 1 z = [opC z] ++ (neC z ++ boC z) := by unfold paC; rw [if_neg (by decide)]
  have e2 : paT 1 z = [opC z * 8 + 5] ++ (neT z ++ boT z) := by unfold paT; rw [if_neg (by decide)]
  have em : m + paN 1 z = (m + ((neC z).length + boN z)) + 1 := by unfold paN; rw [if_neg (by decide)]; omega
  rw [e1] at h he ⊢
  rw [e2, em]
  have hl : (a + 1) + ((neC z ++ boC z).length : Int) = a + (([opC z] ++ (neC z ++ boC z) : List Int).length : Int) := by simp only [List.length_append, List.length_singleton]; omega
  refine (cS_sign (c := opC z) (by decide) (by decide) h.1 (by have := opC_rng z; omega) (by have := opC_rng z; omega)).trans ?_
  refine (p_neg (m := m) hz h.2 (by rw [hl]; exact he)).trans ?_
  rw [hl, List.append_assoc]
theorem p_part0 (hz : 0 ≤ z ∧ z < 2147483648) (h : TL ch a (paC 0 z)) (he : ndg (ch (a + (paC 0 z).length))) : cnT ch 0 (m + paN 0 z) 0 [(7, 1, 0)] tk a = cnT ch 0 m 2 [(7, 1, 0)] (tk ++ paT 0 z) (a + (paC 0 z).length) := by
  have e1 : paC 0 z = neC z ++ boC z := by unfold paC; rw [if_pos rfl]; rfl
  have e2 : paT 0 z = neT z ++ boT z := by unfold paT; rw [if_pos rfl]; rfl
  have em : m + paN 0 z = m + ((neC z).length + boN z) := by unfold paN; rw [if_pos rfl]; omega
  rw [e1] at h he ⊢
  rw [e2, em]
  exact p_neg hz h he
theorem opC_ndg (z : Int) : ndg (opC z) := by have := opC_rng z; unfold ndg; omega
theorem rd_cn (hx : ¬ lowF x 9 = 0) (h : TL ch 0 (drC x y)) (he : ndg (ch (drC x y).length)) : ch 0 = 61 ∧ ∃ k : Nat, cnT ch 0 61 0 [(7, 1, 0)] [] (0 + 1) = cnT ch 0 (k + 1) 2 [(7, 1, 0)] (drT x y) (drC x y).length := by
  have b1 := boN_le (z := zA x)
  have b2 := boN_le (z := zB y)
  have c1 := neC_le (z := zA x)
  have c2 := neC_le (z := zB y)
  have zA' : 0 ≤ zA x ∧ zA x < 2147483648 := xand_31 _
  have zB' : 0 ≤ zB y ∧ zB y < 2147483648 := xand_31 _
  by_cases e2 : lowF (xshr x 3) 2 = 0
  · have ed : drC x y = [61] ++ paC 0 (zA x) := by unfold drC; rw [if_neg hx, if_pos e2, List.append_nil]
    have et : drT x y = [] ++ paT 0 (zA x) := by unfold drT; rw [if_pos e2, List.append_nil]; rfl
    rw [ed] at h he ⊢
    have hl : ((0 : Int) + 1) + ((paC 0 (zA x)).length : Int) = (([61] ++ paC 0 (zA x) : List Int).length : Int) := by simp only [List.length_append, List.length_singleton]; omega
    have hn : paN 0 (zA x) ≤ 10 := by unfold paN; rw [if_pos rfl]; omega
    refine ⟨h.1, 60 - paN 0 (zA x), ?_⟩
    have em : (61 : Nat) = (60 - paN 0 (zA x) + 1) + paN 0 (zA x) := by omega
    rw [em, et, ← hl]
    exact p_part0 zA' h.2 (by rw [hl]; exact he)
  · have ed : drC x y = [61] ++ (paC 0 (zA x) ++ paC 1 (zB y)) := by unfold drC; rw [if_neg hx, if_neg e2]
    have et : drT x y = ([] ++ paT 0 (zA x)) ++ paT 1 (zB y) := by unfold drT; rw [if_neg e2]; rfl
    rw [ed] at h he ⊢
    have hl : ((0 : Int) + 1) + ((paC 0 (zA x)).length : Int) + ((paC 1 (zB y)).length : Int) = (([61] ++ (paC 0 (zA x) ++ paC 1 (zB y)) : List Int).length : Int) := by simp only [List.length_append, List.length_singleton]; omega
    have hn : paN 0 (zA x) ≤ 10 := by unfold paN; rw [if_pos rfl]; omega
    have hn2 : paN 1 (zB y) ≤ 11 := by unfold paN; rw [if_neg (by decide)]; omega
    obtain ⟨t1, t2⟩ := (TL_app ch (paC 0 (zA x)) (paC 1 (zB y)) (0 + 1)).mp h.2
    have eo : ch (0 + 1 + ((paC 0 (zA x)).length : Int)) = opC (zB y) := by
      have e1 : paC 1 (zB y) = [opC (zB y)] ++ (neC (zB y) ++ boC (zB y)) := by unfold paC; rw [if_neg (by decide)]
      rw [e1] at t2
      exact t2.1
    refine ⟨h.1, 60 - paN 0 (zA x) - paN 1 (zB y), ?_⟩
    have em : (61 : Nat) = (60 - paN 0 (zA x) - paN 1 (zB y) + 1 + paN 1 (zB y)) + paN 0 (zA x) := by omega
    rw [em, et, ← hl]
    refine (p_part0 zA' t1 (by rw [eo]; exact opC_ndg _)).trans ?_
    exact p_part1 zB' t2 (by rw [hl]; exact he)
theorem rd_formula (hx : ¬ lowF x 9 = 0) (h : TL ch 0 (drC x y)) :
    (ch (drC x y).length = 0 → ctF ch 0 0 = .inr (((drC x y).length : Int), 2, 0, drT x y)) ∧ (ch (drC x y).length = 41 ∨ ch (drC x y).length = 59 → ctF ch 0 0 = .inl ((drC x y).length : Int)) := by
  constructor
  · intro he
    obtain ⟨h1, k, hk⟩ := rd_cn hx h (by rw [he]; unfold ndg; decide)
    unfold ctF
    rw [if_pos h1, hk, cS_end (by decide) rfl he]
  · intro he
    obtain ⟨h1, k, hk⟩ := rd_cn hx h (by unfold ndg; omega)
    unfold ctF
    rw [if_pos h1, hk, cS_bad rfl he rfl]
theorem rd_number (hx : lowF x 9 = 0) (h : TL ch 0 (drC x y)) :
    (ch (drC x y).length = 0 → ctF ch 0 0 = .inr (((drC x y).length : Int), 1, lowF y 100, [])) ∧ (ch (drC x y).length = 41 ∨ ch (drC x y).length = 59 → ctF ch 0 0 = .inl ((drC x y).length : Int)) := by
  have ed : drC x y = dec (lowF y 100) := by unfold drC; rw [if_pos hx]
  rw [ed] at h ⊢
  have hr := lowF_rng (v := y) (n := 100) (by decide)
  have key : ndg (ch (dec (lowF y 100)).length) → nuF ch 0 = (lowF y 100, ((dec (lowF y 100)).length : Int)) ∧ 48 ≤ ch 0 ∧ ch 0 ≤ 57 := fun hn => by
    have := nuF_t (ch := ch) (a := 0) hr h (by rw [Int.zero_add]; exact hn)
    rw [Int.zero_add] at this
    exact this
  constructor
  · intro he
    obtain ⟨k1, k2, k3⟩ := key (by rw [he]; unfold ndg; decide)
    unfold ctF
    rw [if_neg (by omega), if_neg (by omega), if_neg (show ¬ ch 0 = 45 by omega), Int.add_zero, if_neg (fun e => e ⟨k2, k3⟩), k1]
    dsimp only
    rw [if_pos he, if_neg (by omega)]
  · intro he
    obtain ⟨k1, k2, k3⟩ := key (by unfold ndg; omega)
    unfold ctF
    rw [if_neg (by omega), if_neg (by omega), if_neg (show ¬ ch 0 = 45 by omega), Int.add_zero, if_neg (fun e => e ⟨k2, k3⟩), k1]
    dsimp only
    rw [if_neg (by omega)]
/-! the text -/
theorem fm_cons (t : Int) (L : List Int) : fmT (mks (t :: L)) = fmT (mk1 t) ++ fmT (mks L) := by rw [mks_cons, fmT_app]
theorem fm_nil : fmT (mks []) = [] := rfl
theorem fx_ref (h : okS s) : fmT (mk1 (s * 8 + 2)) = spT s := by
  unfold mk1
  rw [if_neg (by omega), if_pos (by omega), fmT_1, show (s * 8 + 2) / 8 = s by omega, txM_spm h]
theorem fx_num (h : 0 ≤ v) (h2 : v < 1000000) : fmT (mk1 (v * 8 + 1)) = dec v := by
  unfold mk1
  rw [if_pos (by omega), fmT_1, show (v * 8 + 1) / 8 = v by omega]
  unfold txM
  rw [if_neg (by omega), if_neg (by omega), if_pos (by omega), show 10000 + v - 10000 = v by omega]
theorem fx_sign (h : 1 ≤ c) (h2 : c < 200) : fmT (mk1 (c * 8 + 5)) = [c] := by
  rw [mk1_op, fmT_1]
  unfold txM
  rw [if_pos h2]
theorem fx_rng {s2 : Int} (h : okS s) (h2 : okS s2) : fmT (mk1 ((s + 1024 * s2) * 8 + 3)) = spT s ++ ([58] ++ spT s2) := by
  obtain ⟨a1, a2, a3⟩ := id h
  unfold mk1
  rw [if_neg (by omega), if_neg (by omega), if_pos (by omega), show ((s + 1024 * s2) * 8 + 3) / 8 = s + 1024 * s2 by omega, show (s + 1024 * s2) % 1024 = s by omega, show (s + 1024 * s2) / 1024 = s2 by omega, fmT_cons, fmT_cons, fmT_1, txM_spm h, txM_spm h2]
  rfl
theorem fx_body (hz : 0 ≤ z ∧ z < 2147483648) : fmT (mks (boT z)) = boC z := by
  have m1 := mdr (z := z) (a := 16) (b := 100) (by decide)
  have m2 := mdr (z := z) (a := 512) (b := 20) (by decide)
  have m3 := mdr (z := z) (a := 256) (b := 9) (by decide)
  have m4 := mdr (z := z) (a := 1024) (b := 50) (by decide)
  have k333 : fmT (mk1 333) = [41] := by decide
  have k357 : fmT (mk1 357) = [44] := by decide
  have k325 : fmT (mk1 325) = [40] := by decide
  have k46 : fmT (mk1 46) = [73, 70, 40] := by decide
  have k6 : fmT (mk1 6) = [83, 85, 77, 40] := by decide
  have k22 : fmT (mk1 22) = [77, 65, 88, 40] := by decide
  have k30 : fmT (mk1 30) = [67, 79, 85, 78, 84, 40] := by decide
  have r3 := rfsF_ok (xshr z 3)
  have r4 := rfsF_ok (xshr z 4)
  have r5 := rfsF_ok (xshr z 5)
  have r6 := rfsF_ok (xshr z 6)
  have r8 := rfsF_ok (xshr z 8)
  have r9 := rfsF_ok (xshr z 9)
  unfold boT boC
  split
  · rw [fm_cons, fm_nil, List.append_nil, fx_ref r4]
  · split
    · rw [fm_cons, fm_nil, List.append_nil, fx_num m1.1 (by omega)]
    · split
      · have ht : ∀ L, fmT (mks ([if z % 11 = 7 then 6 else if z / 128 % 2 = 0 then 22 else 30] ++ L)) = (if z % 11 = 7 then [83, 85, 77, 40] else if z / 128 % 2 = 0 then [77, 65, 88, 40] else [67, 79, 85, 78, 84, 40]) ++ fmT (mks L) := fun L => by
          rw [List.singleton_append, fm_cons]
          split
          · rw [k6]
          · split
            · rw [k22]
            · rw [k30]
        rw [ht, List.singleton_append, fm_cons, fx_rng r3 r6]
        by_cases e : 0 < z / 256 % 3
        · rw [if_pos e, if_pos e, List.nil_append, List.nil_append, fm_cons, fm_nil, List.append_nil, k333]
          simp only [List.append_assoc]
        · rw [if_neg e, if_neg e, show ([357, z / 512 % 20 * 8 + 1] ++ [333] : List Int) = [357, z / 512 % 20 * 8 + 1, 333] from rfl, fm_cons, fm_cons, fm_cons, fm_nil, List.append_nil, k357, k333, fx_num m2.1 (by omega)]
          simp only [List.append_assoc]
      · split
        · have ho : fmT (mk1 ((if z / 128 % 2 = 0 then 60 else 61) * 8 + 5)) = [if z / 128 % 2 = 0 then 60 else 61] := by split <;> exact fx_sign (by decide) (by decide)
          rw [fm_cons, fm_cons, fm_cons, fm_cons, fm_cons, fm_cons, fm_cons, fm_cons, fm_cons, fm_nil, List.append_nil, k46, fx_ref r5, ho, fx_num m3.1 (by omega), k357, fx_num m4.1 (by omega), fx_ref r8, k333]
        · rw [fm_cons, fm_cons, fm_cons, fm_cons, fm_cons, fm_nil, List.append_nil, k325, fx_ref r5, fx_sign (by decide) (by decide), fx_ref r9, k333]
theorem fx_part (hz : 0 ≤ z ∧ z < 2147483648) (hj : j = 0 ∨ j = 1) : fmT (mks (paT j z)) = paC j z := by
  have hn : fmT (mks (neT z)) = neC z := by unfold neT neC; split <;> decide
  unfold paT paC
  rw [mks_app, fmT_app, mks_app, fmT_app, hn, fx_body hz]
  rcases hj with rfl | rfl
  · rw [if_pos rfl, if_pos rfl]; rfl
  · rw [if_neg (by decide), if_neg (by decide), fm_cons, fm_nil, List.append_nil, fx_sign (by have := opC_rng z; omega) (by have := opC_rng z; omega)]
/-- as long as what was typed -/
theorem fx_draws (hx : ¬ lowF x 9 = 0) : drC x y = 61 :: fmT (mks (drT x y)) := by
  unfold drC drT
  rw [if_neg hx, mks_app, fmT_app, fx_part (z := zA x) (xand_31 _) (.inl rfl)]
  by_cases e : lowF (xshr x 3) 2 = 0
  · rw [if_pos e, if_pos e]; rfl
  · rw [if_neg e, if_neg e, fx_part (z := zB y) (xand_31 _) (.inr rfl)]; rfl
end
