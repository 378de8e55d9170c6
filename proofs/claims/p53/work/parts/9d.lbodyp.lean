/-! p53: a part of a content is read (written by wip/p53/gen9d.py) -/
section
variable {ch : Int → Int} {en a v s z : Int} {m : Nat} {md : Int} {st rest : List Fr} {tk tk0 : List Int} {o q cc c : Int}
theorem cS_SUM (hm : md ≤ 1) (h : TL ch a [83, 85, 77, 40]) : cnT ch en (m + 1) md st tk a = cnT ch en m 1 ((0, 1, 0) :: st) (tk ++ [6]) (a + 4) := cS_word (k := 0) hm (by decide) h
theorem cS_MAX (hm : md ≤ 1) (h : TL ch a [77, 65, 88, 40]) : cnT ch en (m + 1) md st tk a = cnT ch en m 1 ((2, 1, 0) :: st) (tk ++ [22]) (a + 4) := cS_word (k := 2) hm (by decide) h
theorem cS_COUNT (hm : md ≤ 1) (h : TL ch a [67, 79, 85, 78, 84, 40]) : cnT ch en (m + 1) md st tk a = cnT ch en m 1 ((3, 1, 0) :: st) (tk ++ [30]) (a + 6) := cS_word (k := 3) hm (by decide) h
theorem cS_IF (hm : md ≤ 1) (h : TL ch a [73, 70, 40]) : cnT ch en (m + 1) md st tk a = cnT ch en m 0 ((5, 1, 0) :: st) (tk ++ [46]) (a + 3) := cS_word (k := 5) hm (by decide) h
theorem cS_ref0 (ho : okS s) (h : TL ch a (spT s)) (hn : ndg (ch (a + (spT s).length))) : cnT ch en (m + 1) 0 st tk a = cnT ch en m 2 st (tk ++ [s * 8 + 2]) (a + (spT s).length) := cS_ref (by decide) ho h hn
theorem cS_ref1 (ho : okS s) (h : TL ch a (spT s)) (hn : ndg (ch (a + (spT s).length))) : cnT ch en (m + 1) 1 st tk a = cnT ch en m 3 st (tk ++ [s * 8 + 2]) (a + (spT s).length) := cS_ref (by decide) ho h hn
theorem cS_com3 (hm : ¬ md ≤ 1) (h : ch a = 44) (hen : en = 0) (ho : o ≤ 3) : cnT ch en (m + 1) md ((o, q, cc) :: rest) tk a = cnT ch en m 1 ((o, q + 1, 0) :: rest) (tk ++ [357]) (a + 1) := by
  rw [cS_comma hm h (by omega) (.inl ho), if_pos ho]
theorem cS_com5 (hm : ¬ md ≤ 1) (h : ch a = 44) (hen : en = 0) (hq : q < 3) : cnT ch en (m + 1) md ((5, q, cc) :: rest) tk a = cnT ch en m 0 ((5, q + 1, 0) :: rest) (tk ++ [357]) (a + 1) := by
  rw [cS_comma hm h (by omega) (.inr ⟨rfl, hq⟩), if_neg (by decide)]
theorem ndg_c (h : ch a = c) (hc : c < 48 ∨ 57 < c) : ndg (ch a) := by unfold ndg; omega
/-- the words of a body -/
def boT (z : Int) : List Int :=
  if z % 11 < 5 then [rfsF (xshr z 4) * 8 + 2]
  else if z % 11 < 7 then [z / 16 % 100 * 8 + 1]
  else if z % 11 < 9 then [if z % 11 = 7 then 6 else if z / 128 % 2 = 0 then 22 else 30] ++ ([(rfsF (xshr z 3) + 1024 * rfsF (xshr z 6)) * 8 + 3] ++ ((if 0 < z / 256 % 3 then [] else [357, z / 512 % 20 * 8 + 1]) ++ [333]))
  else if z % 11 = 9 then [46, rfsF (xshr z 5) * 8 + 2, (if z / 128 % 2 = 0 then 60 else 61) * 8 + 5, z / 256 % 9 * 8 + 1, 357, z / 1024 % 50 * 8 + 1, 357, rfsF (xshr z 8) * 8 + 2, 333]
  else [325, rfsF (xshr z 5) * 8 + 2, 62 * 8 + 5, rfsF (xshr z 9) * 8 + 2, 333]
/-- in how many steps -/
def boN (z : Int) : Nat := if z % 11 < 5 then 1 else if z % 11 < 7 then 1 else if z % 11 < 9 then (if 0 < z / 256 % 3 then 4 else 6) else if z % 11 = 9 then 9 else 5
theorem p_ref (hz : 0 ≤ z ∧ z < 2147483648) (hen : en = 0) (hw : z % 11 < 5) (h : TL ch a (boC z)) (he : ndg (ch (a + (boC z).length))) : cnT ch en (m + boN z) 0 [(7, 1, 0)] tk a = cnT ch en m 2 [(7, 1, 0)] (tk ++ boT z) (a + (boC z).length) := by
  have m1 := mdr (z := z) (a := 16) (b := 100) (by decide)
  have m2 := mdr (z := z) (a := 512) (b := 20) (by decide)
  have m3 := mdr (z := z) (a := 256) (b := 9) (by decide)
  have m4 := mdr (z := z) (a := 1024) (b := 50) (by decide)
  have eb : boC z = spT (rfsF (xshr z 4)) := by unfold boC; rw [if_pos hw]
  have eT : boT z = [rfsF (xshr z 4) * 8 + 2] := by unfold boT; rw [if_pos hw]
  have eN : boN z = 1 := by unfold boN; rw [if_pos hw]
  rw [eN]
  rw [eb] at h
  have t0 := h
  have ep : (a + ((spT (rfsF (xshr z 4))).length : Int)) = a + ((boC z).length : Int) := by rw [eb] <;> (try simp only [List.length_append, List.length_singleton, List.length_cons, List.length_nil]) <;> (try omega)
  refine (cS_ref0 (m := m) (rfsF_ok _) t0 (by rw [ep]; exact he)).trans ?_
  rw [ep, eT] <;> (try simp only [List.append_assoc, List.cons_append, List.nil_append])
theorem p_num (hz : 0 ≤ z ∧ z < 2147483648) (hen : en = 0) (hw : ¬ z % 11 < 5) (hw2 : z % 11 < 7) (h : TL ch a (boC z)) (he : ndg (ch (a + (boC z).length))) : cnT ch en (m + boN z) 0 [(7, 1, 0)] tk a = cnT ch en m 2 [(7, 1, 0)] (tk ++ boT z) (a + (boC z).length) := by
  have m1 := mdr (z := z) (a := 16) (b := 100) (by decide)
  have m2 := mdr (z := z) (a := 512) (b := 20) (by decide)
  have m3 := mdr (z := z) (a := 256) (b := 9) (by decide)
  have m4 := mdr (z := z) (a := 1024) (b := 50) (by decide)
  have eb : boC z = dec (z / 16 % 100) := by unfold boC; rw [if_neg hw, if_pos hw2]
  have eT : boT z = [z / 16 % 100 * 8 + 1] := by unfold boT; rw [if_neg hw, if_pos hw2]
  have eN : boN z = 1 := by unfold boN; rw [if_neg hw, if_pos hw2]
  rw [eN]
  rw [eb] at h
  have t0 := h
  have ep : (a + ((dec (z / 16 % 100)).length : Int)) = a + ((boC z).length : Int) := by rw [eb] <;> (try simp only [List.length_append, List.length_singleton, List.length_cons, List.length_nil]) <;> (try omega)
  refine (cS_num (m := m) (by decide) (by omega) t0 (by rw [ep]; exact he)).trans ?_
  rw [ep, eT] <;> (try simp only [List.append_assoc, List.cons_append, List.nil_append])
theorem p_cmp (hz : 0 ≤ z ∧ z < 2147483648) (hen : en = 0) (hw : z % 11 = 10) (h : TL ch a (boC z)) (he : ndg (ch (a + (boC z).length))) : cnT ch en (m + boN z) 0 [(7, 1, 0)] tk a = cnT ch en m 2 [(7, 1, 0)] (tk ++ boT z) (a + (boC z).length) := by
  have m1 := mdr (z := z) (a := 16) (b := 100) (by decide)
  have m2 := mdr (z := z) (a := 512) (b := 20) (by decide)
  have m3 := mdr (z := z) (a := 256) (b := 9) (by decide)
  have m4 := mdr (z := z) (a := 1024) (b := 50) (by decide)
  have eb : boC z = [40] ++ (spT (rfsF (xshr z 5)) ++ ([62] ++ (spT (rfsF (xshr z 9)) ++ [41]))) := by unfold boC; rw [if_neg (show ¬ z % 11 < 5 by omega), if_neg (show ¬ z % 11 < 7 by omega), if_neg (show ¬ z % 11 < 9 by omega), if_neg (by omega)]
  have eT : boT z = [325, rfsF (xshr z 5) * 8 + 2, 62 * 8 + 5, rfsF (xshr z 9) * 8 + 2, 333] := by unfold boT; rw [if_neg (show ¬ z % 11 < 5 by omega), if_neg (show ¬ z % 11 < 7 by omega), if_neg (show ¬ z % 11 < 9 by omega), if_neg (by omega)]
  have eN : boN z = 5 := by unfold boN; rw [if_neg (show ¬ z % 11 < 5 by omega), if_neg (show ¬ z % 11 < 7 by omega), if_neg (show ¬ z % 11 < 9 by omega), if_neg (by omega)]
  rw [eN]
  rw [eb] at h
  obtain ⟨t0, r0'⟩ := (TL_app ch ([40]) (spT (rfsF (xshr z 5)) ++ ([62] ++ (spT (rfsF (xshr z 9)) ++ ([41])))) (a)).mp h
  have r0 : TL ch (a + 1) (spT (rfsF (xshr z 5)) ++ ([62] ++ (spT (rfsF (xshr z 9)) ++ ([41])))) := r0'
  obtain ⟨t1, r1'⟩ := (TL_app ch (spT (rfsF (xshr z 5))) ([62] ++ (spT (rfsF (xshr z 9)) ++ ([41]))) ((a + 1))).mp r0
  have r1 : TL ch ((a + 1) + ((spT (rfsF (xshr z 5))).length : Int)) ([62] ++ (spT (rfsF (xshr z 9)) ++ ([41]))) := r1'
  obtain ⟨t2, r2'⟩ := (TL_app ch ([62]) (spT (rfsF (xshr z 9)) ++ ([41])) (((a + 1) + ((spT (rfsF (xshr z 5))).length : Int)))).mp r1
  have r2 : TL ch (((a + 1) + ((spT (rfsF (xshr z 5))).length : Int)) + 1) (spT (rfsF (xshr z 9)) ++ ([41])) := r2'
  obtain ⟨t3, r3'⟩ := (TL_app ch (spT (rfsF (xshr z 9))) ([41]) ((((a + 1) + ((spT (rfsF (xshr z 5))).length : Int)) + 1))).mp r2
  have r3 : TL ch ((((a + 1) + ((spT (rfsF (xshr z 5))).length : Int)) + 1) + ((spT (rfsF (xshr z 9))).length : Int)) ([41]) := r3'
  have t4 := r3
  have ep : (((((a + 1) + ((spT (rfsF (xshr z 5))).length : Int)) + 1) + ((spT (rfsF (xshr z 9))).length : Int)) + 1) = a + ((boC z).length : Int) := by rw [eb] <;> (try simp only [List.length_append, List.length_singleton, List.length_cons, List.length_nil]) <;> (try omega)
  refine (cS_par (m := m + 4) (by decide) t0.1).trans ?_
  refine (cS_ref0 (m := m + 3) (rfsF_ok _) t1 (ndg_c t2.1 (by decide))).trans ?_
  refine (cS_cmp (m := m + 2) (by decide) (by decide) t2.1 (by rw [hen]; decide) (by decide)).trans ?_
  refine (cS_ref0 (m := m + 1) (rfsF_ok _) t3 (ndg_c t4.1 (by decide))).trans ?_
  refine (cS_close (m := m) (by decide) t4.1 (by decide) (by decide)).trans ?_
  rw [ep, eT] <;> (try simp only [List.append_assoc, List.cons_append, List.nil_append])
theorem p_if (hz : 0 ≤ z ∧ z < 2147483648) (hen : en = 0) (hw : z % 11 = 9) (h : TL ch a (boC z)) (he : ndg (ch (a + (boC z).length))) : cnT ch en (m + boN z) 0 [(7, 1, 0)] tk a = cnT ch en m 2 [(7, 1, 0)] (tk ++ boT z) (a + (boC z).length) := by
  have m1 := mdr (z := z) (a := 16) (b := 100) (by decide)
  have m2 := mdr (z := z) (a := 512) (b := 20) (by decide)
  have m3 := mdr (z := z) (a := 256) (b := 9) (by decide)
  have m4 := mdr (z := z) (a := 1024) (b := 50) (by decide)
  by_cases e1 : z / 128 % 2 = 0
  · have eb : boC z = [73, 70, 40] ++ (spT (rfsF (xshr z 5)) ++ ([60] ++ (dec (z / 256 % 9) ++ ([44] ++ (dec (z / 1024 % 50) ++ ([44] ++ (spT (rfsF (xshr z 8)) ++ [41]))))))) := by unfold boC; rw [if_neg (show ¬ z % 11 < 5 by omega), if_neg (show ¬ z % 11 < 7 by omega), if_neg (show ¬ z % 11 < 9 by omega), if_pos hw, if_pos e1]
    have eT : boT z = [46, rfsF (xshr z 5) * 8 + 2, 60 * 8 + 5, z / 256 % 9 * 8 + 1, 357, z / 1024 % 50 * 8 + 1, 357, rfsF (xshr z 8) * 8 + 2, 333] := by unfold boT; rw [if_neg (show ¬ z % 11 < 5 by omega), if_neg (show ¬ z % 11 < 7 by omega), if_neg (show ¬ z % 11 < 9 by omega), if_pos hw, if_pos e1]
    have eN : boN z = 9 := by unfold boN; rw [if_neg (show ¬ z % 11 < 5 by omega), if_neg (show ¬ z % 11 < 7 by omega), if_neg (show ¬ z % 11 < 9 by omega), if_pos hw]
    rw [eN]
    rw [eb] at h
    obtain ⟨t0, r0'⟩ := (TL_app ch ([73, 70, 40]) (spT (rfsF (xshr z 5)) ++ ([60] ++ (dec (z / 256 % 9) ++ ([44] ++ (dec (z / 1024 % 50) ++ ([44] ++ (spT (rfsF (xshr z 8)) ++ ([41])))))))) (a)).mp h
    have r0 : TL ch (a + 3) (spT (rfsF (xshr z 5)) ++ ([60] ++ (dec (z / 256 % 9) ++ ([44] ++ (dec (z / 1024 % 50) ++ ([44] ++ (spT (rfsF (xshr z 8)) ++ ([41])))))))) := r0'
    obtain ⟨t1, r1'⟩ := (TL_app ch (spT (rfsF (xshr z 5))) ([60] ++ (dec (z / 256 % 9) ++ ([44] ++ (dec (z / 1024 % 50) ++ ([44] ++ (spT (rfsF (xshr z 8)) ++ ([41]))))))) ((a + 3))).mp r0
    have r1 : TL ch ((a + 3) + ((spT (rfsF (xshr z 5))).length : Int)) ([60] ++ (dec (z / 256 % 9) ++ ([44] ++ (dec (z / 1024 % 50) ++ ([44] ++ (spT (rfsF (xshr z 8)) ++ ([41]))))))) := r1'
    obtain ⟨t2, r2'⟩ := (TL_app ch ([60]) (dec (z / 256 % 9) ++ ([44] ++ (dec (z / 1024 % 50) ++ ([44] ++ (spT (rfsF (xshr z 8)) ++ ([41])))))) (((a + 3) + ((spT (rfsF (xshr z 5))).length : Int)))).mp r1
    have r2 : TL ch (((a + 3) + ((spT (rfsF (xshr z 5))).length : Int)) + 1) (dec (z / 256 % 9) ++ ([44] ++ (dec (z / 1024 % 50) ++ ([44] ++ (spT (rfsF (xshr z 8)) ++ ([41])))))) := r2'
    obtain ⟨t3, r3'⟩ := (TL_app ch (dec (z / 256 % 9)) ([44] ++ (dec (z / 1024 % 50) ++ ([44] ++ (spT (rfsF (xshr z 8)) ++ ([41]))))) ((((a + 3) + ((spT (rfsF (xshr z 5))).length : Int)) + 1))).mp r2
    have r3 : TL ch ((((a + 3) + ((spT (rfsF (xshr z 5))).length : Int)) + 1) + ((dec (z / 256 % 9)).length : Int)) ([44] ++ (dec (z / 1024 % 50) ++ ([44] ++ (spT (rfsF (xshr z 8)) ++ ([41]))))) := r3'
    obtain ⟨t4, r4'⟩ := (TL_app ch ([44]) (dec (z / 1024 % 50) ++ ([44] ++ (spT (rfsF (xshr z 8)) ++ ([41])))) (((((a + 3) + ((spT (rfsF (xshr z 5))).length : Int)) + 1) + ((dec (z / 256 % 9)).length : Int)))).mp r3
    have r4 : TL ch (((((a + 3) + ((spT (rfsF (xshr z 5))).length : Int)) + 1) + ((dec (z / 256 % 9)).length : Int)) + 1) (dec (z / 1024 % 50) ++ ([44] ++ (spT (rfsF (xshr z 8)) ++ ([41])))) := r4'
    obtain ⟨t5, r5'⟩ := (TL_app ch (dec (z / 1024 % 50)) ([44] ++ (spT (rfsF (xshr z 8)) ++ ([41]))) ((((((a + 3) + ((spT (rfsF (xshr z 5))).length : Int)) + 1) + ((dec (z / 256 % 9)).length : Int)) + 1))).mp r4
    have r5 : TL ch ((((((a + 3) + ((spT (rfsF (xshr z 5))).length : Int)) + 1) + ((dec (z / 256 % 9)).length : Int)) + 1) + ((dec (z / 1024 % 50)).length : Int)) ([44] ++ (spT (rfsF (xshr z 8)) ++ ([41]))) := r5'
    obtain ⟨t6, r6'⟩ := (TL_app ch ([44]) (spT (rfsF (xshr z 8)) ++ ([41])) (((((((a + 3) + ((spT (rfsF (xshr z 5))).length : Int)) + 1) + ((dec (z / 256 % 9)).length : Int)) + 1) + ((dec (z / 1024 % 50)).length : Int)))).mp r5
    have r6 : TL ch (((((((a + 3) + ((spT (rfsF (xshr z 5))).length : Int)) + 1) + ((dec (z / 256 % 9)).length : Int)) + 1) + ((dec (z / 1024 % 50)).length : Int)) + 1) (spT (rfsF (xshr z 8)) ++ ([41])) := r6'
    obtain ⟨t7, r7'⟩ := (TL_app ch (spT (rfsF (xshr z 8))) ([41]) ((((((((a + 3) + ((spT (rfsF (xshr z 5))).length : Int)) + 1) + ((dec (z / 256 % 9)).length : Int)) + 1) + ((dec (z / 1024 % 50)).length : Int)) + 1))).mp r6
    have r7 : TL ch ((((((((a + 3) + ((spT (rfsF (xshr z 5))).length : Int)) + 1) + ((dec (z / 256 % 9)).length : Int)) + 1) + ((dec (z / 1024 % 50)).length : Int)) + 1) + ((spT (rfsF (xshr z 8))).length : Int)) ([41]) := r7'
    have t8 := r7
    have ep : (((((((((a + 3) + ((spT (rfsF (xshr z 5))).length : Int)) + 1) + ((dec (z / 256 % 9)).length : Int)) + 1) + ((dec (z / 1024 % 50)).length : Int)) + 1) + ((spT (rfsF (xshr z 8))).length : Int)) + 1) = a + ((boC z).length : Int) := by rw [eb] <;> (try simp only [List.length_append, List.length_singleton, List.length_cons, List.length_nil]) <;> (try omega)
    refine (cS_IF (m := m + 8) (by decide) t0).trans ?_
    refine (cS_ref0 (m := m + 7) (rfsF_ok _) t1 (ndg_c t2.1 (by decide))).trans ?_
    refine (cS_cmp (m := m + 6) (by decide) (by decide) t2.1 (by rw [hen]; decide) (by decide)).trans ?_
    refine (cS_num (m := m + 5) (by decide) (by omega) t3 (ndg_c t4.1 (by decide))).trans ?_
    refine (cS_com5 (m := m + 4) (by decide) t4.1 hen (by decide)).trans ?_
    refine (cS_num (m := m + 3) (by decide) (by omega) t5 (ndg_c t6.1 (by decide))).trans ?_
    refine (cS_com5 (m := m + 2) (by decide) t6.1 hen (by decide)).trans ?_
    refine (cS_ref0 (m := m + 1) (rfsF_ok _) t7 (ndg_c t8.1 (by decide))).trans ?_
    refine (cS_close (m := m) (by decide) t8.1 (by decide) (by decide)).trans ?_
    rw [ep, eT] <;> (try simp only [List.append_assoc, List.cons_append, List.nil_append])
  · have eb : boC z = [73, 70, 40] ++ (spT (rfsF (xshr z 5)) ++ ([61] ++ (dec (z / 256 % 9) ++ ([44] ++ (dec (z / 1024 % 50) ++ ([44] ++ (spT (rfsF (xshr z 8)) ++ [41]))))))) := by unfold boC; rw [if_neg (show ¬ z % 11 < 5 by omega), if_neg (show ¬ z % 11 < 7 by omega), if_neg (show ¬ z % 11 < 9 by omega), if_pos hw, if_neg e1]
    have eT : boT z = [46, rfsF (xshr z 5) * 8 + 2, 61 * 8 + 5, z / 256 % 9 * 8 + 1, 357, z / 1024 % 50 * 8 + 1, 357, rfsF (xshr z 8) * 8 + 2, 333] := by unfold boT; rw [if_neg (show ¬ z % 11 < 5 by omega), if_neg (show ¬ z % 11 < 7 by omega), if_neg (show ¬ z % 11 < 9 by omega), if_pos hw, if_neg e1]
    have eN : boN z = 9 := by unfold boN; rw [if_neg (show ¬ z % 11 < 5 by omega), if_neg (show ¬ z % 11 < 7 by omega), if_neg (show ¬ z % 11 < 9 by omega), if_pos hw]
    rw [eN]
    rw [eb] at h
    obtain ⟨t0, r0'⟩ := (TL_app ch ([73, 70, 40]) (spT (rfsF (xshr z 5)) ++ ([61] ++ (dec (z / 256 % 9) ++ ([44] ++ (dec (z / 1024 % 50) ++ ([44] ++ (spT (rfsF (xshr z 8)) ++ ([41])))))))) (a)).mp h
    have r0 : TL ch (a + 3) (spT (rfsF (xshr z 5)) ++ ([61] ++ (dec (z / 256 % 9) ++ ([44] ++ (dec (z / 1024 % 50) ++ ([44] ++ (spT (rfsF (xshr z 8)) ++ ([41])))))))) := r0'
    obtain ⟨t1, r1'⟩ := (TL_app ch (spT (rfsF (xshr z 5))) ([61] ++ (dec (z / 256 % 9) ++ ([44] ++ (dec (z / 1024 % 50) ++ ([44] ++ (spT (rfsF (xshr z 8)) ++ ([41]))))))) ((a + 3))).mp r0
    have r1 : TL ch ((a + 3) + ((spT (rfsF (xshr z 5))).length : Int)) ([61] ++ (dec (z / 256 % 9) ++ ([44] ++ (dec (z / 1024 % 50) ++ ([44] ++ (spT (rfsF (xshr z 8)) ++ ([41]))))))) := r1'
    obtain ⟨t2, r2'⟩ := (TL_app ch ([61]) (dec (z / 256 % 9) ++ ([44] ++ (dec (z / 1024 % 50) ++ ([44] ++ (spT (rfsF (xshr z 8)) ++ ([41])))))) (((a + 3) + ((spT (rfsF (xshr z 5))).length : Int)))).mp r1
    have r2 : TL ch (((a + 3) + ((spT (rfsF (xshr z 5))).length : Int)) + 1) (dec (z / 256 % 9) ++ ([44] ++ (dec (z / 1024 % 50) ++ ([44] ++ (spT (rfsF (xshr z 8)) ++ ([41])))))) := r2'
    obtain ⟨t3, r3'⟩ := (TL_app ch (dec (z / 256 % 9)) ([44] ++ (dec (z / 1024 % 50) ++ ([44] ++ (spT (rfsF (xshr z 8)) ++ ([41]))))) ((((a + 3) + ((spT (rfsF (xshr z 5))).length : Int)) + 1))).mp r2
    have r3 : TL ch ((((a + 3) + ((spT (rfsF (xshr z 5))).length : Int)) + 1) + ((dec (z / 256 % 9)).length : Int)) ([44] ++ (dec (z / 1024 % 50) ++ ([44] ++ (spT (rfsF (xshr z 8)) ++ ([41]))))) := r3'
    obtain ⟨t4, r4'⟩ := (TL_app ch ([44]) (dec (z / 1024 % 50) ++ ([44] ++ (spT (rfsF (xshr z 8)) ++ ([41])))) (((((a + 3) + ((spT (rfsF (xshr z 5))).length : Int)) + 1) + ((dec (z / 256 % 9)).length : Int)))).mp r3
    have r4 : TL ch (((((a + 3) + ((spT (rfsF (xshr z 5))).length : Int)) + 1) + ((dec (z / 256 % 9)).length : Int)) + 1) (dec (z / 1024 % 50) ++ ([44] ++ (spT (rfsF (xshr z 8)) ++ ([41])))) := r4'
    obtain ⟨t5, r5'⟩ := (TL_app ch (dec (z / 1024 % 50)) ([44] ++ (spT (rfsF (xshr z 8)) ++ ([41]))) ((((((a + 3) + ((spT (rfsF (xshr z 5))).length : Int)) + 1) + ((dec (z / 256 % 9)).length : Int)) + 1))).mp r4
    have r5 : TL ch ((((((a + 3) + ((spT (rfsF (xshr z 5))).length : Int)) + 1) + ((dec (z / 256 % 9)).length : Int)) + 1) + ((dec (z / 1024 % 50)).length : Int)) ([44] ++ (spT (rfsF (xshr z 8)) ++ ([41]))) := r5'
    obtain ⟨t6, r6'⟩ := (TL_app ch ([44]) (spT (rfsF (xshr z 8)) ++ ([41])) (((((((a + 3) + ((spT (rfsF (xshr z 5))).length : Int)) + 1) + ((dec (z / 256 % 9)).length : Int)) + 1) + ((dec (z / 1024 % 50)).length : Int)))).mp r5
    have r6 : TL ch (((((((a + 3) + ((spT (rfsF (xshr z 5))).length : Int)) + 1) + ((dec (z / 256 % 9)).length : Int)) + 1) + ((dec (z / 1024 % 50)).length : Int)) + 1) (spT (rfsF (xshr z 8)) ++ ([41])) := r6'
    obtain ⟨t7, r7'⟩ := (TL_app ch (spT (rfsF (xshr z 8))) ([41]) ((((((((a + 3) + ((spT (rfsF (xshr z 5))).length : Int)) + 1) + ((dec (z / 256 % 9)).length : Int)) + 1) + ((dec (z / 1024 % 50)).length : Int)) + 1))).mp r6
    have r7 : TL ch ((((((((a + 3) + ((spT (rfsF (xshr z 5))).length : Int)) + 1) + ((dec (z / 256 % 9)).length : Int)) + 1) + ((dec (z / 1024 % 50)).length : Int)) + 1) + ((spT (rfsF (xshr z 8))).length : Int)) ([41]) := r7'
    have t8 := r7
    have ep : (((((((((a + 3) + ((spT (rfsF (xshr z 5))).length : Int)) + 1) + ((dec (z / 256 % 9)).length : Int)) + 1) + ((dec (z / 1024 % 50)).length : Int)) + 1) + ((spT (rfsF (xshr z 8))).length : Int)) + 1) = a + ((boC z).length : Int) := by rw [eb] <;> (try simp only [List.length_append, List.length_singleton, List.length_cons, List.length_nil]) <;> (try omega)
    refine (cS_IF (m := m + 8) (by decide) t0).trans ?_
    refine (cS_ref0 (m := m + 7) (rfsF_ok _) t1 (ndg_c t2.1 (by decide))).trans ?_
    refine (cS_cmp (m := m + 6) (by decide) (by decide) t2.1 (by rw [hen]; decide) (by decide)).trans ?_
    refine (cS_num (m := m + 5) (by decide) (by omega) t3 (ndg_c t4.1 (by decide))).trans ?_
    refine (cS_com5 (m := m + 4) (by decide) t4.1 hen (by decide)).trans ?_
    refine (cS_num (m := m + 3) (by decide) (by omega) t5 (ndg_c t6.1 (by decide))).trans ?_
    refine (cS_com5 (m := m + 2) (by decide) t6.1 hen (by decide)).trans ?_
    refine (cS_ref0 (m := m + 1) (rfsF_ok _) t7 (ndg_c t8.1 (by decide))).trans ?_
    refine (cS_close (m := m) (by decide) t8.1 (by decide) (by decide)).trans ?_
    rw [ep, eT] <;> (try simp only [List.append_assoc, List.cons_append, List.nil_append])
theorem p_agg (hz : 0 ≤ z ∧ z < 2147483648) (hen : en = 0) (hw : ¬ z % 11 < 7) (hw2 : z % 11 < 9) (h : TL ch a (boC z)) (he : ndg (ch (a + (boC z).length))) : cnT ch en (m + boN z) 0 [(7, 1, 0)] tk a = cnT ch en m 2 [(7, 1, 0)] (tk ++ boT z) (a + (boC z).length) := by
  have m1 := mdr (z := z) (a := 16) (b := 100) (by decide)
  have m2 := mdr (z := z) (a := 512) (b := 20) (by decide)
  have m3 := mdr (z := z) (a := 256) (b := 9) (by decide)
  have m4 := mdr (z := z) (a := 1024) (b := 50) (by decide)
  by_cases e3 : 0 < z / 256 % 3
  · by_cases e1 : z % 11 = 7
    · have eb : boC z = [83, 85, 77, 40] ++ (spT (rfsF (xshr z 3)) ++ ([58] ++ (spT (rfsF (xshr z 6)) ++ ([41])))) := by unfold boC; rw [if_neg (show ¬ z % 11 < 5 by omega), if_neg (show ¬ z % 11 < 7 by omega), if_pos hw2, if_pos e1, if_pos e3]; rfl
      have eT : boT z = [6] ++ ([(rfsF (xshr z 3) + 1024 * rfsF (xshr z 6)) * 8 + 3] ++ (([]) ++ [333])) := by unfold boT; rw [if_neg (show ¬ z % 11 < 5 by omega), if_neg (show ¬ z % 11 < 7 by omega), if_pos hw2, if_pos e1, if_pos e3]
      have eN : boN z = 4 := by unfold boN; rw [if_neg (show ¬ z % 11 < 5 by omega), if_neg (show ¬ z % 11 < 7 by omega), if_pos hw2, if_pos e3]
      rw [eN]
      rw [eb] at h
      obtain ⟨t0, r0'⟩ := (TL_app ch ([83, 85, 77, 40]) (spT (rfsF (xshr z 3)) ++ ([58] ++ (spT (rfsF (xshr z 6)) ++ ([41])))) (a)).mp h
      have r0 : TL ch (a + 4) (spT (rfsF (xshr z 3)) ++ ([58] ++ (spT (rfsF (xshr z 6)) ++ ([41])))) := r0'
      obtain ⟨t1, r1'⟩ := (TL_app ch (spT (rfsF (xshr z 3))) ([58] ++ (spT (rfsF (xshr z 6)) ++ ([41]))) ((a + 4))).mp r0
      have r1 : TL ch ((a + 4) + ((spT (rfsF (xshr z 3))).length : Int)) ([58] ++ (spT (rfsF (xshr z 6)) ++ ([41]))) := r1'
      obtain ⟨t2, r2'⟩ := (TL_app ch ([58]) (spT (rfsF (xshr z 6)) ++ ([41])) (((a + 4) + ((spT (rfsF (xshr z 3))).length : Int)))).mp r1
      have r2 : TL ch (((a + 4) + ((spT (rfsF (xshr z 3))).length : Int)) + 1) (spT (rfsF (xshr z 6)) ++ ([41])) := r2'
      obtain ⟨t3, r3'⟩ := (TL_app ch (spT (rfsF (xshr z 6))) ([41]) ((((a + 4) + ((spT (rfsF (xshr z 3))).length : Int)) + 1))).mp r2
      have r3 : TL ch ((((a + 4) + ((spT (rfsF (xshr z 3))).length : Int)) + 1) + ((spT (rfsF (xshr z 6))).length : Int)) ([41]) := r3'
      have t4 := r3
      have ep : (((((a + 4) + ((spT (rfsF (xshr z 3))).length : Int)) + 1) + ((spT (rfsF (xshr z 6))).length : Int)) + 1) = a + ((boC z).length : Int) := by rw [eb] <;> (try simp only [List.length_append, List.length_singleton, List.length_cons, List.length_nil]) <;> (try omega)
      refine (cS_SUM (m := m + 3) (by decide) t0).trans ?_
      refine (cS_ref1 (m := m + 2) (rfsF_ok _) t1 (ndg_c t2.1 (by decide))).trans ?_
      refine (cS_colon (m := m + 1) t2.1 (by omega) (rfsF_ok _) (rfsF_ok _) t3 (ndg_c t4.1 (by decide))).trans ?_
      refine (cS_close (m := m) (by decide) t4.1 (by decide) (by decide)).trans ?_
      rw [ep, eT] <;> (try simp only [List.append_assoc, List.cons_append, List.nil_append])
    · by_cases e2 : z / 128 % 2 = 0
      · have eb : boC z = [77, 65, 88, 40] ++ (spT (rfsF (xshr z 3)) ++ ([58] ++ (spT (rfsF (xshr z 6)) ++ ([41])))) := by unfold boC; rw [if_neg (show ¬ z % 11 < 5 by omega), if_neg (show ¬ z % 11 < 7 by omega), if_pos hw2, if_neg e1, if_pos e2, if_pos e3]; rfl
        have eT : boT z = [22] ++ ([(rfsF (xshr z 3) + 1024 * rfsF (xshr z 6)) * 8 + 3] ++ (([]) ++ [333])) := by unfold boT; rw [if_neg (show ¬ z % 11 < 5 by omega), if_neg (show ¬ z % 11 < 7 by omega), if_pos hw2, if_neg e1, if_pos e2, if_pos e3]
        have eN : boN z = 4 := by unfold boN; rw [if_neg (show ¬ z % 11 < 5 by omega), if_neg (show ¬ z % 11 < 7 by omega), if_pos hw2, if_pos e3]
        rw [eN]
        rw [eb] at h
        obtain ⟨t0, r0'⟩ := (TL_app ch ([77, 65, 88, 40]) (spT (rfsF (xshr z 3)) ++ ([58] ++ (spT (rfsF (xshr z 6)) ++ ([41])))) (a)).mp h
        have r0 : TL ch (a + 4) (spT (rfsF (xshr z 3)) ++ ([58] ++ (spT (rfsF (xshr z 6)) ++ ([41])))) := r0'
        obtain ⟨t1, r1'⟩ := (TL_app ch (spT (rfsF (xshr z 3))) ([58] ++ (spT (rfsF (xshr z 6)) ++ ([41]))) ((a + 4))).mp r0
        have r1 : TL ch ((a + 4) + ((spT (rfsF (xshr z 3))).length : Int)) ([58] ++ (spT (rfsF (xshr z 6)) ++ ([41]))) := r1'
        obtain ⟨t2, r2'⟩ := (TL_app ch ([58]) (spT (rfsF (xshr z 6)) ++ ([41])) (((a + 4) + ((spT (rfsF (xshr z 3))).length : Int)))).mp r1
        have r2 : TL ch (((a + 4) + ((spT (rfsF (xshr z 3))).length : Int)) + 1) (spT (rfsF (xshr z 6)) ++ ([41])) := r2'
        obtain ⟨t3, r3'⟩ := (TL_app ch (spT (rfsF (xshr z 6))) ([41]) ((((a + 4) + ((spT (rfsF (xshr z 3))).length : Int)) + 1))).mp r2
        have r3 : TL ch ((((a + 4) + ((spT (rfsF (xshr z 3))).length : Int)) + 1) + ((spT (rfsF (xshr z 6))).length : Int)) ([41]) := r3'
        have t4 := r3
        have ep : (((((a + 4) + ((spT (rfsF (xshr z 3))).length : Int)) + 1) + ((spT (rfsF (xshr z 6))).length : Int)) + 1) = a + ((boC z).length : Int) := by rw [eb] <;> (try simp only [List.length_append, List.length_singleton, List.length_cons, List.length_nil]) <;> (try omega)
        refine (cS_MAX (m := m + 3) (by decide) t0).trans ?_
        refine (cS_ref1 (m := m + 2) (rfsF_ok _) t1 (ndg_c t2.1 (by decide))).trans ?_
        refine (cS_colon (m := m + 1) t2.1 (by omega) (rfsF_ok _) (rfsF_ok _) t3 (ndg_c t4.1 (by decide))).trans ?_
        refine (cS_close (m := m) (by decide) t4.1 (by decide) (by decide)).trans ?_
        rw [ep, eT] <;> (try simp only [List.append_assoc, List.cons_append, List.nil_append])
      · have eb : boC z = [67, 79, 85, 78, 84, 40] ++ (spT (rfsF (xshr z 3)) ++ ([58] ++ (spT (rfsF (xshr z 6)) ++ ([41])))) := by unfold boC; rw [if_neg (show ¬ z % 11 < 5 by omega), if_neg (show ¬ z % 11 < 7 by omega), if_pos hw2, if_neg e1, if_neg e2, if_pos e3]; rfl
        have eT : boT z = [30] ++ ([(rfsF (xshr z 3) + 1024 * rfsF (xshr z 6)) * 8 + 3] ++ (([]) ++ [333])) := by unfold boT; rw [if_neg (show ¬ z % 11 < 5 by omega), if_neg (show ¬ z % 11 < 7 by omega), if_pos hw2, if_neg e1, if_neg e2, if_pos e3]
        have eN : boN z = 4 := by unfold boN; rw [if_neg (show ¬ z % 11 < 5 by omega), if_neg (show ¬ z % 11 < 7 by omega), if_pos hw2, if_pos e3]
        rw [eN]
        rw [eb] at h
        obtain ⟨t0, r0'⟩ := (TL_app ch ([67, 79, 85, 78, 84, 40]) (spT (rfsF (xshr z 3)) ++ ([58] ++ (spT (rfsF (xshr z 6)) ++ ([41])))) (a)).mp h
        have r0 : TL ch (a + 6) (spT (rfsF (xshr z 3)) ++ ([58] ++ (spT (rfsF (xshr z 6)) ++ ([41])))) := r0'
        obtain ⟨t1, r1'⟩ := (TL_app ch (spT (rfsF (xshr z 3))) ([58] ++ (spT (rfsF (xshr z 6)) ++ ([41]))) ((a + 6))).mp r0
        have r1 : TL ch ((a + 6) + ((spT (rfsF (xshr z 3))).length : Int)) ([58] ++ (spT (rfsF (xshr z 6)) ++ ([41]))) := r1'
        obtain ⟨t2, r2'⟩ := (TL_app ch ([58]) (spT (rfsF (xshr z 6)) ++ ([41])) (((a + 6) + ((spT (rfsF (xshr z 3))).length : Int)))).mp r1
        have r2 : TL ch (((a + 6) + ((spT (rfsF (xshr z 3))).length : Int)) + 1) (spT (rfsF (xshr z 6)) ++ ([41])) := r2'
        obtain ⟨t3, r3'⟩ := (TL_app ch (spT (rfsF (xshr z 6))) ([41]) ((((a + 6) + ((spT (rfsF (xshr z 3))).length : Int)) + 1))).mp r2
        have r3 : TL ch ((((a + 6) + ((spT (rfsF (xshr z 3))).length : Int)) + 1) + ((spT (rfsF (xshr z 6))).length : Int)) ([41]) := r3'
        have t4 := r3
        have ep : (((((a + 6) + ((spT (rfsF (xshr z 3))).length : Int)) + 1) + ((spT (rfsF (xshr z 6))).length : Int)) + 1) = a + ((boC z).length : Int) := by rw [eb] <;> (try simp only [List.length_append, List.length_singleton, List.length_cons, List.length_nil]) <;> (try omega)
        refine (cS_COUNT (m := m + 3) (by decide) t0).trans ?_
        refine (cS_ref1 (m := m + 2) (rfsF_ok _) t1 (ndg_c t2.1 (by decide))).trans ?_
        refine (cS_colon (m := m + 1) t2.1 (by omega) (rfsF_ok _) (rfsF_ok _) t3 (ndg_c t4.1 (by decide))).trans ?_
        refine (cS_close (m := m) (by decide) t4.1 (by decide) (by decide)).trans ?_
        rw [ep, eT] <;> (try simp only [List.append_assoc, List.cons_append, List.nil_append])
  · by_cases e1 : z % 11 = 7
    · have eb : boC z = [83, 85, 77, 40] ++ (spT (rfsF (xshr z 3)) ++ ([58] ++ (spT (rfsF (xshr z 6)) ++ ([44] ++ (dec (z / 512 % 20) ++ [41]))))) := by unfold boC; rw [if_neg (show ¬ z % 11 < 5 by omega), if_neg (show ¬ z % 11 < 7 by omega), if_pos hw2, if_pos e1, if_neg e3]; rfl
      have eT : boT z = [6] ++ ([(rfsF (xshr z 3) + 1024 * rfsF (xshr z 6)) * 8 + 3] ++ (([357, z / 512 % 20 * 8 + 1]) ++ [333])) := by unfold boT; rw [if_neg (show ¬ z % 11 < 5 by omega), if_neg (show ¬ z % 11 < 7 by omega), if_pos hw2, if_pos e1, if_neg e3]
      have eN : boN z = 6 := by unfold boN; rw [if_neg (show ¬ z % 11 < 5 by omega), if_neg (show ¬ z % 11 < 7 by omega), if_pos hw2, if_neg e3]
      rw [eN]
      rw [eb] at h
      obtain ⟨t0, r0'⟩ := (TL_app ch ([83, 85, 77, 40]) (spT (rfsF (xshr z 3)) ++ ([58] ++ (spT (rfsF (xshr z 6)) ++ ([44] ++ (dec (z / 512 % 20) ++ ([41])))))) (a)).mp h
      have r0 : TL ch (a + 4) (spT (rfsF (xshr z 3)) ++ ([58] ++ (spT (rfsF (xshr z 6)) ++ ([44] ++ (dec (z / 512 % 20) ++ ([41])))))) := r0'
      obtain ⟨t1, r1'⟩ := (TL_app ch (spT (rfsF (xshr z 3))) ([58] ++ (spT (rfsF (xshr z 6)) ++ ([44] ++ (dec (z / 512 % 20) ++ ([41]))))) ((a + 4))).mp r0
      have r1 : TL ch ((a + 4) + ((spT (rfsF (xshr z 3))).length : Int)) ([58] ++ (spT (rfsF (xshr z 6)) ++ ([44] ++ (dec (z / 512 % 20) ++ ([41]))))) := r1'
      obtain ⟨t2, r2'⟩ := (TL_app ch ([58]) (spT (rfsF (xshr z 6)) ++ ([44] ++ (dec (z / 512 % 20) ++ ([41])))) (((a + 4) + ((spT (rfsF (xshr z 3))).length : Int)))).mp r1
      have r2 : TL ch (((a + 4) + ((spT (rfsF (xshr z 3))).length : Int)) + 1) (spT (rfsF (xshr z 6)) ++ ([44] ++ (dec (z / 512 % 20) ++ ([41])))) := r2'
      obtain ⟨t3, r3'⟩ := (TL_app ch (spT (rfsF (xshr z 6))) ([44] ++ (dec (z / 512 % 20) ++ ([41]))) ((((a + 4) + ((spT (rfsF (xshr z 3))).length : Int)) + 1))).mp r2
      have r3 : TL ch ((((a + 4) + ((spT (rfsF (xshr z 3))).length : Int)) + 1) + ((spT (rfsF (xshr z 6))).length : Int)) ([44] ++ (dec (z / 512 % 20) ++ ([41]))) := r3'
      obtain ⟨t4, r4'⟩ := (TL_app ch ([44]) (dec (z / 512 % 20) ++ ([41])) (((((a + 4) + ((spT (rfsF (xshr z 3))).length : Int)) + 1) + ((spT (rfsF (xshr z 6))).length : Int)))).mp r3
      have r4 : TL ch (((((a + 4) + ((spT (rfsF (xshr z 3))).length : Int)) + 1) + ((spT (rfsF (xshr z 6))).length : Int)) + 1) (dec (z / 512 % 20) ++ ([41])) := r4'
      obtain ⟨t5, r5'⟩ := (TL_app ch (dec (z / 512 % 20)) ([41]) ((((((a + 4) + ((spT (rfsF (xshr z 3))).length : Int)) + 1) + ((spT (rfsF (xshr z 6))).length : Int)) + 1))).mp r4
      have r5 : TL ch ((((((a + 4) + ((spT (rfsF (xshr z 3))).length : Int)) + 1) + ((spT (rfsF (xshr z 6))).length : Int)) + 1) + ((dec (z / 512 % 20)).length : Int)) ([41]) := r5'
      have t6 := r5
      have ep : (((((((a + 4) + ((spT (rfsF (xshr z 3))).length : Int)) + 1) + ((spT (rfsF (xshr z 6))).length : Int)) + 1) + ((dec (z / 512 % 20)).length : Int)) + 1) = a + ((boC z).length : Int) := by rw [eb] <;> (try simp only [List.length_append, List.length_singleton, List.length_cons, List.length_nil]) <;> (try omega)
      refine (cS_SUM (m := m + 5) (by decide) t0).trans ?_
      refine (cS_ref1 (m := m + 4) (rfsF_ok _) t1 (ndg_c t2.1 (by decide))).trans ?_
      refine (cS_colon (m := m + 3) t2.1 (by omega) (rfsF_ok _) (rfsF_ok _) t3 (ndg_c t4.1 (by decide))).trans ?_
      refine (cS_com3 (m := m + 2) (by decide) t4.1 hen (by decide)).trans ?_
      refine (cS_num (m := m + 1) (by decide) (by omega) t5 (ndg_c t6.1 (by decide))).trans ?_
      refine (cS_close (m := m) (by decide) t6.1 (by decide) (by decide)).trans ?_
      rw [ep, eT] <;> (try simp only [List.append_assoc, List.cons_append, List.nil_append])
    · by_cases e2 : z / 128 % 2 = 0
      · have eb : boC z = [77, 65, 88, 40] ++ (spT (rfsF (xshr z 3)) ++ ([58] ++ (spT (rfsF (xshr z 6)) ++ ([44] ++ (dec (z / 512 % 20) ++ [41]))))) := by unfold boC; rw [if_neg (show ¬ z % 11 < 5 by omega), if_neg (show ¬ z % 11 < 7 by omega), if_pos hw2, if_neg e1, if_pos e2, if_neg e3]; rfl
        have eT : boT z = [22] ++ ([(rfsF (xshr z 3) + 1024 * rfsF (xshr z 6)) * 8 + 3] ++ (([357, z / 512 % 20 * 8 + 1]) ++ [333])) := by unfold boT; rw [if_neg (show ¬ z % 11 < 5 by omega), if_neg (show ¬ z % 11 < 7 by omega), if_pos hw2, if_neg e1, if_pos e2, if_neg e3]
        have eN : boN z = 6 := by unfold boN; rw [if_neg (show ¬ z % 11 < 5 by omega), if_neg (show ¬ z % 11 < 7 by omega), if_pos hw2, if_neg e3]
        rw [eN]
        rw [eb] at h
        obtain ⟨t0, r0'⟩ := (TL_app ch ([77, 65, 88, 40]) (spT (rfsF (xshr z 3)) ++ ([58] ++ (spT (rfsF (xshr z 6)) ++ ([44] ++ (dec (z / 512 % 20) ++ ([41])))))) (a)).mp h
        have r0 : TL ch (a + 4) (spT (rfsF (xshr z 3)) ++ ([58] ++ (spT (rfsF (xshr z 6)) ++ ([44] ++ (dec (z / 512 % 20) ++ ([41])))))) := r0'
        obtain ⟨t1, r1'⟩ := (TL_app ch (spT (rfsF (xshr z 3))) ([58] ++ (spT (rfsF (xshr z 6)) ++ ([44] ++ (dec (z / 512 % 20) ++ ([41]))))) ((a + 4))).mp r0
        have r1 : TL ch ((a + 4) + ((spT (rfsF (xshr z 3))).length : Int)) ([58] ++ (spT (rfsF (xshr z 6)) ++ ([44] ++ (dec (z / 512 % 20) ++ ([41]))))) := r1'
        obtain ⟨t2, r2'⟩ := (TL_app ch ([58]) (spT (rfsF (xshr z 6)) ++ ([44] ++ (dec (z / 512 % 20) ++ ([41])))) (((a + 4) + ((spT (rfsF (xshr z 3))).length : Int)))).mp r1
        have r2 : TL ch (((a + 4) + ((spT (rfsF (xshr z 3))).length : Int)) + 1) (spT (rfsF (xshr z 6)) ++ ([44] ++ (dec (z / 512 % 20) ++ ([41])))) := r2'
        obtain ⟨t3, r3'⟩ := (TL_app ch (spT (rfsF (xshr z 6))) ([44] ++ (dec (z / 512 % 20) ++ ([41]))) ((((a + 4) + ((spT (rfsF (xshr z 3))).length : Int)) + 1))).mp r2
        have r3 : TL ch ((((a + 4) + ((spT (rfsF (xshr z 3))).length : Int)) + 1) + ((spT (rfsF (xshr z 6))).length : Int)) ([44] ++ (dec (z / 512 % 20) ++ ([41]))) := r3'
        obtain ⟨t4, r4'⟩ := (TL_app ch ([44]) (dec (z / 512 % 20) ++ ([41])) (((((a + 4) + ((spT (rfsF (xshr z 3))).length : Int)) + 1) + ((spT (rfsF (xshr z 6))).length : Int)))).mp r3
        have r4 : TL ch (((((a + 4) + ((spT (rfsF (xshr z 3))).length : Int)) + 1) + ((spT (rfsF (xshr z 6))).length : Int)) + 1) (dec (z / 512 % 20) ++ ([41])) := r4'
        obtain ⟨t5, r5'⟩ := (TL_app ch (dec (z / 512 % 20)) ([41]) ((((((a + 4) + ((spT (rfsF (xshr z 3))).length : Int)) + 1) + ((spT (rfsF (xshr z 6))).length : Int)) + 1))).mp r4
        have r5 : TL ch ((((((a + 4) + ((spT (rfsF (xshr z 3))).length : Int)) + 1) + ((spT (rfsF (xshr z 6))).length : Int)) + 1) + ((dec (z / 512 % 20)).length : Int)) ([41]) := r5'
        have t6 := r5
        have ep : (((((((a + 4) + ((spT (rfsF (xshr z 3))).length : Int)) + 1) + ((spT (rfsF (xshr z 6))).length : Int)) + 1) + ((dec (z / 512 % 20)).length : Int)) + 1) = a + ((boC z).length : Int) := by rw [eb] <;> (try simp only [List.length_append, List.length_singleton, List.length_cons, List.length_nil]) <;> (try omega)
        refine (cS_MAX (m := m + 5) (by decide) t0).trans ?_
        refine (cS_ref1 (m := m + 4) (rfsF_ok _) t1 (ndg_c t2.1 (by decide))).trans ?_
        refine (cS_colon (m := m + 3) t2.1 (by omega) (rfsF_ok _) (rfsF_ok _) t3 (ndg_c t4.1 (by decide))).trans ?_
        refine (cS_com3 (m := m + 2) (by decide) t4.1 hen (by decide)).trans ?_
        refine (cS_num (m := m + 1) (by decide) (by omega) t5 (ndg_c t6.1 (by decide))).trans ?_
        refine (cS_close (m := m) (by decide) t6.1 (by decide) (by decide)).trans ?_
        rw [ep, eT] <;> (try simp only [List.append_assoc, List.cons_append, List.nil_append])
      · have eb : boC z = [67, 79, 85, 78, 84, 40] ++ (spT (rfsF (xshr z 3)) ++ ([58] ++ (spT (rfsF (xshr z 6)) ++ ([44] ++ (dec (z / 512 % 20) ++ [41]))))) := by unfold boC; rw [if_neg (show ¬ z % 11 < 5 by omega), if_neg (show ¬ z % 11 < 7 by omega), if_pos hw2, if_neg e1, if_neg e2, if_neg e3]; rfl
        have eT : boT z = [30] ++ ([(rfsF (xshr z 3) + 1024 * rfsF (xshr z 6)) * 8 + 3] ++ (([357, z / 512 % 20 * 8 + 1]) ++ [333])) := by unfold boT; rw [if_neg (show ¬ z % 11 < 5 by omega), if_neg (show ¬ z % 11 < 7 by omega), if_pos hw2, if_neg e1, if_neg e2, if_neg e3]
        have eN : boN z = 6 := by unfold boN; rw [if_neg (show ¬ z % 11 < 5 by omega), if_neg (show ¬ z % 11 < 7 by omega), if_pos hw2, if_neg e3]
        rw [eN]
        rw [eb] at h
        obtain ⟨t0, r0'⟩ := (TL_app ch ([67, 79, 85, 78, 84, 40]) (spT (rfsF (xshr z 3)) ++ ([58] ++ (spT (rfsF (xshr z 6)) ++ ([44] ++ (dec (z / 512 % 20) ++ ([41])))))) (a)).mp h
        have r0 : TL ch (a + 6) (spT (rfsF (xshr z 3)) ++ ([58] ++ (spT (rfsF (xshr z 6)) ++ ([44] ++ (dec (z / 512 % 20) ++ ([41])))))) := r0'
        obtain ⟨t1, r1'⟩ := (TL_app ch (spT (rfsF (xshr z 3))) ([58] ++ (spT (rfsF (xshr z 6)) ++ ([44] ++ (dec (z / 512 % 20) ++ ([41]))))) ((a + 6))).mp r0
        have r1 : TL ch ((a + 6) + ((spT (rfsF (xshr z 3))).length : Int)) ([58] ++ (spT (rfsF (xshr z 6)) ++ ([44] ++ (dec (z / 512 % 20) ++ ([41]))))) := r1'
        obtain ⟨t2, r2'⟩ := (TL_app ch ([58]) (spT (rfsF (xshr z 6)) ++ ([44] ++ (dec (z / 512 % 20) ++ ([41])))) (((a + 6) + ((spT (rfsF (xshr z 3))).length : Int)))).mp r1
        have r2 : TL ch (((a + 6) + ((spT (rfsF (xshr z 3))).length : Int)) + 1) (spT (rfsF (xshr z 6)) ++ ([44] ++ (dec (z / 512 % 20) ++ ([41])))) := r2'
        obtain ⟨t3, r3'⟩ := (TL_app ch (spT (rfsF (xshr z 6))) ([44] ++ (dec (z / 512 % 20) ++ ([41]))) ((((a + 6) + ((spT (rfsF (xshr z 3))).length : Int)) + 1))).mp r2
        have r3 : TL ch ((((a + 6) + ((spT (rfsF (xshr z 3))).length : Int)) + 1) + ((spT (rfsF (xshr z 6))).length : Int)) ([44] ++ (dec (z / 512 % 20) ++ ([41]))) := r3'
        obtain ⟨t4, r4'⟩ := (TL_app ch ([44]) (dec (z / 512 % 20) ++ ([41])) (((((a + 6) + ((spT (rfsF (xshr z 3))).length : Int)) + 1) + ((spT (rfsF (xshr z 6))).length : Int)))).mp r3
        have r4 : TL ch (((((a + 6) + ((spT (rfsF (xshr z 3))).length : Int)) + 1) + ((spT (rfsF (xshr z 6))).length : Int)) + 1) (dec (z / 512 % 20) ++ ([41])) := r4'
        obtain ⟨t5, r5'⟩ := (TL_app ch (dec (z / 512 % 20)) ([41]) ((((((a + 6) + ((spT (rfsF (xshr z 3))).length : Int)) + 1) + ((spT (rfsF (xshr z 6))).length : Int)) + 1))).mp r4
        have r5 : TL ch ((((((a + 6) + ((spT (rfsF (xshr z 3))).length : Int)) + 1) + ((spT (rfsF (xshr z 6))).length : Int)) + 1) + ((dec (z / 512 % 20)).length : Int)) ([41]) := r5'
        have t6 := r5
        have ep : (((((((a + 6) + ((spT (rfsF (xshr z 3))).length : Int)) + 1) + ((spT (rfsF (xshr z 6))).length : Int)) + 1) + ((dec (z / 512 % 20)).length : Int)) + 1) = a + ((boC z).length : Int) := by rw [eb] <;> (try simp only [List.length_append, List.length_singleton, List.length_cons, List.length_nil]) <;> (try omega)
        refine (cS_COUNT (m := m + 5) (by decide) t0).trans ?_
        refine (cS_ref1 (m := m + 4) (rfsF_ok _) t1 (ndg_c t2.1 (by decide))).trans ?_
        refine (cS_colon (m := m + 3) t2.1 (by omega) (rfsF_ok _) (rfsF_ok _) t3 (ndg_c t4.1 (by decide))).trans ?_
        refine (cS_com3 (m := m + 2) (by decide) t4.1 hen (by decide)).trans ?_
        refine (cS_num (m := m + 1) (by decide) (by omega) t5 (ndg_c t6.1 (by decide))).trans ?_
        refine (cS_close (m := m) (by decide) t6.1 (by decide) (by decide)).trans ?_
        rw [ep, eT] <;> (try simp only [List.append_assoc, List.cons_append, List.nil_append])
theorem p_body (hz : 0 ≤ z ∧ z < 2147483648) (hen : en = 0) (h : TL ch a (boC z)) (he : ndg (ch (a + (boC z).length))) : cnT ch en (m + boN z) 0 [(7, 1, 0)] tk a = cnT ch en m 2 [(7, 1, 0)] (tk ++ boT z) (a + (boC z).length) := by
  by_cases h1 : z % 11 < 5
  · exact p_ref hz hen h1 h he
  · by_cases h2 : z % 11 < 7
    · exact p_num hz hen h1 h2 h he
    · by_cases h3 : z % 11 < 9
      · exact p_agg hz hen h2 h3 h he
      · by_cases h4 : z % 11 = 9
        · exact p_if hz hen h4 h he
        · exact p_cmp hz hen (by omega) h he
end
