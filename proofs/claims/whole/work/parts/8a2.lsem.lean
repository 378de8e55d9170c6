/-! The law: what its cases mean (written by wip/whole/gensem.py) -/
section
variable {X : xX} {S S' : xLm} {g g' : xGm} {P P' : Pd} {A A' : Sh} {sn sn' : Option Sh} {H H' : List Sh}
theorem s_34 {i N : Int} {y5 y6 y7 y8 : Option Value} (hi : 0 ≤ i) (hN : i + 4 ≤ X.1) (hX : X.1 ≤ 2048) (hL : LI S g P A sn H) (hB : LB N A sn H) (hN9 : N ≤ 800000) : LSt X S g N i 2095 y5 y6 y7 y8 := by
  have hCs := hL.1
  have hMs := hL.2.1
  have hm9 : 73 + 26 ≤ S.2.1 := hL.2.2.2.1
  have ht := hL.2.2.2.2.1
  have hC := hL.2.2.2.2.2.1
  have hM := hL.2.2.2.2.2.2
  have hs := MdI_sl hM
  have hall : 0 ≤ A.2.2.2.2 ∧ A.2.2.2.2 ≤ 900000 := ⟨hB.1.1, by have := hB.1.2; omega⟩
  have z1 := xsc_ti (X := X) (i + 1)
  have z2 := xsc_ti (X := X) (i + 2)
  have z3 := xsc_ti (X := X) (i + 3)
  by_cases h : isB (xsc X (i + 1))
  · exact lst_of (g_34 hi hN hX hL (((q_allDeps (X := X) (d := 386) hCs hC z1).2 h).2) (fun S1 g1 a b => ((m_allDeps (X := X) (d := 387) a b z1).2 h).2) (.inl ⟨_, by split <;> simp, rfl, rfl, rfl⟩)) (LB_mono hB)
  · exact lst_of (g_34 hi hN hX hL (((q_allDeps (X := X) (d := 386) hCs hC z1).1 h).2) (fun S1 g1 a b => ((m_allDeps (X := X) (d := 387) a b z1).1 h).2) (.inr ⟨rfl, rfl, _, rfl⟩)) (LB_mono hB)
theorem s_35 {i N : Int} {y5 y6 y7 y8 : Option Value} (hi : 0 ≤ i) (hN : i + 4 ≤ X.1) (hX : X.1 ≤ 2048) (hL : LI S g P A sn H) (hB : LB N A sn H) (hN9 : N ≤ 800000) : LSt X S g N i 2158 y5 y6 y7 y8 := by
  have hCs := hL.1
  have hMs := hL.2.1
  have hm9 : 73 + 26 ≤ S.2.1 := hL.2.2.2.1
  have ht := hL.2.2.2.2.1
  have hC := hL.2.2.2.2.2.1
  have hM := hL.2.2.2.2.2.2
  have hs := MdI_sl hM
  have hall : 0 ≤ A.2.2.2.2 ∧ A.2.2.2.2 ≤ 900000 := ⟨hB.1.1, by have := hB.1.2; omega⟩
  have z1 := xsc_ti (X := X) (i + 1)
  have z2 := xsc_ti (X := X) (i + 2)
  have z3 := xsc_ti (X := X) (i + 3)
  by_cases h : isB (xsc X (i + 1))
  · exact lst_of (g_35 hi hN hX hL ((q_place (X := X) (d := 386) hCs hC hs z1).2 h) (fun S1 g1 a b => (m_placeQ (X := X) (d := 387) a b z1).2.1 h) (.inl ⟨_, rfl, rfl, rfl⟩)) (LB_mono hB)
  · exact lst_of (g_35 hi hN hX hL ((q_place (X := X) (d := 386) hCs hC hs z1).1 h) (fun S1 g1 a b => ((m_placeQ (X := X) (d := 387) a b z1).1 h).1) (.inr ⟨rfl, rfl, _, rfl⟩)) (LB_mono hB)
theorem s_36 {i N : Int} {y5 y6 y7 y8 : Option Value} (hi : 0 ≤ i) (hN : i + 4 ≤ X.1) (hX : X.1 ≤ 2048) (hL : LI S g P A sn H) (hB : LB N A sn H) (hN9 : N ≤ 800000) : LSt X S g N i 2214 y5 y6 y7 y8 := by
  have hCs := hL.1
  have hMs := hL.2.1
  have hm9 : 73 + 26 ≤ S.2.1 := hL.2.2.2.1
  have ht := hL.2.2.2.2.1
  have hC := hL.2.2.2.2.2.1
  have hM := hL.2.2.2.2.2.2
  have hs := MdI_sl hM
  have hall : 0 ≤ A.2.2.2.2 ∧ A.2.2.2.2 ≤ 900000 := ⟨hB.1.1, by have := hB.1.2; omega⟩
  have z1 := xsc_ti (X := X) (i + 1)
  have z2 := xsc_ti (X := X) (i + 2)
  have z3 := xsc_ti (X := X) (i + 3)
  by_cases h : 0 ≤ xsc X (i + 1)
  · exact lst_of (g_36 hi hN hX hL ((q_orderAt (X := X) (d := 386) hCs hC hs z1).2 h) (fun S1 g1 a b => (m_orderAt (X := X) (d := 387) a b z1).2 h) (.inl ⟨_, rfl, rfl, rfl⟩)) (LB_mono hB)
  · exact lst_of (g_36 hi hN hX hL ((q_orderAt (X := X) (d := 386) hCs hC hs z1).1 h) (fun S1 g1 a b => (m_orderAt (X := X) (d := 387) a b z1).1 (by omega)) (.inr ⟨rfl, rfl, _, rfl⟩)) (LB_mono hB)
theorem s_37 {i N : Int} {y5 y6 y7 y8 : Option Value} (hi : 0 ≤ i) (hN : i + 4 ≤ X.1) (hX : X.1 ≤ 2048) (hL : LI S g P A sn H) (hB : LB N A sn H) (hN9 : N ≤ 800000) : LSt X S g N i 2270 y5 y6 y7 y8 := by
  have hCs := hL.1
  have hMs := hL.2.1
  have hm9 : 73 + 26 ≤ S.2.1 := hL.2.2.2.1
  have ht := hL.2.2.2.2.1
  have hC := hL.2.2.2.2.2.1
  have hM := hL.2.2.2.2.2.2
  have hs := MdI_sl hM
  have hall : 0 ≤ A.2.2.2.2 ∧ A.2.2.2.2 ≤ 900000 := ⟨hB.1.1, by have := hB.1.2; omega⟩
  have z1 := xsc_ti (X := X) (i + 1)
  have z2 := xsc_ti (X := X) (i + 2)
  have z3 := xsc_ti (X := X) (i + 3)
  by_cases h : isB (xsc X (i + 1))
  · by_cases h2 : flA A (xsc X (i + 1)) = 5
    · exact lst_of (g_37 hi hN hX hL ((q_chain (X := X) (d := 386) hCs hC hs z1).2.1 h h2) (fun S1 g1 a b => (m_placeQ (X := X) (d := 387) a b z1).2.2.1 h h2) (.inr (.inr ⟨rfl, rfl, _, rfl⟩))) (LB_mono hB)
    · exact lst_of (g_37 hi hN hX hL ((q_chain (X := X) (d := 386) hCs hC hs z1).2.2 h h2) (fun S1 g1 a b => (m_placeQ (X := X) (d := 387) a b z1).2.2.2 h h2) (.inl ⟨_, rfl, rfl, rfl⟩)) (LB_mono hB)
  · exact lst_of (g_37 hi hN hX hL ((q_chain (X := X) (d := 386) hCs hC hs z1).1 h) (fun S1 g1 a b => ((m_placeQ (X := X) (d := 387) a b z1).1 h).2) (.inr (.inl ⟨rfl, rfl, _, rfl⟩))) (LB_mono hB)
theorem s_38 {i N : Int} {y5 y6 y7 y8 : Option Value} (hi : 0 ≤ i) (hN : i + 4 ≤ X.1) (hX : X.1 ≤ 2048) (hL : LI S g P A sn H) (hB : LB N A sn H) (hN9 : N ≤ 800000) : LSt X S g N i 2326 y5 y6 y7 y8 := by
  have hCs := hL.1
  have hMs := hL.2.1
  have hm9 : 73 + 26 ≤ S.2.1 := hL.2.2.2.1
  have ht := hL.2.2.2.2.1
  have hC := hL.2.2.2.2.2.1
  have hM := hL.2.2.2.2.2.2
  have hs := MdI_sl hM
  have hall : 0 ≤ A.2.2.2.2 ∧ A.2.2.2.2 ≤ 900000 := ⟨hB.1.1, by have := hB.1.2; omega⟩
  have z1 := xsc_ti (X := X) (i + 1)
  have z2 := xsc_ti (X := X) (i + 2)
  have z3 := xsc_ti (X := X) (i + 3)
  exact lst_of (g_38 hi hN hX hL ((q_counters (X := X) (d := 387) hCs hC hs).1) (fun S1 g1 a b => (m_counters (X := X) (d := 387) a b ).1) ⟨_, rfl, rfl⟩) (LB_mono hB)
theorem s_39 {i N : Int} {y5 y6 y7 y8 : Option Value} (hi : 0 ≤ i) (hN : i + 4 ≤ X.1) (hX : X.1 ≤ 2048) (hL : LI S g P A sn H) (hB : LB N A sn H) (hN9 : N ≤ 800000) : LSt X S g N i 2339 y5 y6 y7 y8 := by
  have hCs := hL.1
  have hMs := hL.2.1
  have hm9 : 73 + 26 ≤ S.2.1 := hL.2.2.2.1
  have ht := hL.2.2.2.2.1
  have hC := hL.2.2.2.2.2.1
  have hM := hL.2.2.2.2.2.2
  have hs := MdI_sl hM
  have hall : 0 ≤ A.2.2.2.2 ∧ A.2.2.2.2 ≤ 900000 := ⟨hB.1.1, by have := hB.1.2; omega⟩
  have z1 := xsc_ti (X := X) (i + 1)
  have z2 := xsc_ti (X := X) (i + 2)
  have z3 := xsc_ti (X := X) (i + 3)
  exact lst_of (g_39 hi hN hX hL ((q_counters (X := X) (d := 387) hCs hC hs).2.1) (fun S1 g1 a b => (m_counters (X := X) (d := 387) a b ).2.1) ⟨_, rfl, rfl⟩) (LB_mono hB)
theorem s_40 {i N : Int} {y5 y6 y7 y8 : Option Value} (hi : 0 ≤ i) (hN : i + 4 ≤ X.1) (hX : X.1 ≤ 2048) (hL : LI S g P A sn H) (hB : LB N A sn H) (hN9 : N ≤ 800000) : LSt X S g N i 2352 y5 y6 y7 y8 := by
  have hCs := hL.1
  have hMs := hL.2.1
  have hm9 : 73 + 26 ≤ S.2.1 := hL.2.2.2.1
  have ht := hL.2.2.2.2.1
  have hC := hL.2.2.2.2.2.1
  have hM := hL.2.2.2.2.2.2
  have hs := MdI_sl hM
  have hall : 0 ≤ A.2.2.2.2 ∧ A.2.2.2.2 ≤ 900000 := ⟨hB.1.1, by have := hB.1.2; omega⟩
  have z1 := xsc_ti (X := X) (i + 1)
  have z2 := xsc_ti (X := X) (i + 2)
  have z3 := xsc_ti (X := X) (i + 3)
  exact lst_of (g_40 hi hN hX hL ((q_counters (X := X) (d := 387) hCs hC hs).2.2.1) (fun S1 g1 a b => (m_counters (X := X) (d := 387) a b ).2.2.1) ⟨_, rfl, rfl⟩) (LB_mono hB)
theorem s_41 {i N : Int} {y5 y6 y7 y8 : Option Value} (hi : 0 ≤ i) (hN : i + 4 ≤ X.1) (hX : X.1 ≤ 2048) (hL : LI S g P A sn H) (hB : LB N A sn H) (hN9 : N ≤ 800000) : LSt X S g N i 2365 y5 y6 y7 y8 := by
  have hCs := hL.1
  have hMs := hL.2.1
  have hm9 : 73 + 26 ≤ S.2.1 := hL.2.2.2.1
  have ht := hL.2.2.2.2.1
  have hC := hL.2.2.2.2.2.1
  have hM := hL.2.2.2.2.2.2
  have hs := MdI_sl hM
  have hall : 0 ≤ A.2.2.2.2 ∧ A.2.2.2.2 ≤ 900000 := ⟨hB.1.1, by have := hB.1.2; omega⟩
  have z1 := xsc_ti (X := X) (i + 1)
  have z2 := xsc_ti (X := X) (i + 2)
  have z3 := xsc_ti (X := X) (i + 3)
  exact lst_of (g_41 hi hN hX hL ((q_counters (X := X) (d := 387) hCs hC hs).2.2.2.1) (fun S1 g1 a b => (m_counters (X := X) (d := 387) a b ).2.2.2.1) ⟨_, rfl, rfl⟩) (LB_mono hB)
theorem s_42 {i N : Int} {y5 y6 y7 y8 : Option Value} (hi : 0 ≤ i) (hN : i + 4 ≤ X.1) (hX : X.1 ≤ 2048) (hL : LI S g P A sn H) (hB : LB N A sn H) (hN9 : N ≤ 800000) : LSt X S g N i 2378 y5 y6 y7 y8 := by
  have hCs := hL.1
  have hMs := hL.2.1
  have hm9 : 73 + 26 ≤ S.2.1 := hL.2.2.2.1
  have ht := hL.2.2.2.2.1
  have hC := hL.2.2.2.2.2.1
  have hM := hL.2.2.2.2.2.2
  have hs := MdI_sl hM
  have hall : 0 ≤ A.2.2.2.2 ∧ A.2.2.2.2 ≤ 900000 := ⟨hB.1.1, by have := hB.1.2; omega⟩
  have z1 := xsc_ti (X := X) (i + 1)
  have z2 := xsc_ti (X := X) (i + 2)
  have z3 := xsc_ti (X := X) (i + 3)
  exact lst_of (g_42 hi hN hX hL ((q_counters (X := X) (d := 387) hCs hC hs).2.2.2.2) (fun S1 g1 a b => (m_counters (X := X) (d := 387) a b ).2.2.2.2) ⟨_, rfl, rfl⟩) (LB_mono hB)
theorem s_43 {i N : Int} {y5 y6 y7 y8 : Option Value} (hi : 0 ≤ i) (hN : i + 4 ≤ X.1) (hX : X.1 ≤ 2048) (hL : LI S g P A sn H) (hB : LB N A sn H) (hN9 : N ≤ 800000) : LSt X S g N i 2391 y5 y6 y7 y8 := by
  have hCs := hL.1
  have hMs := hL.2.1
  have hm9 : 73 + 26 ≤ S.2.1 := hL.2.2.2.1
  have ht := hL.2.2.2.2.1
  have hC := hL.2.2.2.2.2.1
  have hM := hL.2.2.2.2.2.2
  have hs := MdI_sl hM
  have hall : 0 ≤ A.2.2.2.2 ∧ A.2.2.2.2 ≤ 900000 := ⟨hB.1.1, by have := hB.1.2; omega⟩
  have z1 := xsc_ti (X := X) (i + 1)
  have z2 := xsc_ti (X := X) (i + 2)
  have z3 := xsc_ti (X := X) (i + 3)
  by_cases h : 0 ≤ xsc X (i + 1) ∧ xsc X (i + 1) ≤ lnL 0
  · exact lst_of (g_43 hi hN hX hL (((q_total (X := X) (d := 386) hCs hC hs (show (0 : Int) = 0 ∨ (0 : Int) = 1 by decide) z1).2 h)) (fun S1 g1 a b => ((m_totalQ (X := X) (d := 387) a b (show (0 : Int) = 0 ∨ (0 : Int) = 1 by decide) z1).2 h)) (.inl ⟨_, rfl, rfl, rfl⟩)) (LB_mono hB)
  · exact lst_of (g_43 hi hN hX hL (((q_total (X := X) (d := 386) hCs hC hs (show (0 : Int) = 0 ∨ (0 : Int) = 1 by decide) z1).1 h)) (fun S1 g1 a b => ((m_totalQ (X := X) (d := 387) a b (show (0 : Int) = 0 ∨ (0 : Int) = 1 by decide) z1).1 h)) (.inr ⟨rfl, rfl, _, rfl⟩)) (LB_mono hB)
theorem s_44 {i N : Int} {y5 y6 y7 y8 : Option Value} (hi : 0 ≤ i) (hN : i + 4 ≤ X.1) (hX : X.1 ≤ 2048) (hL : LI S g P A sn H) (hB : LB N A sn H) (hN9 : N ≤ 800000) : LSt X S g N i 2446 y5 y6 y7 y8 := by
  have hCs := hL.1
  have hMs := hL.2.1
  have hm9 : 73 + 26 ≤ S.2.1 := hL.2.2.2.1
  have ht := hL.2.2.2.2.1
  have hC := hL.2.2.2.2.2.1
  have hM := hL.2.2.2.2.2.2
  have hs := MdI_sl hM
  have hall : 0 ≤ A.2.2.2.2 ∧ A.2.2.2.2 ≤ 900000 := ⟨hB.1.1, by have := hB.1.2; omega⟩
  have z1 := xsc_ti (X := X) (i + 1)
  have z2 := xsc_ti (X := X) (i + 2)
  have z3 := xsc_ti (X := X) (i + 3)
  by_cases h : 0 ≤ xsc X (i + 1) ∧ xsc X (i + 1) ≤ lnL 1
  · exact lst_of (g_44 hi hN hX hL (((q_total (X := X) (d := 386) hCs hC hs (show (1 : Int) = 0 ∨ (1 : Int) = 1 by decide) z1).2 h)) (fun S1 g1 a b => ((m_totalQ (X := X) (d := 387) a b (show (1 : Int) = 0 ∨ (1 : Int) = 1 by decide) z1).2 h)) (.inl ⟨_, rfl, rfl, rfl⟩)) (LB_mono hB)
  · exact lst_of (g_44 hi hN hX hL (((q_total (X := X) (d := 386) hCs hC hs (show (1 : Int) = 0 ∨ (1 : Int) = 1 by decide) z1).1 h)) (fun S1 g1 a b => ((m_totalQ (X := X) (d := 387) a b (show (1 : Int) = 0 ∨ (1 : Int) = 1 by decide) z1).1 h)) (.inr ⟨rfl, rfl, _, rfl⟩)) (LB_mono hB)
theorem s_45 {i N : Int} {y5 y6 y7 y8 : Option Value} (hi : 0 ≤ i) (hN : i + 4 ≤ X.1) (hX : X.1 ≤ 2048) (hL : LI S g P A sn H) (hB : LB N A sn H) (hN9 : N ≤ 800000) : LSt X S g N i 2501 y5 y6 y7 y8 := by
  have hCs := hL.1
  have hMs := hL.2.1
  have hm9 : 73 + 26 ≤ S.2.1 := hL.2.2.2.1
  have ht := hL.2.2.2.2.1
  have hC := hL.2.2.2.2.2.1
  have hM := hL.2.2.2.2.2.2
  have hs := MdI_sl hM
  have hall : 0 ≤ A.2.2.2.2 ∧ A.2.2.2.2 ≤ 900000 := ⟨hB.1.1, by have := hB.1.2; omega⟩
  have z1 := xsc_ti (X := X) (i + 1)
  have z2 := xsc_ti (X := X) (i + 2)
  have z3 := xsc_ti (X := X) (i + 3)
  exact lst_of (g_45 hi hN hX hL (q_mean (X := X) (d := 387) hCs hC hs) (fun S1 g1 a b => m_mean (X := X) (d := 387) a b ) ⟨_, rfl, rfl⟩) (LB_mono hB)
theorem s_46 {i N : Int} {y5 y6 y7 y8 : Option Value} (hi : 0 ≤ i) (hN : i + 4 ≤ X.1) (hX : X.1 ≤ 2048) (hL : LI S g P A sn H) (hB : LB N A sn H) (hN9 : N ≤ 800000) : LSt X S g N i 2542 y5 y6 y7 y8 := by
  have hCs := hL.1
  have hMs := hL.2.1
  have hm9 : 73 + 26 ≤ S.2.1 := hL.2.2.2.1
  have ht := hL.2.2.2.2.1
  have hC := hL.2.2.2.2.2.1
  have hM := hL.2.2.2.2.2.2
  have hs := MdI_sl hM
  have hall : 0 ≤ A.2.2.2.2 ∧ A.2.2.2.2 ≤ 900000 := ⟨hB.1.1, by have := hB.1.2; omega⟩
  have z1 := xsc_ti (X := X) (i + 1)
  have z2 := xsc_ti (X := X) (i + 2)
  have z3 := xsc_ti (X := X) (i + 3)
  exact lst_of (g_46 hi hN hX hL (q_find (X := X) (d := 387) hCs hC hs z1) (fun S1 g1 a b => m_find (X := X) (d := 387) a b z1) ⟨_, rfl, rfl⟩) (LB_mono hB)
theorem s_47 {i N : Int} {y5 y6 y7 y8 : Option Value} (hi : 0 ≤ i) (hN : i + 4 ≤ X.1) (hX : X.1 ≤ 2048) (hL : LI S g P A sn H) (hB : LB N A sn H) (hN9 : N ≤ 800000) : LSt X S g N i 2567 y5 y6 y7 y8 := by
  have hCs := hL.1
  have hMs := hL.2.1
  have hm9 : 73 + 26 ≤ S.2.1 := hL.2.2.2.1
  have ht := hL.2.2.2.2.1
  have hC := hL.2.2.2.2.2.1
  have hM := hL.2.2.2.2.2.2
  have hs := MdI_sl hM
  have hall : 0 ≤ A.2.2.2.2 ∧ A.2.2.2.2 ≤ 900000 := ⟨hB.1.1, by have := hB.1.2; omega⟩
  have z1 := xsc_ti (X := X) (i + 1)
  have z2 := xsc_ti (X := X) (i + 2)
  have z3 := xsc_ti (X := X) (i + 3)
  by_cases h : isB (xsc X (i + 1)) ∧ isB (xsc X (i + 3)) ∧ -999999 ≤ xsc X (i + 2) ∧ xsc X (i + 2) ≤ 999999
  · by_cases h2 : flA (tmpA A (xsc X (i + 1)) 1 (xsc X (i + 2))) (xsc X (i + 3)) ≤ 0
    · exact lst_of (g_47 hi hN hX hL ((q_valueIf (X := X) (d := 98) hCs hC z1 z2 z3 (fun hz hv => tmp_slR X hMs hM hz (.inr rfl) (fun _ => hv) hv)).2.2 h h2) (fun S1 g1 a b => (m_valueIf (X := X) (d := 387) a b z1 z2 z3).2.2 h h2) (.inl ⟨_, rfl, rfl, rfl⟩)) (LB_mono hB)
    · exact lst_of (g_47 hi hN hX hL ((q_valueIf (X := X) (d := 98) hCs hC z1 z2 z3 (fun hz hv => tmp_slR X hMs hM hz (.inr rfl) (fun _ => hv) hv)).2.1 h h2) (fun S1 g1 a b => (m_valueIf (X := X) (d := 387) a b z1 z2 z3).2.1 h h2) (.inr (.inr ⟨rfl, rfl, _, rfl⟩))) (LB_mono hB)
  · exact lst_of (g_47 hi hN hX hL ((q_valueIf (X := X) (d := 98) hCs hC z1 z2 z3 (fun hz hv => tmp_slR X hMs hM hz (.inr rfl) (fun _ => hv) hv)).1 h) (fun S1 g1 a b => (m_valueIf (X := X) (d := 387) a b z1 z2 z3).1 h) (.inr (.inl ⟨rfl, rfl, _, rfl⟩))) (LB_mono hB)
theorem s_48 {i N : Int} {y5 y6 y7 y8 : Option Value} (hi : 0 ≤ i) (hN : i + 4 ≤ X.1) (hX : X.1 ≤ 2048) (hL : LI S g P A sn H) (hB : LB N A sn H) (hN9 : N ≤ 800000) : LSt X S g N i 2647 y5 y6 y7 y8 := by
  have hCs := hL.1
  have hMs := hL.2.1
  have hm9 : 73 + 26 ≤ S.2.1 := hL.2.2.2.1
  have ht := hL.2.2.2.2.1
  have hC := hL.2.2.2.2.2.1
  have hM := hL.2.2.2.2.2.2
  have hs := MdI_sl hM
  have hall : 0 ≤ A.2.2.2.2 ∧ A.2.2.2.2 ≤ 900000 := ⟨hB.1.1, by have := hB.1.2; omega⟩
  have z1 := xsc_ti (X := X) (i + 1)
  have z2 := xsc_ti (X := X) (i + 2)
  have z3 := xsc_ti (X := X) (i + 3)
  by_cases h : isB (xsc X (i + 1)) ∧ isB (xsc X (i + 2))
  · exact lst_of (g_48 hi hN hX hL (((q_numberFor (X := X) (d := 98) hCs hC z1 z2 z3 (fun hz v hv => tmp_slR X hMs hM hz (.inr rfl) (fun _ => hv) hv)).2 h)) (fun S1 g1 a b => ((m_numberFor (X := X) (d := 387) a b z1 z3 z2).2 h)) (.inl ⟨_, rfl, rfl, rfl⟩)) (LB_mono hB)
  · exact lst_of (g_48 hi hN hX hL (((q_numberFor (X := X) (d := 98) hCs hC z1 z2 z3 (fun hz v hv => tmp_slR X hMs hM hz (.inr rfl) (fun _ => hv) hv)).1 h)) (fun S1 g1 a b => ((m_numberFor (X := X) (d := 387) a b z1 z3 z2).1 h)) (.inr ⟨rfl, rfl, _, rfl⟩)) (LB_mono hB)
theorem s_49 {i N : Int} {y5 y6 y7 y8 : Option Value} (hi : 0 ≤ i) (hN : i + 4 ≤ X.1) (hX : X.1 ≤ 2048) (hL : LI S g P A sn H) (hB : LB N A sn H) (hN9 : N ≤ 800000) : LSt X S g N i 2727 y5 y6 y7 y8 := by
  have hCs := hL.1
  have hMs := hL.2.1
  have hm9 : 73 + 26 ≤ S.2.1 := hL.2.2.2.1
  have ht := hL.2.2.2.2.1
  have hC := hL.2.2.2.2.2.1
  have hM := hL.2.2.2.2.2.2
  have hs := MdI_sl hM
  have hall : 0 ≤ A.2.2.2.2 ∧ A.2.2.2.2 ≤ 900000 := ⟨hB.1.1, by have := hB.1.2; omega⟩
  have z1 := xsc_ti (X := X) (i + 1)
  have z2 := xsc_ti (X := X) (i + 2)
  have z3 := xsc_ti (X := X) (i + 3)
  by_cases h : isB (xsc X (i + 1))
  · exact lst_of (g_49 hi hN hX hL (((q_errorsWithout (X := X) (d := 98) hCs hC z1 (fun hz => tmp_slR X hMs hM hz (.inl rfl) (fun _ => by decide) (by decide))).2 h)) (fun S1 g1 a b => ((m_errorsWithout (X := X) (d := 387) a b z1).2 h)) (.inl ⟨_, rfl, rfl, rfl⟩)) (LB_mono hB)
  · exact lst_of (g_49 hi hN hX hL (((q_errorsWithout (X := X) (d := 98) hCs hC z1 (fun hz => tmp_slR X hMs hM hz (.inl rfl) (fun _ => by decide) (by decide))).1 h)) (fun S1 g1 a b => ((m_errorsWithout (X := X) (d := 387) a b z1).1 h)) (.inr ⟨rfl, rfl, _, rfl⟩)) (LB_mono hB)
end
