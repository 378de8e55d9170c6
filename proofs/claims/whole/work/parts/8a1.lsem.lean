/-! The law: what its cases mean (written by wip/whole/gensem.py) -/
section
variable {X : xX} {S S' : xLm} {g g' : xGm} {P P' : Pd} {A A' : Sh} {sn sn' : Option Sh} {H H' : List Sh}
theorem s_17 {i N : Int} {y5 y6 y7 y8 : Option Value} (hi : 0 ≤ i) (hN : i + 4 ≤ X.1) (hX : X.1 ≤ 2048) (hL : LI S g P A sn H) (hB : LB N A sn H) (hN9 : N ≤ 800000) : LSt X S g N i 1044 y5 y6 y7 y8 := by
  have hCs := hL.1
  have hMs := hL.2.1
  have hm9 : 73 + 26 ≤ S.2.1 := hL.2.2.2.1
  have ht := hL.2.2.2.2.1
  have hC := hL.2.2.2.2.2.1
  have hM := hL.2.2.2.2.2.2
  have hs := MdI_sl hM
  have hall : 0 ≤ A.2.2.2.2 ∧ A.2.2.2.2 ≤ 900000 := ⟨hB.1.1, by have := hB.1.2; omega⟩
  have z1 := xsc_ti (X := X) (i + 1)
  have z2 := xsc_ti (X := X) (i + 2)
  have z3 := xsc_ti (X := X) (i + 3)
  by_cases h : isB (xsc X (i + 1))
  · exact lst_of (g_17 hi hN hX hL (((q_kind (X := X) (d := 386) hCs hC z1).2 h).1) (fun S1 g1 a b => ((m_kindQ (X := X) (d := 387) a b z1).2 h).1) (.inl ⟨_, by split <;> simp, rfl, rfl, rfl⟩)) (LB_mono hB)
  · exact lst_of (g_17 hi hN hX hL (((q_kind (X := X) (d := 386) hCs hC z1).1 h).1) (fun S1 g1 a b => ((m_kindQ (X := X) (d := 387) a b z1).1 h).1) (.inr ⟨rfl, rfl, _, rfl⟩)) (LB_mono hB)
theorem s_18 {i N : Int} {y5 y6 y7 y8 : Option Value} (hi : 0 ≤ i) (hN : i + 4 ≤ X.1) (hX : X.1 ≤ 2048) (hL : LI S g P A sn H) (hB : LB N A sn H) (hN9 : N ≤ 800000) : LSt X S g N i 1107 y5 y6 y7 y8 := by
  have hCs := hL.1
  have hMs := hL.2.1
  have hm9 : 73 + 26 ≤ S.2.1 := hL.2.2.2.1
  have ht := hL.2.2.2.2.1
  have hC := hL.2.2.2.2.2.1
  have hM := hL.2.2.2.2.2.2
  have hs := MdI_sl hM
  have hall : 0 ≤ A.2.2.2.2 ∧ A.2.2.2.2 ≤ 900000 := ⟨hB.1.1, by have := hB.1.2; omega⟩
  have z1 := xsc_ti (X := X) (i + 1)
  have z2 := xsc_ti (X := X) (i + 2)
  have z3 := xsc_ti (X := X) (i + 3)
  by_cases h : isB (xsc X (i + 1))
  · exact lst_of (g_18 hi hN hX hL (((q_kind (X := X) (d := 386) hCs hC z1).2 h).2) (fun S1 g1 a b => ((m_kindQ (X := X) (d := 387) a b z1).2 h).2) (.inl ⟨_, by split <;> simp, rfl, rfl, rfl⟩)) (LB_mono hB)
  · exact lst_of (g_18 hi hN hX hL (((q_kind (X := X) (d := 386) hCs hC z1).1 h).2) (fun S1 g1 a b => ((m_kindQ (X := X) (d := 387) a b z1).1 h).2) (.inr ⟨rfl, rfl, _, rfl⟩)) (LB_mono hB)
theorem s_19 {i N : Int} {y5 y6 y7 y8 : Option Value} (hi : 0 ≤ i) (hN : i + 4 ≤ X.1) (hX : X.1 ≤ 2048) (hL : LI S g P A sn H) (hB : LB N A sn H) (hN9 : N ≤ 800000) : LSt X S g N i 1170 y5 y6 y7 y8 := by
  have hCs := hL.1
  have hMs := hL.2.1
  have hm9 : 73 + 26 ≤ S.2.1 := hL.2.2.2.1
  have ht := hL.2.2.2.2.1
  have hC := hL.2.2.2.2.2.1
  have hM := hL.2.2.2.2.2.2
  have hs := MdI_sl hM
  have hall : 0 ≤ A.2.2.2.2 ∧ A.2.2.2.2 ≤ 900000 := ⟨hB.1.1, by have := hB.1.2; omega⟩
  have z1 := xsc_ti (X := X) (i + 1)
  have z2 := xsc_ti (X := X) (i + 2)
  have z3 := xsc_ti (X := X) (i + 3)
  by_cases h : isB (xsc X (i + 1))
  · exact lst_of (g_19 hi hN hX hL (((q_fault (X := X) (d := 386) hCs hC hs z1 (show 0 ≤ (0 : Int) ∧ (0 : Int) ≤ 5 by decide)).2 h)) (fun S1 g1 a b => ((m_faultQ (X := X) (d := 387) a b z1 (show 0 ≤ (0 : Int) ∧ (0 : Int) ≤ 5 by decide)).2 h)) (.inl ⟨_, by split <;> simp, rfl, rfl, rfl⟩)) (LB_mono hB)
  · exact lst_of (g_19 hi hN hX hL (((q_fault (X := X) (d := 386) hCs hC hs z1 (show 0 ≤ (0 : Int) ∧ (0 : Int) ≤ 5 by decide)).1 h)) (fun S1 g1 a b => ((m_faultQ (X := X) (d := 387) a b z1 (show 0 ≤ (0 : Int) ∧ (0 : Int) ≤ 5 by decide)).1 h)) (.inr ⟨rfl, rfl, _, rfl⟩)) (LB_mono hB)
theorem s_20 {i N : Int} {y5 y6 y7 y8 : Option Value} (hi : 0 ≤ i) (hN : i + 4 ≤ X.1) (hX : X.1 ≤ 2048) (hL : LI S g P A sn H) (hB : LB N A sn H) (hN9 : N ≤ 800000) : LSt X S g N i 1233 y5 y6 y7 y8 := by
  have hCs := hL.1
  have hMs := hL.2.1
  have hm9 : 73 + 26 ≤ S.2.1 := hL.2.2.2.1
  have ht := hL.2.2.2.2.1
  have hC := hL.2.2.2.2.2.1
  have hM := hL.2.2.2.2.2.2
  have hs := MdI_sl hM
  have hall : 0 ≤ A.2.2.2.2 ∧ A.2.2.2.2 ≤ 900000 := ⟨hB.1.1, by have := hB.1.2; omega⟩
  have z1 := xsc_ti (X := X) (i + 1)
  have z2 := xsc_ti (X := X) (i + 2)
  have z3 := xsc_ti (X := X) (i + 3)
  by_cases h : isB (xsc X (i + 1))
  · by_cases h2 : flA A (xsc X (i + 1)) ≤ 0
    · exact lst_of (g_20 hi hN hX hL ((q_value (X := X) (d := 386) hCs hC hs z1).2.2 h h2) (fun S1 g1 a b => (m_value (X := X) (d := 387) a b z1 (.inl rfl)).2.2 h h2) (.inl ⟨_, rfl, rfl, rfl⟩)) (LB_mono hB)
    · exact lst_of (g_20 hi hN hX hL ((q_value (X := X) (d := 386) hCs hC hs z1).2.1 h h2) (fun S1 g1 a b => (m_value (X := X) (d := 387) a b z1 (.inl rfl)).2.1 h h2) (.inr (.inr ⟨rfl, rfl, _, rfl⟩))) (LB_mono hB)
  · exact lst_of (g_20 hi hN hX hL ((q_value (X := X) (d := 386) hCs hC hs z1).1 h) (fun S1 g1 a b => (m_value (X := X) (d := 387) a b z1 (.inl rfl)).1 h) (.inr (.inl ⟨rfl, rfl, _, rfl⟩))) (LB_mono hB)
theorem s_21 {i N : Int} {y5 y6 y7 y8 : Option Value} (hi : 0 ≤ i) (hN : i + 4 ≤ X.1) (hX : X.1 ≤ 2048) (hL : LI S g P A sn H) (hB : LB N A sn H) (hN9 : N ≤ 800000) : LSt X S g N i 1289 y5 y6 y7 y8 := by
  have hCs := hL.1
  have hMs := hL.2.1
  have hm9 : 73 + 26 ≤ S.2.1 := hL.2.2.2.1
  have ht := hL.2.2.2.2.1
  have hC := hL.2.2.2.2.2.1
  have hM := hL.2.2.2.2.2.2
  have hs := MdI_sl hM
  have hall : 0 ≤ A.2.2.2.2 ∧ A.2.2.2.2 ≤ 900000 := ⟨hB.1.1, by have := hB.1.2; omega⟩
  have z1 := xsc_ti (X := X) (i + 1)
  have z2 := xsc_ti (X := X) (i + 2)
  have z3 := xsc_ti (X := X) (i + 3)
  by_cases h : isB (xsc X (i + 1))
  · by_cases h2 : flA A (xsc X (i + 1)) ≤ 0
    · exact lst_of (g_21 hi hN hX hL ((q_valueByAsking (X := X) (d := 98) hCs hC hs z1).2.2 h h2) (fun S1 g1 a b => (m_value (X := X) (d := 387) a b z1 (.inr rfl)).2.2 h h2) (.inl ⟨_, rfl, rfl, rfl⟩)) (LB_mono hB)
    · exact lst_of (g_21 hi hN hX hL ((q_valueByAsking (X := X) (d := 98) hCs hC hs z1).2.1 h h2) (fun S1 g1 a b => (m_value (X := X) (d := 387) a b z1 (.inr rfl)).2.1 h h2) (.inr (.inr ⟨rfl, rfl, _, rfl⟩))) (LB_mono hB)
  · exact lst_of (g_21 hi hN hX hL ((q_valueByAsking (X := X) (d := 98) hCs hC hs z1).1 h) (fun S1 g1 a b => (m_value (X := X) (d := 387) a b z1 (.inr rfl)).1 h) (.inr (.inl ⟨rfl, rfl, _, rfl⟩))) (LB_mono hB)
theorem s_22 {i N : Int} {y5 y6 y7 y8 : Option Value} (hi : 0 ≤ i) (hN : i + 4 ≤ X.1) (hX : X.1 ≤ 2048) (hL : LI S g P A sn H) (hB : LB N A sn H) (hN9 : N ≤ 800000) : LSt X S g N i 1345 y5 y6 y7 y8 := by
  have hCs := hL.1
  have hMs := hL.2.1
  have hm9 : 73 + 26 ≤ S.2.1 := hL.2.2.2.1
  have ht := hL.2.2.2.2.1
  have hC := hL.2.2.2.2.2.1
  have hM := hL.2.2.2.2.2.2
  have hs := MdI_sl hM
  have hall : 0 ≤ A.2.2.2.2 ∧ A.2.2.2.2 ≤ 900000 := ⟨hB.1.1, by have := hB.1.2; omega⟩
  have z1 := xsc_ti (X := X) (i + 1)
  have z2 := xsc_ti (X := X) (i + 2)
  have z3 := xsc_ti (X := X) (i + 3)
  by_cases h : isB (xsc X (i + 1))
  · exact lst_of (g_22 hi hN hX hL (((q_fault (X := X) (d := 386) hCs hC hs z1 (show 0 ≤ (1 : Int) ∧ (1 : Int) ≤ 5 by decide)).2 h)) (fun S1 g1 a b => ((m_faultQ (X := X) (d := 387) a b z1 (show 0 ≤ (1 : Int) ∧ (1 : Int) ≤ 5 by decide)).2 h)) (.inl ⟨_, by split <;> simp, rfl, rfl, rfl⟩)) (LB_mono hB)
  · exact lst_of (g_22 hi hN hX hL (((q_fault (X := X) (d := 386) hCs hC hs z1 (show 0 ≤ (1 : Int) ∧ (1 : Int) ≤ 5 by decide)).1 h)) (fun S1 g1 a b => ((m_faultQ (X := X) (d := 387) a b z1 (show 0 ≤ (1 : Int) ∧ (1 : Int) ≤ 5 by decide)).1 h)) (.inr ⟨rfl, rfl, _, rfl⟩)) (LB_mono hB)
theorem s_23 {i N : Int} {y5 y6 y7 y8 : Option Value} (hi : 0 ≤ i) (hN : i + 4 ≤ X.1) (hX : X.1 ≤ 2048) (hL : LI S g P A sn H) (hB : LB N A sn H) (hN9 : N ≤ 800000) : LSt X S g N i 1408 y5 y6 y7 y8 := by
  have hCs := hL.1
  have hMs := hL.2.1
  have hm9 : 73 + 26 ≤ S.2.1 := hL.2.2.2.1
  have ht := hL.2.2.2.2.1
  have hC := hL.2.2.2.2.2.1
  have hM := hL.2.2.2.2.2.2
  have hs := MdI_sl hM
  have hall : 0 ≤ A.2.2.2.2 ∧ A.2.2.2.2 ≤ 900000 := ⟨hB.1.1, by have := hB.1.2; omega⟩
  have z1 := xsc_ti (X := X) (i + 1)
  have z2 := xsc_ti (X := X) (i + 2)
  have z3 := xsc_ti (X := X) (i + 3)
  by_cases h : isB (xsc X (i + 1))
  · exact lst_of (g_23 hi hN hX hL (((q_fault (X := X) (d := 386) hCs hC hs z1 (show 0 ≤ (2 : Int) ∧ (2 : Int) ≤ 5 by decide)).2 h)) (fun S1 g1 a b => ((m_faultQ (X := X) (d := 387) a b z1 (show 0 ≤ (2 : Int) ∧ (2 : Int) ≤ 5 by decide)).2 h)) (.inl ⟨_, by split <;> simp, rfl, rfl, rfl⟩)) (LB_mono hB)
  · exact lst_of (g_23 hi hN hX hL (((q_fault (X := X) (d := 386) hCs hC hs z1 (show 0 ≤ (2 : Int) ∧ (2 : Int) ≤ 5 by decide)).1 h)) (fun S1 g1 a b => ((m_faultQ (X := X) (d := 387) a b z1 (show 0 ≤ (2 : Int) ∧ (2 : Int) ≤ 5 by decide)).1 h)) (.inr ⟨rfl, rfl, _, rfl⟩)) (LB_mono hB)
theorem s_24 {i N : Int} {y5 y6 y7 y8 : Option Value} (hi : 0 ≤ i) (hN : i + 4 ≤ X.1) (hX : X.1 ≤ 2048) (hL : LI S g P A sn H) (hB : LB N A sn H) (hN9 : N ≤ 800000) : LSt X S g N i 1471 y5 y6 y7 y8 := by
  have hCs := hL.1
  have hMs := hL.2.1
  have hm9 : 73 + 26 ≤ S.2.1 := hL.2.2.2.1
  have ht := hL.2.2.2.2.1
  have hC := hL.2.2.2.2.2.1
  have hM := hL.2.2.2.2.2.2
  have hs := MdI_sl hM
  have hall : 0 ≤ A.2.2.2.2 ∧ A.2.2.2.2 ≤ 900000 := ⟨hB.1.1, by have := hB.1.2; omega⟩
  have z1 := xsc_ti (X := X) (i + 1)
  have z2 := xsc_ti (X := X) (i + 2)
  have z3 := xsc_ti (X := X) (i + 3)
  by_cases h : isB (xsc X (i + 1))
  · exact lst_of (g_24 hi hN hX hL (((q_fault (X := X) (d := 386) hCs hC hs z1 (show 0 ≤ (3 : Int) ∧ (3 : Int) ≤ 5 by decide)).2 h)) (fun S1 g1 a b => ((m_faultQ (X := X) (d := 387) a b z1 (show 0 ≤ (3 : Int) ∧ (3 : Int) ≤ 5 by decide)).2 h)) (.inl ⟨_, by split <;> simp, rfl, rfl, rfl⟩)) (LB_mono hB)
  · exact lst_of (g_24 hi hN hX hL (((q_fault (X := X) (d := 386) hCs hC hs z1 (show 0 ≤ (3 : Int) ∧ (3 : Int) ≤ 5 by decide)).1 h)) (fun S1 g1 a b => ((m_faultQ (X := X) (d := 387) a b z1 (show 0 ≤ (3 : Int) ∧ (3 : Int) ≤ 5 by decide)).1 h)) (.inr ⟨rfl, rfl, _, rfl⟩)) (LB_mono hB)
theorem s_25 {i N : Int} {y5 y6 y7 y8 : Option Value} (hi : 0 ≤ i) (hN : i + 4 ≤ X.1) (hX : X.1 ≤ 2048) (hL : LI S g P A sn H) (hB : LB N A sn H) (hN9 : N ≤ 800000) : LSt X S g N i 1534 y5 y6 y7 y8 := by
  have hCs := hL.1
  have hMs := hL.2.1
  have hm9 : 73 + 26 ≤ S.2.1 := hL.2.2.2.1
  have ht := hL.2.2.2.2.1
  have hC := hL.2.2.2.2.2.1
  have hM := hL.2.2.2.2.2.2
  have hs := MdI_sl hM
  have hall : 0 ≤ A.2.2.2.2 ∧ A.2.2.2.2 ≤ 900000 := ⟨hB.1.1, by have := hB.1.2; omega⟩
  have z1 := xsc_ti (X := X) (i + 1)
  have z2 := xsc_ti (X := X) (i + 2)
  have z3 := xsc_ti (X := X) (i + 3)
  by_cases h : isB (xsc X (i + 1))
  · exact lst_of (g_25 hi hN hX hL (((q_fault (X := X) (d := 386) hCs hC hs z1 (show 0 ≤ (4 : Int) ∧ (4 : Int) ≤ 5 by decide)).2 h)) (fun S1 g1 a b => ((m_faultQ (X := X) (d := 387) a b z1 (show 0 ≤ (4 : Int) ∧ (4 : Int) ≤ 5 by decide)).2 h)) (.inl ⟨_, by split <;> simp, rfl, rfl, rfl⟩)) (LB_mono hB)
  · exact lst_of (g_25 hi hN hX hL (((q_fault (X := X) (d := 386) hCs hC hs z1 (show 0 ≤ (4 : Int) ∧ (4 : Int) ≤ 5 by decide)).1 h)) (fun S1 g1 a b => ((m_faultQ (X := X) (d := 387) a b z1 (show 0 ≤ (4 : Int) ∧ (4 : Int) ≤ 5 by decide)).1 h)) (.inr ⟨rfl, rfl, _, rfl⟩)) (LB_mono hB)
theorem s_26 {i N : Int} {y5 y6 y7 y8 : Option Value} (hi : 0 ≤ i) (hN : i + 4 ≤ X.1) (hX : X.1 ≤ 2048) (hL : LI S g P A sn H) (hB : LB N A sn H) (hN9 : N ≤ 800000) : LSt X S g N i 1597 y5 y6 y7 y8 := by
  have hCs := hL.1
  have hMs := hL.2.1
  have hm9 : 73 + 26 ≤ S.2.1 := hL.2.2.2.1
  have ht := hL.2.2.2.2.1
  have hC := hL.2.2.2.2.2.1
  have hM := hL.2.2.2.2.2.2
  have hs := MdI_sl hM
  have hall : 0 ≤ A.2.2.2.2 ∧ A.2.2.2.2 ≤ 900000 := ⟨hB.1.1, by have := hB.1.2; omega⟩
  have z1 := xsc_ti (X := X) (i + 1)
  have z2 := xsc_ti (X := X) (i + 2)
  have z3 := xsc_ti (X := X) (i + 3)
  by_cases h : isB (xsc X (i + 1))
  · exact lst_of (g_26 hi hN hX hL (((q_fault (X := X) (d := 386) hCs hC hs z1 (show 0 ≤ (5 : Int) ∧ (5 : Int) ≤ 5 by decide)).2 h)) (fun S1 g1 a b => ((m_faultQ (X := X) (d := 387) a b z1 (show 0 ≤ (5 : Int) ∧ (5 : Int) ≤ 5 by decide)).2 h)) (.inl ⟨_, by split <;> simp, rfl, rfl, rfl⟩)) (LB_mono hB)
  · exact lst_of (g_26 hi hN hX hL (((q_fault (X := X) (d := 386) hCs hC hs z1 (show 0 ≤ (5 : Int) ∧ (5 : Int) ≤ 5 by decide)).1 h)) (fun S1 g1 a b => ((m_faultQ (X := X) (d := 387) a b z1 (show 0 ≤ (5 : Int) ∧ (5 : Int) ≤ 5 by decide)).1 h)) (.inr ⟨rfl, rfl, _, rfl⟩)) (LB_mono hB)
theorem s_27 {i N : Int} {y5 y6 y7 y8 : Option Value} (hi : 0 ≤ i) (hN : i + 4 ≤ X.1) (hX : X.1 ≤ 2048) (hL : LI S g P A sn H) (hB : LB N A sn H) (hN9 : N ≤ 800000) : LSt X S g N i 1660 y5 y6 y7 y8 := by
  have hCs := hL.1
  have hMs := hL.2.1
  have hm9 : 73 + 26 ≤ S.2.1 := hL.2.2.2.1
  have ht := hL.2.2.2.2.1
  have hC := hL.2.2.2.2.2.1
  have hM := hL.2.2.2.2.2.2
  have hs := MdI_sl hM
  have hall : 0 ≤ A.2.2.2.2 ∧ A.2.2.2.2 ≤ 900000 := ⟨hB.1.1, by have := hB.1.2; omega⟩
  have z1 := xsc_ti (X := X) (i + 1)
  have z2 := xsc_ti (X := X) (i + 2)
  have z3 := xsc_ti (X := X) (i + 3)
  by_cases h : isB (xsc X (i + 1))
  · exact lst_of (g_27 hi hN hX hL (((q_formulaLength (X := X) (d := 386) hCs hm9 hC ht z1).2 h)) (fun S1 g1 a b => ((m_formulaLength (X := X) (d := 387) a b z1).2 h)) (.inl ⟨_, rfl, rfl, rfl⟩)) (LB_mono hB)
  · exact lst_of (g_27 hi hN hX hL (((q_formulaLength (X := X) (d := 386) hCs hm9 hC ht z1).1 h)) (fun S1 g1 a b => ((m_formulaLength (X := X) (d := 387) a b z1).1 h)) (.inr ⟨rfl, rfl, _, rfl⟩)) (LB_mono hB)
theorem s_28 {i N : Int} {y5 y6 y7 y8 : Option Value} (hi : 0 ≤ i) (hN : i + 4 ≤ X.1) (hX : X.1 ≤ 2048) (hL : LI S g P A sn H) (hB : LB N A sn H) (hN9 : N ≤ 800000) : LSt X S g N i 1716 y5 y6 y7 y8 := by
  have hCs := hL.1
  have hMs := hL.2.1
  have hm9 : 73 + 26 ≤ S.2.1 := hL.2.2.2.1
  have ht := hL.2.2.2.2.1
  have hC := hL.2.2.2.2.2.1
  have hM := hL.2.2.2.2.2.2
  have hs := MdI_sl hM
  have hall : 0 ≤ A.2.2.2.2 ∧ A.2.2.2.2 ≤ 900000 := ⟨hB.1.1, by have := hB.1.2; omega⟩
  have z1 := xsc_ti (X := X) (i + 1)
  have z2 := xsc_ti (X := X) (i + 2)
  have z3 := xsc_ti (X := X) (i + 3)
  by_cases h : isB (xsc X (i + 1)) ∧ 0 ≤ xsc X (i + 2)
  · exact lst_of (g_28 hi hN hX hL (((q_formulaCharacter (X := X) (d := 386) hCs hm9 hC ht z1 z2).2 h)) (fun S1 g1 a b => ((m_formulaCharacter (X := X) (d := 387) a b z1 z2).2 h)) (.inl ⟨_, rfl, rfl, rfl⟩)) (LB_mono hB)
  · exact lst_of (g_28 hi hN hX hL (((q_formulaCharacter (X := X) (d := 386) hCs hm9 hC ht z1 z2).1 h)) (fun S1 g1 a b => ((m_formulaCharacter (X := X) (d := 387) a b z1 z2).1 h)) (.inr ⟨rfl, rfl, _, rfl⟩)) (LB_mono hB)
theorem s_29 {i N : Int} {y5 y6 y7 y8 : Option Value} (hi : 0 ≤ i) (hN : i + 4 ≤ X.1) (hX : X.1 ≤ 2048) (hL : LI S g P A sn H) (hB : LB N A sn H) (hN9 : N ≤ 800000) : LSt X S g N i 1784 y5 y6 y7 y8 := by
  have hCs := hL.1
  have hMs := hL.2.1
  have hm9 : 73 + 26 ≤ S.2.1 := hL.2.2.2.1
  have ht := hL.2.2.2.2.1
  have hC := hL.2.2.2.2.2.1
  have hM := hL.2.2.2.2.2.2
  have hs := MdI_sl hM
  have hall : 0 ≤ A.2.2.2.2 ∧ A.2.2.2.2 ≤ 900000 := ⟨hB.1.1, by have := hB.1.2; omega⟩
  have z1 := xsc_ti (X := X) (i + 1)
  have z2 := xsc_ti (X := X) (i + 2)
  have z3 := xsc_ti (X := X) (i + 3)
  by_cases h : isB (xsc X (i + 1))
  · exact lst_of (g_29 hi hN hX hL (((q_refs (X := X) (d := 386) hCs hC hs z1).2 h).1) (fun S1 g1 a b => ((m_refsQ (X := X) (d := 387) a b z1).2 h).1) (.inl ⟨_, rfl, rfl, rfl⟩)) (LB_mono hB)
  · exact lst_of (g_29 hi hN hX hL (((q_refs (X := X) (d := 386) hCs hC hs z1).1 h).1) (fun S1 g1 a b => ((m_refsQ (X := X) (d := 387) a b z1).1 h).1) (.inr ⟨rfl, rfl, _, rfl⟩)) (LB_mono hB)
theorem s_30 {i N : Int} {y5 y6 y7 y8 : Option Value} (hi : 0 ≤ i) (hN : i + 4 ≤ X.1) (hX : X.1 ≤ 2048) (hL : LI S g P A sn H) (hB : LB N A sn H) (hN9 : N ≤ 800000) : LSt X S g N i 1840 y5 y6 y7 y8 := by
  have hCs := hL.1
  have hMs := hL.2.1
  have hm9 : 73 + 26 ≤ S.2.1 := hL.2.2.2.1
  have ht := hL.2.2.2.2.1
  have hC := hL.2.2.2.2.2.1
  have hM := hL.2.2.2.2.2.2
  have hs := MdI_sl hM
  have hall : 0 ≤ A.2.2.2.2 ∧ A.2.2.2.2 ≤ 900000 := ⟨hB.1.1, by have := hB.1.2; omega⟩
  have z1 := xsc_ti (X := X) (i + 1)
  have z2 := xsc_ti (X := X) (i + 2)
  have z3 := xsc_ti (X := X) (i + 3)
  by_cases h : isB (xsc X (i + 1)) ∧ 0 ≤ xsc X (i + 2)
  · exact lst_of (g_30 hi hN hX hL (((q_refAt (X := X) (d := 386) hCs hC hs z1 z2).2 h)) (fun S1 g1 a b => ((m_refAt (X := X) (d := 387) a b z1 z2).2 h)) (.inl ⟨_, rfl, rfl, rfl⟩)) (LB_mono hB)
  · exact lst_of (g_30 hi hN hX hL (((q_refAt (X := X) (d := 386) hCs hC hs z1 z2).1 h)) (fun S1 g1 a b => ((m_refAt (X := X) (d := 387) a b z1 z2).1 h)) (.inr ⟨rfl, rfl, _, rfl⟩)) (LB_mono hB)
theorem s_31 {i N : Int} {y5 y6 y7 y8 : Option Value} (hi : 0 ≤ i) (hN : i + 4 ≤ X.1) (hX : X.1 ≤ 2048) (hL : LI S g P A sn H) (hB : LB N A sn H) (hN9 : N ≤ 800000) : LSt X S g N i 1908 y5 y6 y7 y8 := by
  have hCs := hL.1
  have hMs := hL.2.1
  have hm9 : 73 + 26 ≤ S.2.1 := hL.2.2.2.1
  have ht := hL.2.2.2.2.1
  have hC := hL.2.2.2.2.2.1
  have hM := hL.2.2.2.2.2.2
  have hs := MdI_sl hM
  have hall : 0 ≤ A.2.2.2.2 ∧ A.2.2.2.2 ≤ 900000 := ⟨hB.1.1, by have := hB.1.2; omega⟩
  have z1 := xsc_ti (X := X) (i + 1)
  have z2 := xsc_ti (X := X) (i + 2)
  have z3 := xsc_ti (X := X) (i + 3)
  by_cases h : isB (xsc X (i + 1))
  · exact lst_of (g_31 hi hN hX hL (((q_refs (X := X) (d := 386) hCs hC hs z1).2 h).2) (fun S1 g1 a b => ((m_refsQ (X := X) (d := 387) a b z1).2 h).2) (.inl ⟨_, rfl, rfl, rfl⟩)) (LB_mono hB)
  · exact lst_of (g_31 hi hN hX hL (((q_refs (X := X) (d := 386) hCs hC hs z1).1 h).2) (fun S1 g1 a b => ((m_refsQ (X := X) (d := 387) a b z1).1 h).2) (.inr ⟨rfl, rfl, _, rfl⟩)) (LB_mono hB)
theorem s_32 {i N : Int} {y5 y6 y7 y8 : Option Value} (hi : 0 ≤ i) (hN : i + 4 ≤ X.1) (hX : X.1 ≤ 2048) (hL : LI S g P A sn H) (hB : LB N A sn H) (hN9 : N ≤ 800000) : LSt X S g N i 1964 y5 y6 y7 y8 := by
  have hCs := hL.1
  have hMs := hL.2.1
  have hm9 : 73 + 26 ≤ S.2.1 := hL.2.2.2.1
  have ht := hL.2.2.2.2.1
  have hC := hL.2.2.2.2.2.1
  have hM := hL.2.2.2.2.2.2
  have hs := MdI_sl hM
  have hall : 0 ≤ A.2.2.2.2 ∧ A.2.2.2.2 ≤ 900000 := ⟨hB.1.1, by have := hB.1.2; omega⟩
  have z1 := xsc_ti (X := X) (i + 1)
  have z2 := xsc_ti (X := X) (i + 2)
  have z3 := xsc_ti (X := X) (i + 3)
  by_cases h : isB (xsc X (i + 1))
  · exact lst_of (g_32 hi hN hX hL (((q_allDeps (X := X) (d := 386) hCs hC z1).2 h).1) (fun S1 g1 a b => ((m_allDeps (X := X) (d := 387) a b z1).2 h).1) (.inl ⟨_, rfl, rfl, rfl⟩)) (LB_mono hB)
  · exact lst_of (g_32 hi hN hX hL (((q_allDeps (X := X) (d := 386) hCs hC z1).1 h).1) (fun S1 g1 a b => ((m_allDeps (X := X) (d := 387) a b z1).1 h).1) (.inr ⟨rfl, rfl, _, rfl⟩)) (LB_mono hB)
theorem s_33 {i N : Int} {y5 y6 y7 y8 : Option Value} (hi : 0 ≤ i) (hN : i + 4 ≤ X.1) (hX : X.1 ≤ 2048) (hL : LI S g P A sn H) (hB : LB N A sn H) (hN9 : N ≤ 800000) : LSt X S g N i 2020 y5 y6 y7 y8 := by
  have hCs := hL.1
  have hMs := hL.2.1
  have hm9 : 73 + 26 ≤ S.2.1 := hL.2.2.2.1
  have ht := hL.2.2.2.2.1
  have hC := hL.2.2.2.2.2.1
  have hM := hL.2.2.2.2.2.2
  have hs := MdI_sl hM
  have hall : 0 ≤ A.2.2.2.2 ∧ A.2.2.2.2 ≤ 900000 := ⟨hB.1.1, by have := hB.1.2; omega⟩
  have z1 := xsc_ti (X := X) (i + 1)
  have z2 := xsc_ti (X := X) (i + 2)
  have z3 := xsc_ti (X := X) (i + 3)
  by_cases h : isB (xsc X (i + 1)) ∧ isB (xsc X (i + 2))
  · exact lst_of (g_33 hi hN hX hL (((q_dependsOn (X := X) (d := 386) hCs hC z1 z2).2 h)) (fun S1 g1 a b => ((m_dependsOn (X := X) (d := 387) a b z1 z2).2 h)) (.inl ⟨_, by split <;> simp, rfl, rfl, rfl⟩)) (LB_mono hB)
  · exact lst_of (g_33 hi hN hX hL (((q_dependsOn (X := X) (d := 386) hCs hC z1 z2).1 h)) (fun S1 g1 a b => ((m_dependsOn (X := X) (d := 387) a b z1 z2).1 h)) (.inr ⟨rfl, rfl, _, rfl⟩)) (LB_mono hB)
end
