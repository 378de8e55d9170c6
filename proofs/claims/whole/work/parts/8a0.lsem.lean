/-! The law: what its cases mean (written by wip/whole/gensem.py) -/
section
variable {X : xX} {S S' : xLm} {g g' : xGm} {P P' : Pd} {A A' : Sh} {sn sn' : Option Sh} {H H' : List Sh}
/-- how many formulas were computed in all is bounded -/
def LB (N : Int) (A : Sh) (sn : Option Sh) (H : List Sh) : Prop := (0 ≤ A.2.2.2.2 ∧ A.2.2.2.2 ≤ N) ∧ (∀ B, sn = some B → 0 ≤ B.2.2.2.2 ∧ B.2.2.2.2 ≤ N) ∧ ∀ B ∈ H, 0 ≤ B.2.2.2.2 ∧ B.2.2.2.2 ≤ N
/-- a case comes to the loop's end -/
def LSt (X : xX) (S : xLm) (g : xGm) (N i : Int) (pc : Nat) (y5 y6 y7 y8 : Option Value) : Prop := ∃ S' g' P' A' sn' H' y5' y6' y7' y8', LI S' g' P' A' sn' H' ∧ Ct S S' ∧ LB (N + 200) A' sn' H' ∧ ∀ Q, Wx X 400 417 pc [some (.retAddr 0), some (.ref 0), some (.ref 73), some (.ref 98), some (.int (iI i)), y5, y6, y7, y8] [] (hp S g) Q = Wx X 400 417 2783 [some (.retAddr 0), some (.ref 0), some (.ref 73), some (.ref 98), some (.int (iI i)), y5', y6', y7', y8'] [] (hp S' g') Q
theorem lst_of {N i : Int} {pc : Nat} {y5 y6 y7 y8 : Option Value} (h : ∃ S' g' y5' y6' y7' y8', LI S' g' P' A' sn' H' ∧ Ct S S' ∧ ∀ Q, Wx X 400 417 pc [some (.retAddr 0), some (.ref 0), some (.ref 73), some (.ref 98), some (.int (iI i)), y5, y6, y7, y8] [] (hp S g) Q = Wx X 400 417 2783 [some (.retAddr 0), some (.ref 0), some (.ref 73), some (.ref 98), some (.int (iI i)), y5', y6', y7', y8'] [] (hp S' g') Q) (hb : LB (N + 200) A' sn' H') : LSt X S g N i pc y5 y6 y7 y8 := by
  obtain ⟨S', g', a, b, c, d, h1, h2, h3⟩ := h
  exact ⟨S', g', P', A', sn', H', a, b, c, d, h1, h2, hb, h3⟩
theorem LB_mono {N : Int} (h : LB N A sn H) : LB (N + 200) A sn H := by
  obtain ⟨h1, h2, h3⟩ := h
  exact ⟨by omega, fun B hB => by have := h2 B hB; omega, fun B hB => by have := h3 B hB; omega⟩
theorem LB_recH {N : Int} (h : LB N A sn H) : ∀ B ∈ recH A H, 0 ≤ B.2.2.2.2 ∧ B.2.2.2.2 ≤ N := fun B hB => by
  have := List.mem_of_mem_take hB
  rcases List.mem_cons.mp this with e | e
  · rw [e]; exact h.1
  · exact h.2.2 B e
theorem LB_rec {N : Int} (h : LB N A sn H) (ha : A.2.2.2.2 ≤ A'.2.2.2.2 ∧ A'.2.2.2.2 ≤ A.2.2.2.2 + 200) : LB (N + 200) A' sn (recH A H) := by
  have h4 := LB_recH h
  obtain ⟨h1, h2, h3⟩ := h
  exact ⟨by omega, fun B hB => by have := h2 B hB; omega, fun B hB => by have := h4 B hB; omega⟩
theorem LB_keep {N : Int} (h : LB N A sn H) : LB (N + 200) A (some A) H := by
  obtain ⟨h1, h2, h3⟩ := h
  refine ⟨by omega, fun B hB => ?_, fun B hB => by have := h3 B hB; omega⟩
  injection hB with e
  rw [← e]
  omega
theorem LB_back {N : Int} {B : Sh} (h : LB N A (some B) H) : LB (N + 200) B (some B) (recH A H) := by
  have h4 := LB_recH h
  obtain ⟨h1, h2, h3⟩ := h
  have hb := h2 B rfl
  refine ⟨by omega, fun C hC => ?_, fun C hC => by have := h4 C hC; omega⟩
  injection hC with e
  rw [← e]
  omega
theorem LB_undo {N : Int} {B : Sh} {H2 : List Sh} (h : LB N A sn (B :: H2)) : LB (N + 200) B sn H2 := by
  obtain ⟨h1, h2, h3⟩ := h
  have hb := h3 B List.mem_cons_self
  exact ⟨by omega, fun C hC => by have := h2 C hC; omega, fun C hC => by have := h3 C (List.mem_cons_of_mem _ hC); omega⟩
theorem all_shC {B : Sh} {n : Int} (hb : B.2.2.2.2 = A.2.2.2.2) (hn : 0 ≤ n ∧ n ≤ 200) : A.2.2.2.2 ≤ (shC B n).2.2.2.2 ∧ (shC B n).2.2.2.2 ≤ A.2.2.2.2 + 200 := by
  unfold shC
  dsimp only
  omega
theorem all_ch (A : Sh) (c kd nu : Int) (tk : List Int) : A.2.2.2.2 ≤ (chS A c kd nu tk).2.2.2.2 ∧ (chS A c kd nu tk).2.2.2.2 ≤ A.2.2.2.2 + 200 := all_shC (by rw [shP_all]) (cnF_rng _ _ _)
theorem all_mo (A : Sh) (f t : Int) : A.2.2.2.2 ≤ (moS A f t).2.2.2.2 ∧ (moS A f t).2.2.2.2 ≤ A.2.2.2.2 + 200 := all_shC rfl (cnA_rng _)
theorem all_li (A : Sh) (b ln i : Int) : A.2.2.2.2 ≤ (liS A b ln i).2.2.2.2 ∧ (liS A b ln i).2.2.2.2 ≤ A.2.2.2.2 + 200 := all_shC rfl (cnA_rng _)
theorem all_bk (A : Sh) (f t h w : Int) : A.2.2.2.2 ≤ (cbkS A f t h w).2.2.2.2 ∧ (cbkS A f t h w).2.2.2.2 ≤ A.2.2.2.2 + 200 := all_shC rfl (cnA_rng _)
theorem all_ru (P : Pd) (A : Sh) : A.2.2.2.2 ≤ (ruS P A).2.2.2.2 ∧ (ruS P A).2.2.2.2 ≤ A.2.2.2.2 + 200 := all_shC (by rw [orA_all]) (cnA_rng _)
theorem s_0 {i N : Int} {y5 y6 y7 y8 : Option Value} (hi : 0 ≤ i) (hN : i + 4 ≤ X.1) (hX : X.1 ≤ 2048) (hL : LI S g P A sn H) (hB : LB N A sn H) (hN9 : N ≤ 800000) : LSt X S g N i 252 y5 y6 y7 y8 := by
  have hCs := hL.1
  have hMs := hL.2.1
  have hm9 : 73 + 26 ≤ S.2.1 := hL.2.2.2.1
  have ht := hL.2.2.2.2.1
  have hC := hL.2.2.2.2.2.1
  have hM := hL.2.2.2.2.2.2
  have hs := MdI_sl hM
  have hall : 0 ≤ A.2.2.2.2 ∧ A.2.2.2.2 ≤ 900000 := ⟨hB.1.1, by have := hB.1.2; omega⟩
  have z1 := xsc_ti (X := X) (i + 1)
  have z2 := xsc_ti (X := X) (i + 2)
  have z3 := xsc_ti (X := X) (i + 3)
  by_cases h : 32 ≤ xsc X (i + 1) ∧ xsc X (i + 1) ≤ 126
  · by_cases h2 : P.1 = 60
    · exact lst_of (g_0 hi hN hX hL ((q_type (X := X) (d := 386) hCs hC z1).2.1 h h2) (fun S1 g1 a b => (m_type (X := X) (d := 387) a b z1).2.1 h h2) (.inr (.inr ⟨rfl, rfl, _, rfl⟩))) (LB_mono hB)
    · exact lst_of (g_0 hi hN hX hL ((q_type (X := X) (d := 386) hCs hC z1).2.2 h h2) (fun S1 g1 a b => (m_type (X := X) (d := 387) a b z1).2.2 h h2) (.inl ⟨_, rfl, rfl, rfl⟩)) (LB_mono hB)
  · exact lst_of (g_0 hi hN hX hL ((q_type (X := X) (d := 386) hCs hC z1).1 h) (fun S1 g1 a b => (m_type (X := X) (d := 387) a b z1).1 h) (.inr (.inl ⟨rfl, rfl, _, rfl⟩))) (LB_mono hB)
theorem s_1 {i N : Int} {y5 y6 y7 y8 : Option Value} (hi : 0 ≤ i) (hN : i + 4 ≤ X.1) (hX : X.1 ≤ 2048) (hL : LI S g P A sn H) (hB : LB N A sn H) (hN9 : N ≤ 800000) : LSt X S g N i 308 y5 y6 y7 y8 := by
  have hCs := hL.1
  have hMs := hL.2.1
  have hm9 : 73 + 26 ≤ S.2.1 := hL.2.2.2.1
  have ht := hL.2.2.2.2.1
  have hC := hL.2.2.2.2.2.1
  have hM := hL.2.2.2.2.2.2
  have hs := MdI_sl hM
  have hall : 0 ≤ A.2.2.2.2 ∧ A.2.2.2.2 ≤ 900000 := ⟨hB.1.1, by have := hB.1.2; omega⟩
  have z1 := xsc_ti (X := X) (i + 1)
  have z2 := xsc_ti (X := X) (i + 2)
  have z3 := xsc_ti (X := X) (i + 3)
  exact lst_of (g_1 hi hN hX hL (q_clearPad (X := X) (d := 387) hCs hC ) (fun S1 g1 a b => m_clearPad (X := X) (d := 387) a b ) ⟨_, rfl, rfl⟩) (LB_mono hB)
theorem s_2 {i N : Int} {y5 y6 y7 y8 : Option Value} (hi : 0 ≤ i) (hN : i + 4 ≤ X.1) (hX : X.1 ≤ 2048) (hL : LI S g P A sn H) (hB : LB N A sn H) (hN9 : N ≤ 800000) : LSt X S g N i 321 y5 y6 y7 y8 := by
  have hCs := hL.1
  have hMs := hL.2.1
  have hm9 : 73 + 26 ≤ S.2.1 := hL.2.2.2.1
  have ht := hL.2.2.2.2.1
  have hC := hL.2.2.2.2.2.1
  have hM := hL.2.2.2.2.2.2
  have hs := MdI_sl hM
  have hall : 0 ≤ A.2.2.2.2 ∧ A.2.2.2.2 ≤ 900000 := ⟨hB.1.1, by have := hB.1.2; omega⟩
  have z1 := xsc_ti (X := X) (i + 1)
  have z2 := xsc_ti (X := X) (i + 2)
  have z3 := xsc_ti (X := X) (i + 3)
  exact lst_of (g_2 hi hN hX hL (q_contentFault (X := X) (d := 387) hCs hC ) (fun S1 g1 a b => m_contentFault (X := X) (d := 387) a b ) ⟨_, rfl, rfl⟩) (LB_mono hB)
theorem s_3 {i N : Int} {y5 y6 y7 y8 : Option Value} (hi : 0 ≤ i) (hN : i + 4 ≤ X.1) (hX : X.1 ≤ 2048) (hL : LI S g P A sn H) (hB : LB N A sn H) (hN9 : N ≤ 800000) : LSt X S g N i 334 y5 y6 y7 y8 := by
  have hCs := hL.1
  have hMs := hL.2.1
  have hm9 : 73 + 26 ≤ S.2.1 := hL.2.2.2.1
  have ht := hL.2.2.2.2.1
  have hC := hL.2.2.2.2.2.1
  have hM := hL.2.2.2.2.2.2
  have hs := MdI_sl hM
  have hall : 0 ≤ A.2.2.2.2 ∧ A.2.2.2.2 ≤ 900000 := ⟨hB.1.1, by have := hB.1.2; omega⟩
  have z1 := xsc_ti (X := X) (i + 1)
  have z2 := xsc_ti (X := X) (i + 2)
  have z3 := xsc_ti (X := X) (i + 3)
  exact lst_of (g_3 hi hN hX hL (q_ordersFault (X := X) (d := 387) hCs hC ) (fun S1 g1 a b => m_ordersFault (X := X) (d := 387) a b ) ⟨_, rfl, rfl⟩) (LB_mono hB)
theorem s_4 {i N : Int} {y5 y6 y7 y8 : Option Value} (hi : 0 ≤ i) (hN : i + 4 ≤ X.1) (hX : X.1 ≤ 2048) (hL : LI S g P A sn H) (hB : LB N A sn H) (hN9 : N ≤ 800000) : LSt X S g N i 347 y5 y6 y7 y8 := by
  have hCs := hL.1
  have hMs := hL.2.1
  have hm9 : 73 + 26 ≤ S.2.1 := hL.2.2.2.1
  have ht := hL.2.2.2.2.1
  have hC := hL.2.2.2.2.2.1
  have hM := hL.2.2.2.2.2.2
  have hs := MdI_sl hM
  have hall : 0 ≤ A.2.2.2.2 ∧ A.2.2.2.2 ≤ 900000 := ⟨hB.1.1, by have := hB.1.2; omega⟩
  have z1 := xsc_ti (X := X) (i + 1)
  have z2 := xsc_ti (X := X) (i + 2)
  have z3 := xsc_ti (X := X) (i + 3)
  by_cases h : isB (xsc X (i + 1))
  · generalize e : ctF (pdc P) 0 0 = r
    cases r with
    | inl x => exact lst_of (g_4 hi hN hX hL (((q_enter (X := X) (d := 98) hCs hC z1 (pad_len X hMs hM)).2 h).1 x e) (fun S1 g1 a b => by have h2 := (m_enter (X := X) (d := 387) a b z1 hall).2 h; rw [e] at h2; exact h2) (.inr (.inr ⟨rfl, rfl, _, rfl⟩))) (LB_mono hB)
    | inr x =>
      obtain ⟨x, kd, nu, tk⟩ := x
      exact lst_of (g_4 hi hN hX hL (((q_enter (X := X) (d := 98) hCs hC z1 (pad_len X hMs hM)).2 h).2 x kd nu tk e) (fun S1 g1 a b => by have h2 := (m_enter (X := X) (d := 387) a b z1 hall).2 h; rw [e] at h2; exact h2) (.inl ⟨_, rfl, rfl, rfl⟩)) (LB_rec hB (all_ch A _ _ _ _))
  · exact lst_of (g_4 hi hN hX hL ((q_enter (X := X) (d := 98) hCs hC z1 (pad_len X hMs hM)).1 h) (fun S1 g1 a b => (m_enter (X := X) (d := 387) a b z1 hall).1 h) (.inr (.inl ⟨rfl, rfl, _, rfl⟩))) (LB_mono hB)
theorem s_5 {i N : Int} {y5 y6 y7 y8 : Option Value} (hi : 0 ≤ i) (hN : i + 4 ≤ X.1) (hX : X.1 ≤ 2048) (hL : LI S g P A sn H) (hB : LB N A sn H) (hN9 : N ≤ 800000) : LSt X S g N i 403 y5 y6 y7 y8 := by
  have hCs := hL.1
  have hMs := hL.2.1
  have hm9 : 73 + 26 ≤ S.2.1 := hL.2.2.2.1
  have ht := hL.2.2.2.2.1
  have hC := hL.2.2.2.2.2.1
  have hM := hL.2.2.2.2.2.2
  have hs := MdI_sl hM
  have hall : 0 ≤ A.2.2.2.2 ∧ A.2.2.2.2 ≤ 900000 := ⟨hB.1.1, by have := hB.1.2; omega⟩
  have z1 := xsc_ti (X := X) (i + 1)
  have z2 := xsc_ti (X := X) (i + 2)
  have z3 := xsc_ti (X := X) (i + 3)
  by_cases h : isB (xsc X (i + 1)) ∧ -999999 ≤ xsc X (i + 2) ∧ xsc X (i + 2) ≤ 999999
  · exact lst_of (g_5 hi hN hX hL (((q_setNumber (X := X) (d := 98) hCs hC z1 z2).2 h)) (fun S1 g1 a b => ((m_setNumber (X := X) (d := 387) a b z1 z2 hall).2 h)) (.inl ⟨_, rfl, rfl, rfl⟩)) (LB_rec hB (all_ch A _ _ _ _))
  · exact lst_of (g_5 hi hN hX hL (((q_setNumber (X := X) (d := 98) hCs hC z1 z2).1 h)) (fun S1 g1 a b => ((m_setNumber (X := X) (d := 387) a b z1 z2 hall).1 h)) (.inr ⟨rfl, rfl, _, rfl⟩)) (LB_mono hB)
theorem s_6 {i N : Int} {y5 y6 y7 y8 : Option Value} (hi : 0 ≤ i) (hN : i + 4 ≤ X.1) (hX : X.1 ≤ 2048) (hL : LI S g P A sn H) (hB : LB N A sn H) (hN9 : N ≤ 800000) : LSt X S g N i 471 y5 y6 y7 y8 := by
  have hCs := hL.1
  have hMs := hL.2.1
  have hm9 : 73 + 26 ≤ S.2.1 := hL.2.2.2.1
  have ht := hL.2.2.2.2.1
  have hC := hL.2.2.2.2.2.1
  have hM := hL.2.2.2.2.2.2
  have hs := MdI_sl hM
  have hall : 0 ≤ A.2.2.2.2 ∧ A.2.2.2.2 ≤ 900000 := ⟨hB.1.1, by have := hB.1.2; omega⟩
  have z1 := xsc_ti (X := X) (i + 1)
  have z2 := xsc_ti (X := X) (i + 2)
  have z3 := xsc_ti (X := X) (i + 3)
  by_cases h : isB (xsc X (i + 1))
  · exact lst_of (g_6 hi hN hX hL (((q_clear (X := X) (d := 98) hCs hC z1).2 h)) (fun S1 g1 a b => ((m_clear (X := X) (d := 387) a b z1 hall).2 h)) (.inl ⟨_, rfl, rfl, rfl⟩)) (LB_rec hB (all_ch A _ _ _ _))
  · exact lst_of (g_6 hi hN hX hL (((q_clear (X := X) (d := 98) hCs hC z1).1 h)) (fun S1 g1 a b => ((m_clear (X := X) (d := 387) a b z1 hall).1 h)) (.inr ⟨rfl, rfl, _, rfl⟩)) (LB_mono hB)
theorem s_7 {i N : Int} {y5 y6 y7 y8 : Option Value} (hi : 0 ≤ i) (hN : i + 4 ≤ X.1) (hX : X.1 ≤ 2048) (hL : LI S g P A sn H) (hB : LB N A sn H) (hN9 : N ≤ 800000) : LSt X S g N i 527 y5 y6 y7 y8 := by
  have hCs := hL.1
  have hMs := hL.2.1
  have hm9 : 73 + 26 ≤ S.2.1 := hL.2.2.2.1
  have ht := hL.2.2.2.2.1
  have hC := hL.2.2.2.2.2.1
  have hM := hL.2.2.2.2.2.2
  have hs := MdI_sl hM
  have hall : 0 ≤ A.2.2.2.2 ∧ A.2.2.2.2 ≤ 900000 := ⟨hB.1.1, by have := hB.1.2; omega⟩
  have z1 := xsc_ti (X := X) (i + 1)
  have z2 := xsc_ti (X := X) (i + 2)
  have z3 := xsc_ti (X := X) (i + 3)
  by_cases h : isB (xsc X (i + 1)) ∧ isB (xsc X (i + 2)) ∧ isB (xsc X (i + 3))
  · by_cases h2 : xsc X (i + 2) / 10 < xsc X (i + 1) / 10 ∨ xsc X (i + 2) % 10 < xsc X (i + 1) % 10
    · exact lst_of (g_7 hi hN hX hL ((q_copyBlock (X := X) (d := 98) hCs hm9 hC z1 z2 z3).2.1 h h2) (fun S1 g1 a b => (m_copyBlock (X := X) (d := 387) a b z1 z2 z3 hall).2.1 h h2) (.inr (.inl ⟨rfl, rfl, _, rfl⟩))) (LB_mono hB)
    · by_cases h3 : xsc X (i + 3) / 10 + (xsc X (i + 2) / 10 - xsc X (i + 1) / 10) < 20 ∧ xsc X (i + 3) % 10 + (xsc X (i + 2) % 10 - xsc X (i + 1) % 10) < 10
      · exact lst_of (g_7 hi hN hX hL ((q_copyBlock (X := X) (d := 98) hCs hm9 hC z1 z2 z3).2.2.2 h h2 h3) (fun S1 g1 a b => (m_copyBlock (X := X) (d := 387) a b z1 z2 z3 hall).2.2.2 h h2 h3) (.inl ⟨_, rfl, rfl, rfl⟩)) (LB_rec hB (all_bk A _ _ _ _))
      · exact lst_of (g_7 hi hN hX hL ((q_copyBlock (X := X) (d := 98) hCs hm9 hC z1 z2 z3).2.2.1 h h2 h3) (fun S1 g1 a b => (m_copyBlock (X := X) (d := 387) a b z1 z2 z3 hall).2.2.1 h h2 h3) (.inr (.inr ⟨rfl, rfl, _, rfl⟩))) (LB_mono hB)
  · exact lst_of (g_7 hi hN hX hL ((q_copyBlock (X := X) (d := 98) hCs hm9 hC z1 z2 z3).1 h) (fun S1 g1 a b => (m_copyBlock (X := X) (d := 387) a b z1 z2 z3 hall).1 h) (.inr (.inl ⟨rfl, rfl, _, rfl⟩))) (LB_mono hB)
theorem s_8 {i N : Int} {y5 y6 y7 y8 : Option Value} (hi : 0 ≤ i) (hN : i + 4 ≤ X.1) (hX : X.1 ≤ 2048) (hL : LI S g P A sn H) (hB : LB N A sn H) (hN9 : N ≤ 800000) : LSt X S g N i 607 y5 y6 y7 y8 := by
  have hCs := hL.1
  have hMs := hL.2.1
  have hm9 : 73 + 26 ≤ S.2.1 := hL.2.2.2.1
  have ht := hL.2.2.2.2.1
  have hC := hL.2.2.2.2.2.1
  have hM := hL.2.2.2.2.2.2
  have hs := MdI_sl hM
  have hall : 0 ≤ A.2.2.2.2 ∧ A.2.2.2.2 ≤ 900000 := ⟨hB.1.1, by have := hB.1.2; omega⟩
  have z1 := xsc_ti (X := X) (i + 1)
  have z2 := xsc_ti (X := X) (i + 2)
  have z3 := xsc_ti (X := X) (i + 3)
  by_cases h : isB (xsc X (i + 1)) ∧ isB (xsc X (i + 2)) ∧ ¬ xsc X (i + 1) = xsc X (i + 2)
  · exact lst_of (g_8 hi hN hX hL (((q_moveCell (X := X) (d := 98) hCs hm9 hC z1 z2).2 h)) (fun S1 g1 a b => ((m_moveCell (X := X) (d := 387) a b z1 z2 hall).2 h)) (.inl ⟨_, rfl, rfl, rfl⟩)) (LB_rec hB (all_mo A _ _))
  · exact lst_of (g_8 hi hN hX hL (((q_moveCell (X := X) (d := 98) hCs hm9 hC z1 z2).1 h)) (fun S1 g1 a b => ((m_moveCell (X := X) (d := 387) a b z1 z2 hall).1 h)) (.inr ⟨rfl, rfl, _, rfl⟩)) (LB_mono hB)
theorem s_9 {i N : Int} {y5 y6 y7 y8 : Option Value} (hi : 0 ≤ i) (hN : i + 4 ≤ X.1) (hX : X.1 ≤ 2048) (hL : LI S g P A sn H) (hB : LB N A sn H) (hN9 : N ≤ 800000) : LSt X S g N i 675 y5 y6 y7 y8 := by
  have hCs := hL.1
  have hMs := hL.2.1
  have hm9 : 73 + 26 ≤ S.2.1 := hL.2.2.2.1
  have ht := hL.2.2.2.2.1
  have hC := hL.2.2.2.2.2.1
  have hM := hL.2.2.2.2.2.2
  have hs := MdI_sl hM
  have hall : 0 ≤ A.2.2.2.2 ∧ A.2.2.2.2 ≤ 900000 := ⟨hB.1.1, by have := hB.1.2; omega⟩
  have z1 := xsc_ti (X := X) (i + 1)
  have z2 := xsc_ti (X := X) (i + 2)
  have z3 := xsc_ti (X := X) (i + 3)
  by_cases h : 0 ≤ xsc X (i + 1) ∧ xsc X (i + 1) ≤ lnL 1
  · by_cases h2 : fiN A.1 1 (lnL 1) (lnL 1) = 0
    · exact lst_of (g_9 hi hN hX hL ((q_insert (X := X) (d := 98) hCs hm9 hC (show (1 : Int) = 0 ∨ (1 : Int) = 1 by decide) z1).2.2 h h2) (fun S1 g1 a b => (m_insert (X := X) (d := 386) a b (show (1 : Int) = 0 ∨ (1 : Int) = 1 by decide) z1 hall).2.2 h h2) (.inl ⟨_, rfl, rfl, rfl⟩)) (LB_rec hB (all_li A _ _ _))
    · exact lst_of (g_9 hi hN hX hL ((q_insert (X := X) (d := 98) hCs hm9 hC (show (1 : Int) = 0 ∨ (1 : Int) = 1 by decide) z1).2.1 h h2) (fun S1 g1 a b => (m_insert (X := X) (d := 386) a b (show (1 : Int) = 0 ∨ (1 : Int) = 1 by decide) z1 hall).2.1 h h2) (.inr (.inr ⟨rfl, rfl, _, rfl⟩))) (LB_mono hB)
  · exact lst_of (g_9 hi hN hX hL ((q_insert (X := X) (d := 98) hCs hm9 hC (show (1 : Int) = 0 ∨ (1 : Int) = 1 by decide) z1).1 h) (fun S1 g1 a b => (m_insert (X := X) (d := 386) a b (show (1 : Int) = 0 ∨ (1 : Int) = 1 by decide) z1 hall).1 h) (.inr (.inl ⟨rfl, rfl, _, rfl⟩))) (LB_mono hB)
theorem s_10 {i N : Int} {y5 y6 y7 y8 : Option Value} (hi : 0 ≤ i) (hN : i + 4 ≤ X.1) (hX : X.1 ≤ 2048) (hL : LI S g P A sn H) (hB : LB N A sn H) (hN9 : N ≤ 800000) : LSt X S g N i 731 y5 y6 y7 y8 := by
  have hCs := hL.1
  have hMs := hL.2.1
  have hm9 : 73 + 26 ≤ S.2.1 := hL.2.2.2.1
  have ht := hL.2.2.2.2.1
  have hC := hL.2.2.2.2.2.1
  have hM := hL.2.2.2.2.2.2
  have hs := MdI_sl hM
  have hall : 0 ≤ A.2.2.2.2 ∧ A.2.2.2.2 ≤ 900000 := ⟨hB.1.1, by have := hB.1.2; omega⟩
  have z1 := xsc_ti (X := X) (i + 1)
  have z2 := xsc_ti (X := X) (i + 2)
  have z3 := xsc_ti (X := X) (i + 3)
  by_cases h : 0 ≤ xsc X (i + 1) ∧ xsc X (i + 1) ≤ lnL 1
  · exact lst_of (g_10 hi hN hX hL (((q_delete (X := X) (d := 98) hCs hm9 hC (show (1 : Int) = 0 ∨ (1 : Int) = 1 by decide) z1).2 h)) (fun S1 g1 a b => ((m_delete (X := X) (d := 386) a b (show (1 : Int) = 0 ∨ (1 : Int) = 1 by decide) z1 hall).2 h)) (.inl ⟨_, rfl, rfl, rfl⟩)) (LB_rec hB (all_li A _ _ _))
  · exact lst_of (g_10 hi hN hX hL (((q_delete (X := X) (d := 98) hCs hm9 hC (show (1 : Int) = 0 ∨ (1 : Int) = 1 by decide) z1).1 h)) (fun S1 g1 a b => ((m_delete (X := X) (d := 386) a b (show (1 : Int) = 0 ∨ (1 : Int) = 1 by decide) z1 hall).1 h)) (.inr ⟨rfl, rfl, _, rfl⟩)) (LB_mono hB)
theorem s_11 {i N : Int} {y5 y6 y7 y8 : Option Value} (hi : 0 ≤ i) (hN : i + 4 ≤ X.1) (hX : X.1 ≤ 2048) (hL : LI S g P A sn H) (hB : LB N A sn H) (hN9 : N ≤ 800000) : LSt X S g N i 787 y5 y6 y7 y8 := by
  have hCs := hL.1
  have hMs := hL.2.1
  have hm9 : 73 + 26 ≤ S.2.1 := hL.2.2.2.1
  have ht := hL.2.2.2.2.1
  have hC := hL.2.2.2.2.2.1
  have hM := hL.2.2.2.2.2.2
  have hs := MdI_sl hM
  have hall : 0 ≤ A.2.2.2.2 ∧ A.2.2.2.2 ≤ 900000 := ⟨hB.1.1, by have := hB.1.2; omega⟩
  have z1 := xsc_ti (X := X) (i + 1)
  have z2 := xsc_ti (X := X) (i + 2)
  have z3 := xsc_ti (X := X) (i + 3)
  by_cases h : 0 ≤ xsc X (i + 1) ∧ xsc X (i + 1) ≤ lnL 0
  · by_cases h2 : fiN A.1 0 (lnL 0) (lnL 0) = 0
    · exact lst_of (g_11 hi hN hX hL ((q_insert (X := X) (d := 98) hCs hm9 hC (show (0 : Int) = 0 ∨ (0 : Int) = 1 by decide) z1).2.2 h h2) (fun S1 g1 a b => (m_insert (X := X) (d := 386) a b (show (0 : Int) = 0 ∨ (0 : Int) = 1 by decide) z1 hall).2.2 h h2) (.inl ⟨_, rfl, rfl, rfl⟩)) (LB_rec hB (all_li A _ _ _))
    · exact lst_of (g_11 hi hN hX hL ((q_insert (X := X) (d := 98) hCs hm9 hC (show (0 : Int) = 0 ∨ (0 : Int) = 1 by decide) z1).2.1 h h2) (fun S1 g1 a b => (m_insert (X := X) (d := 386) a b (show (0 : Int) = 0 ∨ (0 : Int) = 1 by decide) z1 hall).2.1 h h2) (.inr (.inr ⟨rfl, rfl, _, rfl⟩))) (LB_mono hB)
  · exact lst_of (g_11 hi hN hX hL ((q_insert (X := X) (d := 98) hCs hm9 hC (show (0 : Int) = 0 ∨ (0 : Int) = 1 by decide) z1).1 h) (fun S1 g1 a b => (m_insert (X := X) (d := 386) a b (show (0 : Int) = 0 ∨ (0 : Int) = 1 by decide) z1 hall).1 h) (.inr (.inl ⟨rfl, rfl, _, rfl⟩))) (LB_mono hB)
theorem s_12 {i N : Int} {y5 y6 y7 y8 : Option Value} (hi : 0 ≤ i) (hN : i + 4 ≤ X.1) (hX : X.1 ≤ 2048) (hL : LI S g P A sn H) (hB : LB N A sn H) (hN9 : N ≤ 800000) : LSt X S g N i 843 y5 y6 y7 y8 := by
  have hCs := hL.1
  have hMs := hL.2.1
  have hm9 : 73 + 26 ≤ S.2.1 := hL.2.2.2.1
  have ht := hL.2.2.2.2.1
  have hC := hL.2.2.2.2.2.1
  have hM := hL.2.2.2.2.2.2
  have hs := MdI_sl hM
  have hall : 0 ≤ A.2.2.2.2 ∧ A.2.2.2.2 ≤ 900000 := ⟨hB.1.1, by have := hB.1.2; omega⟩
  have z1 := xsc_ti (X := X) (i + 1)
  have z2 := xsc_ti (X := X) (i + 2)
  have z3 := xsc_ti (X := X) (i + 3)
  by_cases h : 0 ≤ xsc X (i + 1) ∧ xsc X (i + 1) ≤ lnL 0
  · exact lst_of (g_12 hi hN hX hL (((q_delete (X := X) (d := 98) hCs hm9 hC (show (0 : Int) = 0 ∨ (0 : Int) = 1 by decide) z1).2 h)) (fun S1 g1 a b => ((m_delete (X := X) (d := 386) a b (show (0 : Int) = 0 ∨ (0 : Int) = 1 by decide) z1 hall).2 h)) (.inl ⟨_, rfl, rfl, rfl⟩)) (LB_rec hB (all_li A _ _ _))
  · exact lst_of (g_12 hi hN hX hL (((q_delete (X := X) (d := 98) hCs hm9 hC (show (0 : Int) = 0 ∨ (0 : Int) = 1 by decide) z1).1 h)) (fun S1 g1 a b => ((m_delete (X := X) (d := 386) a b (show (0 : Int) = 0 ∨ (0 : Int) = 1 by decide) z1 hall).1 h)) (.inr ⟨rfl, rfl, _, rfl⟩)) (LB_mono hB)
theorem s_13 {i N : Int} {y5 y6 y7 y8 : Option Value} (hi : 0 ≤ i) (hN : i + 4 ≤ X.1) (hX : X.1 ≤ 2048) (hL : LI S g P A sn H) (hB : LB N A sn H) (hN9 : N ≤ 800000) : LSt X S g N i 899 y5 y6 y7 y8 := by
  have hCs := hL.1
  have hMs := hL.2.1
  have hm9 : 73 + 26 ≤ S.2.1 := hL.2.2.2.1
  have ht := hL.2.2.2.2.1
  have hC := hL.2.2.2.2.2.1
  have hM := hL.2.2.2.2.2.2
  have hs := MdI_sl hM
  have hall : 0 ≤ A.2.2.2.2 ∧ A.2.2.2.2 ≤ 900000 := ⟨hB.1.1, by have := hB.1.2; omega⟩
  have z1 := xsc_ti (X := X) (i + 1)
  have z2 := xsc_ti (X := X) (i + 2)
  have z3 := xsc_ti (X := X) (i + 3)
  by_cases h : osF (pdc P) P.1 60 0 = -1
  · exact lst_of (g_13 hi hN hX hL ((q_runOrders (X := X) (d := 98) hCs hC (pad_lenO X hMs hM)).2 h) (fun S1 g1 a b => (m_runOrders (X := X) (d := 387) a b hall).2 h) (.inl ⟨_, rfl, rfl, rfl⟩)) (LB_rec hB (all_ru P A))
  · exact lst_of (g_13 hi hN hX hL ((q_runOrders (X := X) (d := 98) hCs hC (pad_lenO X hMs hM)).1 h) (fun S1 g1 a b => (m_runOrders (X := X) (d := 387) a b hall).1 h) (.inr ⟨rfl, rfl, _, rfl⟩)) (LB_mono hB)
theorem s_14 {i N : Int} {y5 y6 y7 y8 : Option Value} (hi : 0 ≤ i) (hN : i + 4 ≤ X.1) (hX : X.1 ≤ 2048) (hL : LI S g P A sn H) (hB : LB N A sn H) (hN9 : N ≤ 800000) : LSt X S g N i 943 y5 y6 y7 y8 := by
  have hCs := hL.1
  have hMs := hL.2.1
  have hm9 : 73 + 26 ≤ S.2.1 := hL.2.2.2.1
  have ht := hL.2.2.2.2.1
  have hC := hL.2.2.2.2.2.1
  have hM := hL.2.2.2.2.2.2
  have hs := MdI_sl hM
  have hall : 0 ≤ A.2.2.2.2 ∧ A.2.2.2.2 ≤ 900000 := ⟨hB.1.1, by have := hB.1.2; omega⟩
  have z1 := xsc_ti (X := X) (i + 1)
  have z2 := xsc_ti (X := X) (i + 2)
  have z3 := xsc_ti (X := X) (i + 3)
  cases e : sn with
  | none =>
    subst e
    exact lst_of (g_14 hi hN hX hL ((q_goBack (X := X) (d := 386) hCs hC ).1 rfl) (fun S1 g1 a b => (m_goBack (X := X) (d := 386) a b ).1 rfl) (.inr ⟨rfl, rfl, _, rfl⟩)) (LB_mono hB)
  | some B =>
    subst e
    exact lst_of (g_14 hi hN hX hL ((q_goBack (X := X) (d := 386) hCs hC ).2 B rfl) (fun S1 g1 a b => by have h2 := (m_goBack (X := X) (d := 386) a b ).2 B rfl; rw [flN_eq] at h2; exact h2) (.inl ⟨_, rfl, rfl, rfl⟩)) (LB_back hB)
theorem s_15 {i N : Int} {y5 y6 y7 y8 : Option Value} (hi : 0 ≤ i) (hN : i + 4 ≤ X.1) (hX : X.1 ≤ 2048) (hL : LI S g P A sn H) (hB : LB N A sn H) (hN9 : N ≤ 800000) : LSt X S g N i 987 y5 y6 y7 y8 := by
  have hCs := hL.1
  have hMs := hL.2.1
  have hm9 : 73 + 26 ≤ S.2.1 := hL.2.2.2.1
  have ht := hL.2.2.2.2.1
  have hC := hL.2.2.2.2.2.1
  have hM := hL.2.2.2.2.2.2
  have hs := MdI_sl hM
  have hall : 0 ≤ A.2.2.2.2 ∧ A.2.2.2.2 ≤ 900000 := ⟨hB.1.1, by have := hB.1.2; omega⟩
  have z1 := xsc_ti (X := X) (i + 1)
  have z2 := xsc_ti (X := X) (i + 2)
  have z3 := xsc_ti (X := X) (i + 3)
  exact lst_of (g_15 hi hN hX hL (q_keep (X := X) (d := 387) hCs hC ) (fun S1 g1 a b => by have h2 := m_keep (X := X) (d := 386) a b ; rw [flN_eq] at h2; exact h2) ⟨_, rfl, rfl⟩) (LB_keep hB)
theorem s_16 {i N : Int} {y5 y6 y7 y8 : Option Value} (hi : 0 ≤ i) (hN : i + 4 ≤ X.1) (hX : X.1 ≤ 2048) (hL : LI S g P A sn H) (hB : LB N A sn H) (hN9 : N ≤ 800000) : LSt X S g N i 1000 y5 y6 y7 y8 := by
  have hCs := hL.1
  have hMs := hL.2.1
  have hm9 : 73 + 26 ≤ S.2.1 := hL.2.2.2.1
  have ht := hL.2.2.2.2.1
  have hC := hL.2.2.2.2.2.1
  have hM := hL.2.2.2.2.2.2
  have hs := MdI_sl hM
  have hall : 0 ≤ A.2.2.2.2 ∧ A.2.2.2.2 ≤ 900000 := ⟨hB.1.1, by have := hB.1.2; omega⟩
  have z1 := xsc_ti (X := X) (i + 1)
  have z2 := xsc_ti (X := X) (i + 2)
  have z3 := xsc_ti (X := X) (i + 3)
  cases e : H with
  | nil =>
    subst e
    exact lst_of (g_16 hi hN hX hL ((q_undo (X := X) (d := 386) hCs hC ).1 rfl) (fun S1 g1 a b => (m_undo (X := X) (d := 386) a b ).1 rfl) (.inr ⟨rfl, rfl, _, rfl⟩)) (LB_mono hB)
  | cons B H2 =>
    subst e
    exact lst_of (g_16 hi hN hX hL ((q_undo (X := X) (d := 386) hCs hC ).2 B H2 rfl) (fun S1 g1 a b => (m_undo (X := X) (d := 386) a b ).2 B H2 rfl) (.inl ⟨_, rfl, rfl, rfl⟩)) (LB_undo hB)
end
