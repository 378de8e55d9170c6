/-! p53: the law's calls that may throw -/
section
variable {X : xX} {S : xLm} {g : xGm} {cap d M D W n : Nat} {As Bs : List Value} {out out1 : xO} {P P1 : Pd} {A A1 : Sh} {sn sn1 : Option Sh} {H H1 : List Sh} {z x j v u f : Int}
abbrev vBad : xO := vI (-2000000002)
abbrev vNot : xO := vI (-2000000003)
theorem LC_wr (hc : LC X S g cap M D As out P1 A1 sn1 H1 n) (hw : ∀ S' g', (∀ Q, Cw X D M As (hp S g) Q = Q out (hp S' g')) → ∀ Q, Cw X (D + 1) W Bs (hp S g) Q = Q out1 (hp S' g')) : LC X S g cap W (D + 1) Bs out1 P1 A1 sn1 H1 n := by
  obtain ⟨S', g', cap', i, c, k⟩ := hc
  exact ⟨S', g', cap', i, c, hw S' g' k⟩
theorem fl0 (h : LI S g cap P A sn H) (hz : 0 ≤ z ∧ z < 200) : ¬ flA A z = 0 → ¬ flA A z ≤ 0 := fun e => by
  have := sf_rng (LI_ok h) (LI_sf h) hz.1 hz.2
  omega
/-- what the law's value tells -/
noncomputable def vwF (A : Sh) (z : Int) : Int := if 0 ≤ z ∧ z < 200 then (if flA A z = 0 then vlA A z else -2000000003) else -2000000002
theorem w_value (h : LI S g cap P A sn H) (tz : ti z = z) : LC X S g cap 213 (d + 301) [.ref 0, .int (iI z)] (vI (vwF A z)) P A sn H 1 := by
  unfold vwF
  by_cases hz : 0 ≤ z ∧ z < 200
  · rw [if_pos hz]
    by_cases hf : flA A z = 0
    · rw [if_pos hf]
      exact LC_wr (LC_le (k_value (d := d) h hz hf) (Nat.zero_le 1)) (fun S' g' k => (lw_213 (LI_c h) k).1 _ rfl)
    · rw [if_neg hf]
      exact LC_wr (lc_C h ((q_value (d := d + 288) h.1 h.2.2 (LI_sl h) tz).2.1 hz (fl0 h hz hf))) (fun S' g' k => (lw_213 (LI_c h) k).2.2 rfl)
  · rw [if_neg hz]
    exact LC_wr (lc_C h ((q_value (d := d + 288) h.1 h.2.2 (LI_sl h) tz).1 hz)) (fun S' g' k => (lw_213 (LI_c h) k).2.1 rfl)
theorem w_asked (h : LI S g cap P A sn H) (tz : ti z = z) : LC X S g cap 214 (d + 301) [.ref 0, .int (iI z)] (vI (vwF A z)) P A sn H 1 := by
  unfold vwF
  by_cases hz : 0 ≤ z ∧ z < 200
  · rw [if_pos hz]
    by_cases hf : flA A z = 0
    · rw [if_pos hf]
      exact LC_wr (lc_C h ((q_valueByAsking (d := d) h.1 h.2.2 (LI_sl h) tz).2.2 hz (by omega))) (fun S' g' k => (lw_214 (LI_c h) k).1 _ rfl)
    · rw [if_neg hf]
      exact LC_wr (lc_C h ((q_valueByAsking (d := d) h.1 h.2.2 (LI_sl h) tz).2.1 hz (fl0 h hz hf))) (fun S' g' k => (lw_214 (LI_c h) k).2.2 rfl)
  · rw [if_neg hz]
    exact LC_wr (lc_C h ((q_valueByAsking (d := d) h.1 h.2.2 (LI_sl h) tz).1 hz)) (fun S' g' k => (lw_214 (LI_c h) k).2.1 rfl)
noncomputable def vfF (A : Sh) (c n a : Int) : Int := if flA (tmpA A c 1 n) a = 0 then vlA (tmpA A c 1 n) a else -2000000003
theorem LI_tsf (X : xX) (h : LI S g cap P A sn H) {c n : Int} (hc : 0 ≤ c ∧ c < 200) (hn : -999999 ≤ n ∧ n ≤ 999999) : ShOK (tmpA A c 1 n) ∧ SlF (tmpA A c 1 n) := by
  have ho := tmp_ok (z := c) (LI_ok h) (.inr rfl) hn
  exact ⟨ho, SlF_of ho (LI_tmp X h hc (.inr rfl) hn (fun e => absurd e (by decide)))⟩
theorem w_valueIf {c n a : Int} (h : LI S g cap P A sn H) (hc : 0 ≤ c ∧ c < 200) (hn : -999999 ≤ n ∧ n ≤ 999999) (ha : 0 ≤ a ∧ a < 200) : LC X S g cap 215 (d + 301) [.ref 0, .int (iI c), .int (iI n), .int (iI a)] (vI (vfF A c n a)) P A sn H 1 := by
  unfold vfF
  have q := q_valueIf (X := X) (d := d) h.1 h.2.2 (ti_c hc) (ti_eq (z := n) (by omega) (by omega)) (ti_c ha) (fun _ h2 => LI_tmp X h hc (.inr rfl) h2 (fun e => absurd e (by decide)))
  obtain ⟨t1, t2⟩ := LI_tsf X h hc hn
  by_cases hf : flA (tmpA A c 1 n) a = 0
  · rw [if_pos hf]
    exact LC_wr (lc_C h (q.2.2 ⟨hc, ha, hn⟩ (by omega))) (fun S' g' k => (lw_215 (LI_c h) k).1 _ rfl)
  · rw [if_neg hf]
    have := sf_rng t1 t2 ha.1 ha.2
    exact LC_wr (lc_C h (q.2.1 ⟨hc, ha, hn⟩ (by omega))) (fun S' g' k => (lw_215 (LI_c h) k).2.2 rfl)
theorem w_valueIfX {c n a : Int} (h : LI S g cap P A sn H) (tc : ti c = c) (tn : ti n = n) (ta : ti a = a) (hb : ¬ (isB c ∧ isB a ∧ -999999 ≤ n ∧ n ≤ 999999)) : LC X S g cap 215 (d + 301) [.ref 0, .int (iI c), .int (iI n), .int (iI a)] vBad P A sn H 1 :=
  LC_wr (lc_C h ((q_valueIf (X := X) (d := d) h.1 h.2.2 tc tn ta (fun h1 h2 => LI_tmp X h h1 (.inr rfl) h2 (fun e => absurd e (by decide)))).1 hb)) (fun S' g' k => (lw_215 (LI_c h) k).2.1 rfl)
noncomputable def nfF (A : Sh) (c a v : Int) : Int := low (nfP A c a v) 0 51
theorem w_numberFor {c a v : Int} (h : LI S g cap P A sn H) (hc : 0 ≤ c ∧ c < 200) (ha : 0 ≤ a ∧ a < 200) (tv : ti v = v) : LC X S g cap 204 (d + 301) [.ref 0, .int (iI c), .int (iI a), .int (iI v)] (vI (nfF A c a v)) P A sn H 1 :=
  LC_wr (lc_C h ((q_numberFor (X := X) (d := d) h.1 h.2.2 (ti_c hc) (ti_c ha) tv (fun h1 n hn => LI_tmp X h h1 (.inr rfl) hn (fun e => absurd e (by decide)))).2 ⟨hc, ha⟩)) (fun S' g' k => (lw_204 (LI_c h) k).1 _ rfl)
theorem w_numberForX {c a v : Int} (h : LI S g cap P A sn H) (tc : ti c = c) (ta : ti a = a) (tv : ti v = v) (hb : ¬ (isB c ∧ isB a)) : LC X S g cap 204 (d + 301) [.ref 0, .int (iI c), .int (iI a), .int (iI v)] vBad P A sn H 1 :=
  LC_wr (lc_C h ((q_numberFor (X := X) (d := d) h.1 h.2.2 tc ta tv (fun h1 n hn => LI_tmp X h h1 (.inr rfl) hn (fun e => absurd e (by decide)))).1 hb)) (fun S' g' k => (lw_204 (LI_c h) k).2 rfl)
theorem w_chain (h : LI S g cap P A sn H) (hz : 0 ≤ z ∧ z < 200) : LC X S g cap 179 (d + 301) [.ref 0, .int (iI z)] (vI (if flA A z = 5 then -2000000003 else lnA A z)) P A sn H 1 := by
  by_cases hf : flA A z = 5
  · rw [if_pos hf]
    exact LC_wr (lc_C h ((q_chain (d := d + 288) h.1 h.2.2 (LI_sl h) (ti_c hz)).2.1 hz hf)) (fun S' g' k => (lw_179 (LI_c h) k).2.2 rfl)
  · rw [if_neg hf]
    exact LC_wr (LC_le (k_chain (d := d) h hz hf) (Nat.zero_le 1)) (fun S' g' k => (lw_179 (LI_c h) k).1 _ rfl)
theorem w_fChar (h : LI S g cap P A sn H) (hz : 0 ≤ z ∧ z < 200) (tj : ti j = j) : LC X S g cap 192 (d + 301) [.ref 0, .int (iI z), .int (iI j)] (vI (if 0 ≤ j then qChr A z j else -2000000002)) P A sn H 1 := by
  by_cases hj : 0 ≤ j
  · rw [if_pos hj]
    exact LC_wr (LC_le (k_fChar (d := d) h hz tj hj) (Nat.zero_le 1)) (fun S' g' k => (lw_192 (LI_c h) k).1 _ rfl)
  · rw [if_neg hj]
    exact LC_wr (lc_C h ((q_formulaCharacter (d := d + 288) h.1 (LI_m h) h.2.2 (LI_t h) (ti_c hz) tj).1 (fun e => hj e.2))) (fun S' g' k => (lw_192 (LI_c h) k).2 rfl)
/-! the calls that are to throw -/
theorem w_colX (h : LI S g cap P A sn H) (tz : ti z = z) (hz : ¬ (0 ≤ z ∧ z ≤ 9)) : LC X S g cap 181 (d + 301) [.ref 0, .int (iI z)] (vL (-2000000002)) P A sn H 1 :=
  LC_wr (lc_C h ((q_total (d := d + 288) (l := 0) h.1 h.2.2 (LI_sl h) (.inl rfl) tz).1 hz)) (fun S' g' k => (lw_181 (LI_c h) k).2 rfl)
theorem w_rowX (h : LI S g cap P A sn H) (tz : ti z = z) (hz : ¬ (0 ≤ z ∧ z ≤ 19)) : LC X S g cap 208 (d + 301) [.ref 0, .int (iI z)] (vL (-2000000002)) P A sn H 1 :=
  LC_wr (lc_C h ((q_total (d := d + 288) (l := 1) h.1 h.2.2 (LI_sl h) (.inr rfl) tz).1 hz)) (fun S' g' k => (lw_208 (LI_c h) k).2 rfl)
theorem w_depX (h : LI S g cap P A sn H) (tz : ti z = z) (tx : ti x = x) (hz : ¬ (isB z ∧ isB x)) : LC X S g cap 185 (d + 301) [.ref 0, .int (iI z), .int (iI x)] vBad P A sn H 1 :=
  LC_wr (lc_C h ((q_dependsOn (d := d + 288) h.1 h.2.2 tz tx).1 hz)) (fun S' g' k => (lw_185 (LI_c h) k).2 rfl)
theorem w_withoutX (h : LI S g cap P A sn H) (tz : ti z = z) (hz : ¬ isB z) : LC X S g cap 190 (d + 301) [.ref 0, .int (iI z)] vBad P A sn H 1 :=
  LC_wr (lc_C h ((q_errorsWithout (X := X) (d := d) h.1 h.2.2 tz (fun h1 => absurd h1 hz)).1 hz)) (fun S' g' k => (lw_190 (LI_c h) k).2 rfl)
theorem w_isEmptyX (h : LI S g cap P A sn H) (tz : ti z = z) (hz : ¬ isB z) : LC X S g cap 197 (d + 301) [.ref 0, .int (iI z)] vBad P A sn H 1 :=
  LC_wr (k_isEmptyX (d := d) h tz hz) (fun S' g' k => (lw_197 (LI_c h) k).2 rfl)
theorem w_orderAtX (h : LI S g cap P A sn H) (tz : ti z = z) (hz : ¬ 0 ≤ z) : LC X S g cap 205 (d + 301) [.ref 0, .int (iI z)] vBad P A sn H 1 :=
  LC_wr (lc_C h ((q_orderAt (d := d + 288) h.1 h.2.2 (LI_sl h) tz).1 hz)) (fun S' g' k => (lw_205 (LI_c h) k).2 rfl)
theorem w_refsX (h : LI S g cap P A sn H) (tz : ti z = z) (hz : ¬ isB z) : LC X S g cap 207 (d + 301) [.ref 0, .int (iI z)] vBad P A sn H 1 :=
  LC_wr (lc_C h ((q_refs (d := d + 288) h.1 h.2.2 (LI_sl h) tz).1 hz).1) (fun S' g' k => (lw_207 (LI_c h) k).2 rfl)
/-! changes -/
theorem w_setNumber (h : LI S g cap P A sn H) (tz : ti z = z) (tv : ti v = v) :
    (¬ (isB z ∧ -999999 ≤ v ∧ v ≤ 999999) → LC X S g cap 210 (d + 301) [.ref 0, .int (iI z), .int (iI v)] vBad P A sn H 1) ∧
    (isB z ∧ -999999 ≤ v ∧ v ≤ 999999 → LC X S g cap 210 (d + 301) [.ref 0, .int (iI z), .int (iI v)] (vI (chN A z 1 v [])) P (chS A z 1 v []) sn (recH A H) 1) :=
  ⟨fun e => LC_wr (lc_C h ((q_setNumber (d := d) h.1 h.2.2 tz tv).1 e)) (fun S' g' k => (lw_210 (LI_c h) k).2 rfl), fun e => LC_wr (lc_C h ((q_setNumber (d := d) h.1 h.2.2 tz tv).2 e)) (fun S' g' k => (lw_210 (LI_c h) k).1 _ rfl)⟩
theorem w_clear (h : LI S g cap P A sn H) (tz : ti z = z) :
    (¬ isB z → LC X S g cap 180 (d + 301) [.ref 0, .int (iI z)] vBad P A sn H 1) ∧
    (isB z → LC X S g cap 180 (d + 301) [.ref 0, .int (iI z)] (vI (chN A z 0 0 [])) P (chS A z 0 0 []) sn (recH A H) 1) :=
  ⟨fun e => LC_wr (lc_C h ((q_clear (d := d) h.1 h.2.2 tz).1 e)) (fun S' g' k => (lw_180 (LI_c h) k).2 rfl), fun e => LC_wr (lc_C h ((q_clear (d := d) h.1 h.2.2 tz).2 e)) (fun S' g' k => (lw_180 (LI_c h) k).1 _ rfl)⟩
theorem w_enter (h : LI S g cap P A sn H) (tz : ti z = z) :
    (¬ isB z → LC X S g cap 188 (d + 301) [.ref 0, .int (iI z)] vBad P A sn H 1) ∧
    (isB z → (∀ a, ctF (pdc P) 0 0 = .inl a → LC X S g cap 188 (d + 301) [.ref 0, .int (iI z)] vNot P A sn H 1) ∧
      (∀ a kd nu tk, ctF (pdc P) 0 0 = .inr (a, kd, nu, tk) → LC X S g cap 188 (d + 301) [.ref 0, .int (iI z)] (vI (chN A z kd nu tk)) P (chS A z kd nu tk) sn (recH A H) 1)) := by
  have q := q_enter (X := X) (d := d) h.1 h.2.2 tz (ctF_lenP h.2.2.1.1 (PdC_ch h.2.2.1))
  exact ⟨fun e => LC_wr (lc_C h (q.1 e)) (fun S' g' k => (lw_188 (LI_c h) k).2.1 rfl), fun e => ⟨fun a ha => LC_wr (lc_C h ((q.2 e).1 a ha)) (fun S' g' k => (lw_188 (LI_c h) k).2.2 rfl), fun a kd nu tk ha => LC_wr (lc_C h ((q.2 e).2 a kd nu tk ha)) (fun S' g' k => (lw_188 (LI_c h) k).1 _ rfl)⟩⟩
theorem w_runOrders (h : LI S g cap P A sn H) :
    (¬ osF (pdc P) P.1 60 0 = -1 → LC X S g cap 209 (d + 301) [.ref 0] vNot P A sn H 1) ∧
    (osF (pdc P) P.1 60 0 = -1 → LC X S g cap 209 (d + 301) [.ref 0] (vI (orA (pdc P) P.1 60 0 A).2) P (ruS P A) sn (recH A H) 1) := by
  have q := q_runOrders (X := X) (d := d) h.1 h.2.2 (orF_lenP h.2.2.1.1 (PdC_ch h.2.2.1))
  exact ⟨fun e => LC_wr (lc_C h (q.1 e)) (fun S' g' k => (lw_209 (LI_c h) k).2 rfl), fun e => LC_wr (lc_C h (q.2 e)) (fun S' g' k => (lw_209 (LI_c h) k).1 _ rfl)⟩
theorem w_copyBlock {fi la to : Int} (h : LI S g cap P A sn H) (tf : ti fi = fi) (tl : ti la = la) (tt : ti to = to) :
    ((¬ (isB fi ∧ isB la ∧ isB to) ∨ (isB fi ∧ isB la ∧ isB to ∧ (la / 10 < fi / 10 ∨ la % 10 < fi % 10))) → LC X S g cap 182 (d + 301) [.ref 0, .int (iI fi), .int (iI la), .int (iI to)] vBad P A sn H 1) ∧
    (isB fi ∧ isB la ∧ isB to → ¬ (la / 10 < fi / 10 ∨ la % 10 < fi % 10) → ¬ (to / 10 + (la / 10 - fi / 10) < 20 ∧ to % 10 + (la % 10 - fi % 10) < 10) → LC X S g cap 182 (d + 301) [.ref 0, .int (iI fi), .int (iI la), .int (iI to)] vNot P A sn H 1) ∧
    (isB fi ∧ isB la ∧ isB to → ¬ (la / 10 < fi / 10 ∨ la % 10 < fi % 10) → (to / 10 + (la / 10 - fi / 10) < 20 ∧ to % 10 + (la % 10 - fi % 10) < 10) → LC X S g cap 182 (d + 301) [.ref 0, .int (iI fi), .int (iI la), .int (iI to)] (vI ((la / 10 - fi / 10 + 1) * (la % 10 - fi % 10 + 1))) P (cbkS A fi to (la / 10 - fi / 10 + 1) (la % 10 - fi % 10 + 1)) sn (recH A H) 1) := by
  have q := q_copyBlock (X := X) (d := d) h.1 (LI_m h) h.2.2 tf tl tt
  refine ⟨fun e => ?_, fun e1 e2 e3 => LC_wr (lc_C h (q.2.2.1 e1 e2 e3)) (fun S' g' k => (lw_182 (LI_c h) k).2.2 rfl), fun e1 e2 e3 => LC_wr (lc_C h (q.2.2.2 e1 e2 e3)) (fun S' g' k => (lw_182 (LI_c h) k).1 _ rfl)⟩
  rcases e with e | ⟨e1, e2, e3, e4⟩
  · exact LC_wr (lc_C h (q.1 e)) (fun S' g' k => (lw_182 (LI_c h) k).2.1 rfl)
  · exact LC_wr (lc_C h (q.2.1 ⟨e1, e2, e3⟩ e4)) (fun S' g' k => (lw_182 (LI_c h) k).2.1 rfl)
theorem w_moveCell (h : LI S g cap P A sn H) (tf : ti f = f) (tx : ti x = x) :
    (¬ (isB f ∧ isB x ∧ ¬ f = x) → LC X S g cap 202 (d + 301) [.ref 0, .int (iI f), .int (iI x)] vBad P A sn H 1) ∧
    (isB f ∧ isB x ∧ ¬ f = x → LC X S g cap 202 (d + 301) [.ref 0, .int (iI f), .int (iI x)] (vI (moN A f x)) P (moS A f x) sn (recH A H) 1) := by
  have q := q_moveCell (X := X) (d := d) h.1 (LI_m h) h.2.2 tf tx
  exact ⟨fun e => LC_wr (lc_C h (q.1 e)) (fun S' g' k => (lw_202 (LI_c h) k).2 rfl), fun e => LC_wr (lc_C h (q.2 e)) (fun S' g' k => (lw_202 (LI_c h) k).1 _ rfl)⟩
theorem w_insertRow (h : LI S g cap P A sn H) (tz : ti z = z) :
    (¬ (0 ≤ z ∧ z ≤ lnL 1) → LC X S g cap 196 (d + 301) [.ref 0, .int (iI z)] vBad P A sn H 1) ∧
    (0 ≤ z ∧ z ≤ lnL 1 → ¬ fiN A.1 1 (lnL 1) (lnL 1) = 0 → LC X S g cap 196 (d + 301) [.ref 0, .int (iI z)] vNot P A sn H 1) ∧
    (0 ≤ z ∧ z ≤ lnL 1 → fiN A.1 1 (lnL 1) (lnL 1) = 0 → LC X S g cap 196 (d + 301) [.ref 0, .int (iI z)] (vI (fiN A.1 1 z (lnL 1))) P (liS A 1 z 1) sn (recH A H) 1) := by
  have q := q_insert (X := X) (d := d) (u := 1) h.1 (LI_m h) h.2.2 (.inr rfl) tz
  exact ⟨fun e => LC_wr (lc_C h (q.1 e)) (fun S' g' k => (lw_196 (LI_c h) k).2.1 rfl), fun e e2 => LC_wr (lc_C h (q.2.1 e e2)) (fun S' g' k => (lw_196 (LI_c h) k).2.2 rfl), fun e e2 => LC_wr (lc_C h (q.2.2 e e2)) (fun S' g' k => (lw_196 (LI_c h) k).1 _ rfl)⟩
theorem w_insertCol (h : LI S g cap P A sn H) (tz : ti z = z) :
    (¬ (0 ≤ z ∧ z ≤ lnL 0) → LC X S g cap 195 (d + 301) [.ref 0, .int (iI z)] vBad P A sn H 1) ∧
    (0 ≤ z ∧ z ≤ lnL 0 → ¬ fiN A.1 0 (lnL 0) (lnL 0) = 0 → LC X S g cap 195 (d + 301) [.ref 0, .int (iI z)] vNot P A sn H 1) ∧
    (0 ≤ z ∧ z ≤ lnL 0 → fiN A.1 0 (lnL 0) (lnL 0) = 0 → LC X S g cap 195 (d + 301) [.ref 0, .int (iI z)] (vI (fiN A.1 0 z (lnL 0))) P (liS A 0 z 1) sn (recH A H) 1) := by
  have q := q_insert (X := X) (d := d) (u := 0) h.1 (LI_m h) h.2.2 (.inl rfl) tz
  exact ⟨fun e => LC_wr (lc_C h (q.1 e)) (fun S' g' k => (lw_195 (LI_c h) k).2.1 rfl), fun e e2 => LC_wr (lc_C h (q.2.1 e e2)) (fun S' g' k => (lw_195 (LI_c h) k).2.2 rfl), fun e e2 => LC_wr (lc_C h (q.2.2 e e2)) (fun S' g' k => (lw_195 (LI_c h) k).1 _ rfl)⟩
theorem w_deleteRow (h : LI S g cap P A sn H) (tz : ti z = z) :
    (¬ (0 ≤ z ∧ z ≤ lnL 1) → LC X S g cap 184 (d + 301) [.ref 0, .int (iI z)] vBad P A sn H 1) ∧
    (0 ≤ z ∧ z ≤ lnL 1 → LC X S g cap 184 (d + 301) [.ref 0, .int (iI z)] (vI (fiN A.1 1 z z)) P (liS A 1 z 0) sn (recH A H) 1) := by
  have q := q_delete (X := X) (d := d) (u := 1) h.1 (LI_m h) h.2.2 (.inr rfl) tz
  exact ⟨fun e => LC_wr (lc_C h (q.1 e)) (fun S' g' k => (lw_184 (LI_c h) k).2 rfl), fun e => LC_wr (lc_C h (q.2 e)) (fun S' g' k => (lw_184 (LI_c h) k).1 _ rfl)⟩
theorem w_deleteCol (h : LI S g cap P A sn H) (tz : ti z = z) :
    (¬ (0 ≤ z ∧ z ≤ lnL 0) → LC X S g cap 183 (d + 301) [.ref 0, .int (iI z)] vBad P A sn H 1) ∧
    (0 ≤ z ∧ z ≤ lnL 0 → LC X S g cap 183 (d + 301) [.ref 0, .int (iI z)] (vI (fiN A.1 0 z z)) P (liS A 0 z 0) sn (recH A H) 1) := by
  have q := q_delete (X := X) (d := d) (u := 0) h.1 (LI_m h) h.2.2 (.inl rfl) tz
  exact ⟨fun e => LC_wr (lc_C h (q.1 e)) (fun S' g' k => (lw_183 (LI_c h) k).2 rfl), fun e => LC_wr (lc_C h (q.2 e)) (fun S' g' k => (lw_183 (LI_c h) k).1 _ rfl)⟩
theorem w_goBack (h : LI S g cap P A sn H) :
    (sn = none → LC X S g cap 193 (d + 301) [.ref 0] vNot P A sn H 1) ∧
    (∀ B, sn = some B → LC X S g cap 193 (d + 301) [.ref 0] (vI (qFil B)) P B sn (recH A H) 1) := by
  have q := q_goBack (X := X) (d := d + 288) h.1 h.2.2
  exact ⟨fun e => LC_wr (lc_C h (q.1 e)) (fun S' g' k => (lw_193 (LI_c h) k).2 rfl), fun B e => LC_wr (lc_C h (q.2 B e)) (fun S' g' k => (lw_193 (LI_c h) k).1 _ rfl)⟩
theorem w_undo (h : LI S g cap P A sn H) :
    (H = [] → LC X S g cap 212 (d + 301) [.ref 0] vNot P A sn H 1) ∧
    (∀ B H', H = B :: H' → LC X S g cap 212 (d + 301) [.ref 0] (vI H'.length) P B sn H' 1) := by
  have q := q_undo (X := X) (d := d + 288) h.1 h.2.2
  exact ⟨fun e => LC_wr (lc_C h (q.1 e)) (fun S' g' k => (lw_212 (LI_c h) k).2 rfl), fun B H' e => LC_wr (lc_C h (q.2 B H' e)) (fun S' g' k => (lw_212 (LI_c h) k).1 _ rfl)⟩
theorem w_type (h : LI S g cap P A sn H) (hz : 32 ≤ z ∧ z ≤ 126) (hl : P.1 < 60) : LC X S g cap 211 (d + 301) [.ref 0, .int (iI z)] (vI (P.1 + 1)) (P.1 + 1, fun i => if i = P.1 then z else P.2 i) A sn H 1 :=
  LC_wr (lc_C h ((q_type (d := d + 288) h.1 h.2.2 (ti_eq (by omega) (by omega))).2.2 hz (by omega))) (fun S' g' k => (lw_211 (LI_c h) k).1 _ rfl)
end
