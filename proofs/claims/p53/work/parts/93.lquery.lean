/-! p53: what the law asks of the class -/
section
variable {X : xX} {S : xLm} {g : xGm} {cap d : Nat} {P : Pd} {A : Sh} {sn : Option Sh} {H : List Sh} {z x j v u : Int}
abbrev vI (z : Int) : xO := .inl (some (.int (iI z)))
abbrev vL (z : Int) : xO := .inl (some (.long (lI z)))
abbrev vB (p : Prop) [Decidable p] : xO := .inl (some (.int (iI (if p then 1 else 0))))
theorem xcst_f {j : Int} {w : Option Value} : xcst (fltC j) (.inl w) = 0 := by
  unfold fltC
  repeat' split
  all_goals rfl
theorem ti_c {z : Int} (h : 0 ≤ z ∧ z < 200) : ti z = z := ti_eq (by omega) (by omega)
theorem k_filled (h : LI S g cap P A sn H) : LC X S g cap 6 (d + 300) [.ref 0] (vI (qFil A)) P A sn H 0 := lc_0 h (q_counters (d := d + 288) h.1 h.2.2 (LI_sl h)).1
theorem k_formulas (h : LI S g cap P A sn H) : LC X S g cap 7 (d + 300) [.ref 0] (vI (qFor A)) P A sn H 0 := lc_0 h (q_counters (d := d + 288) h.1 h.2.2 (LI_sl h)).2.1
theorem k_errors (h : LI S g cap P A sn H) : LC X S g cap 8 (d + 300) [.ref 0] (vI (qErr A)) P A sn H 0 := lc_0 h (q_counters (d := d + 288) h.1 h.2.2 (LI_sl h)).2.2.1
theorem k_latest (h : LI S g cap P A sn H) : LC X S g cap 9 (d + 300) [.ref 0] (vI A.2.2.2.1) P A sn H 0 := lc_0 h (q_counters (d := d + 288) h.1 h.2.2 (LI_sl h)).2.2.2.1
theorem k_all (h : LI S g cap P A sn H) : LC X S g cap 10 (d + 300) [.ref 0] (vI A.2.2.2.2) P A sn H 0 := lc_0 h (q_counters (d := d + 288) h.1 h.2.2 (LI_sl h)).2.2.2.2
theorem k_mean (h : LI S g cap P A sn H) : LC X S g cap 11 (d + 300) [.ref 0] (.inl (some (.double (qMea A)))) P A sn H 0 := lc_0 h (q_mean (d := d + 288) h.1 h.2.2 (LI_sl h))
theorem k_find (h : LI S g cap P A sn H) (tv : ti v = v) : LC X S g cap 12 (d + 300) [.ref 0, .int (iI v)] (vI (qFnd A v)) P A sn H 0 := lc_0 h (q_find (d := d + 288) h.1 h.2.2 (LI_sl h) tv)
theorem k_isEmpty (h : LI S g cap P A sn H) (hz : 0 ≤ z ∧ z < 200) : LC X S g cap 31 (d + 300) [.ref 0, .int (iI z)] (vB (A.1 z = 0)) P A sn H 0 := lc_0 h ((q_kind (d := d + 288) h.1 h.2.2 (ti_c hz)).2 hz).1
theorem k_isFormula (h : LI S g cap P A sn H) (hz : 0 ≤ z ∧ z < 200) : LC X S g cap 32 (d + 300) [.ref 0, .int (iI z)] (vB (A.1 z = 2)) P A sn H 0 := lc_0 h ((q_kind (d := d + 288) h.1 h.2.2 (ti_c hz)).2 hz).2
theorem k_isEmptyX (h : LI S g cap P A sn H) (tz : ti z = z) (hz : ¬ (0 ≤ z ∧ z < 200)) : LC X S g cap 31 (d + 300) [.ref 0, .int (iI z)] (.inr 0) P A sn H 1 := lc_C h ((q_kind (d := d + 288) h.1 h.2.2 tz).1 hz).1
theorem k_fault {M : Nat} (h : LI S g cap P A sn H) (hz : 0 ≤ z ∧ z < 200) (hj : 0 ≤ j ∧ j ≤ 5) (hM : fltC j = M) : LC X S g cap M (d + 300) [.ref 0, .int (iI z)] (vB (flA A z = j)) P A sn H 0 := by
  subst hM
  exact lc_0 h ((q_fault (d := d + 288) h.1 h.2.2 (LI_sl h) (ti_c hz) hj).2 hz) xcst_f
theorem k_value (h : LI S g cap P A sn H) (hz : 0 ≤ z ∧ z < 200) (hf : flA A z = 0) : LC X S g cap 35 (d + 300) [.ref 0, .int (iI z)] (vI (vlA A z)) P A sn H 0 := lc_0 h ((q_value (d := d + 288) h.1 h.2.2 (LI_sl h) (ti_c hz)).2.2 hz (by omega))
theorem k_fLength (h : LI S g cap P A sn H) (hz : 0 ≤ z ∧ z < 200) : LC X S g cap 43 (d + 300) [.ref 0, .int (iI z)] (vI (qLen A z)) P A sn H 0 := lc_0 h ((q_formulaLength (d := d + 288) h.1 (LI_m h) h.2.2 (LI_t h) (ti_c hz)).2 hz)
theorem k_fChar (h : LI S g cap P A sn H) (hz : 0 ≤ z ∧ z < 200) (tj : ti j = j) (hj : 0 ≤ j) : LC X S g cap 45 (d + 300) [.ref 0, .int (iI z), .int (iI j)] (vI (qChr A z j)) P A sn H 0 := lc_0 h ((q_formulaCharacter (d := d + 288) h.1 (LI_m h) h.2.2 (LI_t h) (ti_c hz) tj).2 ⟨hz, hj⟩)
theorem k_refs (h : LI S g cap P A sn H) (hz : 0 ≤ z ∧ z < 200) : LC X S g cap 47 (d + 300) [.ref 0, .int (iI z)] (vI (rcA A z)) P A sn H 0 := lc_0 h ((q_refs (d := d + 288) h.1 h.2.2 (LI_sl h) (ti_c hz)).2 hz).1
theorem k_refAt (h : LI S g cap P A sn H) (hz : 0 ≤ z ∧ z < 200) (tj : ti j = j) (hj : 0 ≤ j) : LC X S g cap 48 (d + 300) [.ref 0, .int (iI z), .int (iI j)] (vI (nth (rfQ A z) j 0 0 200)) P A sn H 0 := lc_0 h ((q_refAt (d := d + 288) h.1 h.2.2 (LI_sl h) (ti_c hz) tj).2 ⟨hz, hj⟩)
theorem k_deps (h : LI S g cap P A sn H) (hz : 0 ≤ z ∧ z < 200) : LC X S g cap 49 (d + 300) [.ref 0, .int (iI z)] (vI (dpA A z)) P A sn H 0 := lc_0 h ((q_refs (d := d + 288) h.1 h.2.2 (LI_sl h) (ti_c hz)).2 hz).2
theorem k_allDeps (h : LI S g cap P A sn H) (hz : 0 ≤ z ∧ z < 200) : LC X S g cap 50 (d + 300) [.ref 0, .int (iI z)] (vI (sumf (ind (reA A z)) 0 200)) P A sn H 0 := lc_0 h ((q_allDeps (d := d + 288) h.1 h.2.2 (ti_c hz)).2 hz).1
theorem k_isRing (h : LI S g cap P A sn H) (hz : 0 ≤ z ∧ z < 200) : LC X S g cap 52 (d + 300) [.ref 0, .int (iI z)] (vB (reA A z z = true)) P A sn H 0 := lc_0 h ((q_allDeps (d := d + 288) h.1 h.2.2 (ti_c hz)).2 hz).2
theorem k_depends (h : LI S g cap P A sn H) (hz : 0 ≤ z ∧ z < 200) (hx : 0 ≤ x ∧ x < 200) : LC X S g cap 51 (d + 300) [.ref 0, .int (iI z), .int (iI x)] (vB (reA A x z = true)) P A sn H 0 := lc_0 h ((q_dependsOn (d := d + 288) h.1 h.2.2 (ti_c hz) (ti_c hx)).2 ⟨hz, hx⟩)
theorem k_place (h : LI S g cap P A sn H) (hz : 0 ≤ z ∧ z < 200) : LC X S g cap 53 (d + 300) [.ref 0, .int (iI z)] (vI (plA A z)) P A sn H 0 := lc_0 h ((q_place (d := d + 288) h.1 h.2.2 (LI_sl h) (ti_c hz)).2 hz)
theorem k_orderAt (h : LI S g cap P A sn H) (tj : ti j = j) (hj : 0 ≤ j) : LC X S g cap 54 (d + 300) [.ref 0, .int (iI j)] (vI (if j < onA A then odA A j else -1)) P A sn H 0 := lc_0 h ((q_orderAt (d := d + 288) h.1 h.2.2 (LI_sl h) tj).2 hj)
theorem k_chain (h : LI S g cap P A sn H) (hz : 0 ≤ z ∧ z < 200) (hf : ¬ flA A z = 5) : LC X S g cap 55 (d + 300) [.ref 0, .int (iI z)] (vI (lnA A z)) P A sn H 0 := lc_0 h ((q_chain (d := d + 288) h.1 h.2.2 (LI_sl h) (ti_c hz)).2.2 hz hf)
theorem k_colTotal (h : LI S g cap P A sn H) (hz : 0 ≤ z ∧ z ≤ 9) : LC X S g cap 56 (d + 300) [.ref 0, .int (iI z)] (vL (qTot A 0 z)) P A sn H 0 := lc_0 h ((q_total (d := d + 288) (l := 0) h.1 h.2.2 (LI_sl h) (.inl rfl) (ti_eq (by omega) (by omega))).2 hz)
theorem k_rowTotal (h : LI S g cap P A sn H) (hz : 0 ≤ z ∧ z ≤ 19) : LC X S g cap 57 (d + 300) [.ref 0, .int (iI z)] (vL (qTot A 1 z)) P A sn H 0 := lc_0 h ((q_total (d := d + 288) (l := 1) h.1 h.2.2 (LI_sl h) (.inr rfl) (ti_eq (by omega) (by omega))).2 hz)
theorem k_without (h : LI S g cap P A sn H) (hz : 0 ≤ z ∧ z < 200) : LC X S g cap 61 (d + 300) [.ref 0, .int (iI z)] (vI (qErr (tmpA A z 0 0))) P A sn H 0 := lc_0 h ((q_errorsWithout h.1 h.2.2 (ti_c hz) (fun _ => LI_tmp X h hz (.inl rfl) (by decide) (fun _ => rfl))).2 hz)
theorem k_clearPad (h : LI S g cap P A sn H) : LC X S g cap 1 (d + 300) [.ref 0] (vI P.1) (0, P.2) A sn H 1 := lc_C h (q_clearPad (d := d + 288) h.1 h.2.2)
theorem k_contentFault (h : LI S g cap P A sn H) : LC X S g cap 2 (d + 300) [.ref 0] (vI (faC P)) P A sn H 0 := lc_0 h (q_contentFault (d := d + 288) h.1 h.2.2)
theorem k_ordersFault (h : LI S g cap P A sn H) : LC X S g cap 3 (d + 300) [.ref 0] (vI (osF (pdc P) P.1 60 0)) P A sn H 0 := lc_0 h (q_ordersFault (d := d + 288) h.1 h.2.2)
theorem k_keep (h : LI S g cap P A sn H) : LC X S g cap 4 (d + 300) [.ref 0] (vI (qFil A)) P A (some A) H 0 := lc_0 h (q_keep (d := d + 288) h.1 h.2.2)
end
