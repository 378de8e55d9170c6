/-! THE LAW'S START: the world beside the heap out of the Statement's premises; the claim out of a run of the light machine -/
section
def xfl0 : List Cond := flatC (Jvm.Cond.and given_1 narrow_1)
def xtb : List Nat := [380, 388, 396, 404, 414, 422, 372]
def xTk (i : Nat) : Term := .string "CalculatedSheet$Token" (((xTx[i]?).map (fun q => q.1)).getD 0)
def xTv (i : Nat) : Term := .field (xTk i) "java/lang/String" "value" "[B"
def xck15 (i : Nat) : Bool := match xtb[i]?, xTx[i]? with
  | some q, some z => decide (xfl0[q]? = some (.exactly (xTk i) "java/lang/String")) && decide (xfl0[q + 1]? = some (.eq (.field (xTk i) "java/lang/String" "coder" "B") (.int 0))) && decide (xfl0[q + 2]? = some (.arrayOf (xTv i) .byte)) &&
    decide (xfl0[q + 3]? = some (.eq (.length (xTv i)) (.int (Int32.ofNat (xTl.getD i 0))))) && (List.range (xTl.getD i 0)).all (fun j => decide (xfl0[q + 4 + j]? = some (.eq (.elem (xTv i) (.int (Int32.ofNat j))) (.int ((xTb.getD i []).getD j 0))))) && decide (xTl.getD i 0 < 10) && decide (Cond.stringRef "CalculatedSheet$Token" z.1 z.2 ∈ lw_tbl)
  | _, _ => false
theorem xck15_ok : (List.range 7).all xck15 = true := by decide +kernel
def xDg (k : Nat) : Term := .static "java/lang/Integer" (if k = 1 then "DigitOnes" else "DigitTens") "[B"
def xck16 (k q : Nat) : Bool := decide (xfl0[q]? = some (.arrayOf (xDg k) .byte)) && decide (xfl0[q + 1]? = some (.eq (.length (xDg k)) (.int (Int32.ofNat 100)))) && (List.range 100).all (fun j => decide (xfl0[q + 2 + j]? = some (.eq (.elem (xDg k) (.int (Int32.ofNat j))) (.int (xby k j)))))
theorem xck16_1 : xck16 1 12 = true := by decide +kernel
theorem xck16_2 : xck16 2 115 = true := by decide +kernel
def xck17 (r : Nat × Nat × Nat × Nat × Nat × Nat × String × Nat × Nat) : Bool := decide (Cond.exactly (.string (xClN (xMo (r.1 / 100000))) r.2.2.2.1) "java/lang/String" ∈ xfl0) && decide (Cond.stringRef (xClN (xMo (r.1 / 100000))) r.2.2.2.1 r.2.2.2.2.2.2.1 ∈ lw_tbl)
theorem xck17_ok : xTt.all xck17 = true := by decide +kernel
/-- each class can be known -/
def xck18 (ci : Nat) : Bool := match vwCl[ci]? with
  | some q => xNt.any (fun r => r.2.1 == ci && decide (lw_tbl[r.2.2.2.1]? = some (.instantiable q.1 q.2.2)))
  | none => false
theorem xck18_ok : (List.range 11).all xck18 = true := by decide +kernel
variable {s : State} {args : Array Value} {A : Nat → Prop}
theorem xexact {t : Term} {nm : String} (h : (Cond.exactly t nm).before args s = true) : ∃ a, t.eval args s none [] s = some (.ref a) := by
  obtain ⟨a, c, cA, kA, q1, -⟩ := Cond.exactly_spec (args := args) (first := s) (o := none) (s := s) (idx := []) (t := t) (cls := nm) h
  exact ⟨a, q1⟩
theorem xsel_private {y : MethodName} (hSB : (Cond.instantiable "java/lang/StringBuilder" 4).before args s = true) (hex : (Cond.selects "java/lang/StringBuilder" ⟨"java/lang/AbstractStringBuilder", "isLatin1", "()Z"⟩ ⟨"java/lang/AbstractStringBuilder", "isLatin1", "()Z"⟩).before args s = true) (hy : y.cls = "java/lang/AbstractStringBuilder")
    (hpriv : (Cond.privateMethod y).before args s = true) (hinst : (Cond.instanceMethod y).before args s = true) : (Cond.selects "java/lang/StringBuilder" y y).before args s = true := by
  obtain ⟨c, k, hc, hk, -⟩ := Cond.instantiable_spec hSB
  obtain ⟨c2, r2, m2, q1, q2, q3, q4, kP, hkP, hkPi⟩ := Cond.selects_spec (args := args) (first := s) (o := none) (s := s) (idx := []) hex
  obtain ⟨mk, methM, hnamed, hmethM, -, -⟩ := Cond.instanceMethod_spec hinst
  have hfound : s.methodFound? y.cls y.name y.desc = some mk := State.methodFound?_of_named hnamed ⟨by rw [hy]; decide, by rw [hy]; decide⟩
  have hcls : mk.cls = m2.cls := by
    have h1 := findClass_of_methodNamed hnamed
    have h2 := findClass_of_methodNamed q3
    rw [hy] at h1
    exact Option.some.inj (h1.symm.trans h2)
  have hsel : selectMethod {} s.vm c mk = .method mk := selectMethod_private hmethM (Cond.privateMethod_at hpriv mk methM hnamed hmethM)
  simp only [Cond.before, Cond.holds, Cond.value, hc, hfound, hnamed, hsel, hcls, hkP]
  simp; exact hkPi
theorem xU_true (hts : ∀ w ∈ lw_tbl, w.before args s = true) : ∀ w ∈ xU, w.before args s = true := by
  have hSB := hts (.instantiable "java/lang/StringBuilder" 4) (List.mem_of_getElem? (i := 280) (by decide +kernel))
  have hex := hts (.selects "java/lang/StringBuilder" ⟨"java/lang/AbstractStringBuilder", "isLatin1", "()Z"⟩ ⟨"java/lang/AbstractStringBuilder", "isLatin1", "()Z"⟩) (List.mem_of_getElem? (i := 622) (by decide +kernel))
  intro w hw
  unfold xU at hw
  simp only [xSelU, List.map_cons, List.map_nil, List.mem_cons, List.not_mem_nil, or_false] at hw
  rcases hw with rfl | rfl | rfl | rfl
  · exact xsel_private hSB hex rfl (hts _ (List.mem_of_getElem? (i := 589) (by decide +kernel))) (hts _ (List.mem_of_getElem? (i := 590) (by decide +kernel)))
  · exact xsel_private hSB hex rfl (hts _ (List.mem_of_getElem? (i := 593) (by decide +kernel))) (hts _ (List.mem_of_getElem? (i := 594) (by decide +kernel)))
  · exact xsel_private hSB hex rfl (hts _ (List.mem_of_getElem? (i := 684) (by decide +kernel))) (hts _ (List.mem_of_getElem? (i := 685) (by decide +kernel)))
  · exact xsel_private hSB hex rfl (hts _ (List.mem_of_getElem? (i := 688) (by decide +kernel))) (hts _ (List.mem_of_getElem? (i := 689) (by decide +kernel)))
theorem xarr {ty : FieldType} (h : (Cond.arrayClass ty).before args s = true) (hno : ∀ C, ty ≠ .object C) : ∃ cA, ArrOfT s cA ty ∧ va_RA s cA ty := by
  obtain ⟨c, k, comp, h1, h2, h3⟩ := Cond.arrayClass_spec (args := args) (first := s) (o := none) (s := s) (idx := []) h
  refine ⟨c, fun N z => ⟨(fun k h => by cases h), k, h2, comp, h3⟩, ?_⟩
  unfold va_RA
  split
  · exact absurd rfl (hno _)
  · exact h1
theorem xarrQ {C : String} (h : va_AO C s) : ∃ cA, ArrOfT s cA (.object C) ∧ va_RA s cA (.object C) := by
  obtain ⟨comp, c, k, h1, -, h3, h4, h5⟩ := Cond.arrayOver_spec (args := #[]) (first := s) (o := none) (s := s) (idx := []) h
  exact ⟨c, fun N z => ⟨(fun k h => by cases h), k, h3, comp, h4⟩, k, comp, h3, h4, h1, h5⟩
theorem xstart {b L : Nat} {xs : Nat → Int32} (hts : ∀ w ∈ lw_tbl, w.before args s = true) (hgv : (Jvm.Cond.and given_1 narrow_1).before args s = true) (hX : va_X b L xs s s.heap) (hb : b < s.heap.size) :
    ∃ (nul : Bool) (D : va_G) (D2 : Nat → ClassId) (ae : Nat → Nat), ae 0 = b ∧ xK (L, xs, nul) D D2 (fun q => s.heap.size ≤ q) ae s s.heap := by
  have hA : ∀ a : Nat, a < s.heap.size → ¬ (fun q => s.heap.size ≤ q) a := fun a ha h => by have : s.heap.size ≤ a := h; omega
  have hfl : ∀ {w : Cond} {q : Nat}, xfl0[q]? = some w → w.before args s = true := fun h => flat_of_before _ hgv _ (List.mem_of_getElem? h)
  have hwd : ∀ {w : Cond} {q : Nat}, lw_tbl[q]? = some w → w.before args s = true := fun h => hts _ (List.mem_of_getElem? h)
  -- classes
  have hcl : ∀ ci : Nat, ∃ q : ClassId × (Nat → Nat), ∀ z : vw_C, vwCl[ci]? = some z → u_Kn s z.1 z.2.1 z.2.2 q.1 q.2 := by
    intro ci
    cases hq : vwCl[ci]? with
    | none => exact ⟨(0, fun _ => 0), fun z hz => by cases hz⟩
    | some z =>
      have hci : ci < 11 := (List.getElem?_eq_some_iff.mp hq).1
      have h1 := List.all_eq_true.mp xck18_ok ci (List.mem_range.mpr hci)
      unfold xck18 at h1
      rw [hq] at h1
      obtain ⟨r, -, h2⟩ := List.any_eq_true.mp h1
      rw [Bool.and_eq_true, decide_eq_true_eq] at h2
      have hin : ∀ w ∈ xG, w.before args s = true := fun w hw => by
        rcases List.mem_append.mp hw with hw | hw
        · exact xU_true hts w hw
        · exact hts w (List.mem_filter.mp hw).1
      obtain ⟨cC, iS, hk⟩ := u_known hin (xCl_ok hq).1 (hwd h2.2)
      exact ⟨(cC, iS), fun z' hz => by cases hz; exact hk⟩
  obtain ⟨fD, hD⟩ := Classical.axiomOfChoice hcl
  -- rows
  have hAO : va_AO "CalculatedSheet$State" s := va_AO.of (hwd (q := 266) (by decide +kernel))
  have hrow : ∀ k : Nat, ∃ cA : ClassId, (k < 5 → ArrOfT s cA (xty k) ∧ va_RA s cA (xty k)) ∧ (k = 5 → ArrOfT s cA (.object "CalculatedSheet$State") ∧ va_RA s cA (.object "CalculatedSheet$State")) := by
    intro k
    by_cases h5 : k = 5
    · obtain ⟨cA, h⟩ := xarrQ hAO
      exact ⟨cA, fun hk => by omega, fun _ => h⟩
    · by_cases hk : k < 5
      · have hw := xAw_inv hk
        have hbf : (Cond.arrayClass (xty k)).before args s = true := by
          rcases List.mem_append.mp hw with hw | hw
          · exact xU_true hts _ hw
          · exact hts _ (List.mem_filter.mp hw).1
        obtain ⟨cA, h⟩ := xarr hbf (fun C => by unfold xty; split <;> (intro h; cases h))
        exact ⟨cA, fun _ => h, fun h => absurd h h5⟩
      · exact ⟨0, fun h => absurd h hk, fun h => absurd h h5⟩
  obtain ⟨D2, hD2⟩ := Classical.axiomOfChoice hrow
  -- texts
  have htx : ∀ i : Nat, ∃ q : Nat × Nat, i < 7 → vk_S 1 [xTl.getD i 0] [xTb.getD i []] (fun _ => q.1) (fun _ => q.2) (fun q => s.heap.size ≤ q) s s.heap ∧ ∀ z, xTx[i]? = some z → vk_R "CalculatedSheet$Token" z.1 z.2 q.1 s := by
    intro i
    by_cases hi : i < 7
    · have h1 := List.all_eq_true.mp xck15_ok i (List.mem_range.mpr hi)
      unfold xck15 at h1
      split at h1
      · next q z hq hz =>
        simp only [Bool.and_eq_true, decide_eq_true_eq] at h1
        obtain ⟨⟨⟨⟨⟨⟨c1, c2⟩, c3⟩, c4⟩, c5⟩, c6⟩, c7⟩ := h1
        obtain ⟨adK, adV, h2, h3⟩ := vk_Sof (args := args) (s := s) (N := 1) (tm := fun _ => xTk i) (len := [xTl.getD i 0]) (byt := [xTb.getD i []]) (A := fun q => s.heap.size ≤ q)
          (fun j hj => by obtain rfl : j = 0 := by omega
                          show xTl.getD i 0 < 2 ^ 31
                          omega)
          (fun j hj => hfl c1) (fun j hj => hfl c2) (fun j hj => hfl c3) (fun j hj => by obtain rfl : j = 0 := by omega
                                                                                         exact hfl c4)
          (fun j hj k hk => by
            obtain rfl : j = 0 := by omega
            exact hfl (of_decide_eq_true (List.all_eq_true.mp c5 k (List.mem_range.mpr hk))))
          (fun j k hj hk hjk => absurd (by omega : j = k) hjk) hA
        refine ⟨(adK 0, adV 0), fun _ => ⟨⟨fun j hj => ?_, fun j k hj hk _ => by omega⟩, fun z' hz' => ?_⟩⟩
        · obtain rfl : j = 0 := by omega
          exact h2.1 0 (Nat.lt_succ_self 0)
        · rw [hz] at hz'
          cases hz'
          have h4 := h3 0 (Nat.lt_succ_self 0)
          unfold xTk at h4
          rw [hz] at h4
          exact vk_R.of (hts _ c7) h4
      · cases h1
    · exact ⟨(0, 0), fun h => absurd h hi⟩
  obtain ⟨fT, hT⟩ := Classical.axiomOfChoice htx
  -- digits
  have hdg : ∀ (k q : Nat), xck16 k q = true → ∃ t, (xDg k).eval args s none [] s = some (.ref t) ∧ va_T .byte t 100 (fun j => .int (xby k j)) (fun q => s.heap.size ≤ q) s s.heap := by
    intro k q h
    unfold xck16 at h
    simp only [Bool.and_eq_true, decide_eq_true_eq] at h
    obtain ⟨⟨c1, c2⟩, c3⟩ := h
    exact va_Tof (by decide) (hfl c1) (va_eqt (hfl c2)) (fun j hj => va_eqt (hfl (of_decide_eq_true (List.all_eq_true.mp c3 j (List.mem_range.mpr hj))))) hA
  obtain ⟨t1, e1, hT1⟩ := hdg 1 12 xck16_1
  obtain ⟨t2, e2, hT2⟩ := hdg 2 115 xck16_2
  have hZ0 := va_Zof (A := fun q => s.heap.size ≤ q) (hwd (q := 289) (w := .laysStatic "java/lang/String" "COMPACT_STRINGS" "Z") (by decide +kernel)) (hts (.initialized "java/lang/String") (by decide +kernel)) (va_eqi (z := 1) (hfl (q := 4) (by decide +kernel))) hA
  have hini : (Cond.initialized "java/lang/Integer").before args s = true := hts _ (by decide +kernel)
  have hZ1 := va_Zref (A := fun q => s.heap.size ≤ q) (hwd (q := 731) (w := .laysStatic "java/lang/Integer" "DigitOnes" "[B") (by decide +kernel)) hini e1 hA
  have hZ2 := va_Zref (A := fun q => s.heap.size ≤ q) (hwd (q := 733) (w := .laysStatic "java/lang/Integer" "DigitTens" "[B") (by decide +kernel)) hini e2 hA
  obtain ⟨v3, hv3, hr3⟩ := Cond.isRef_spec (hfl (q := 7) (w := .isRef (.static "jdk/internal/util/Preconditions" "SIOOBE_FORMATTER" "Ljava/util/function/BiFunction;")) (by decide +kernel))
  have hZ3 := va_Zof (A := fun q => s.heap.size ≤ q) (hwd (q := 661) (w := .laysStatic "jdk/internal/util/Preconditions" "SIOOBE_FORMATTER" "Ljava/util/function/BiFunction;") (by decide +kernel)) (hts (.initialized "jdk/internal/util/Preconditions") (by decide +kernel)) hv3 hA
  have h3 : ∃ (nul : Bool) (t3 : Nat), v3 = if nul = true then .null else .ref t3 := by
    cases v3 <;> first | exact ⟨true, 0, rfl⟩ | exact ⟨false, _, rfl⟩ | cases hr3
  obtain ⟨nul, t3, rfl⟩ := h3
  let ae : Nat → Nat := fun k => if k = 0 then b else if k = 1 then t1 else if k = 2 then t2 else if k = 3 then t3 else if k % 2 = 0 then (fT ((k - 10) / 2)).1 else (fT ((k - 11) / 2)).2
  have hK : ∀ i : Nat, ae (10 + 2 * i) = (fT i).1 := fun i => by
    show (if 10 + 2 * i = 0 then b else if 10 + 2 * i = 1 then t1 else if 10 + 2 * i = 2 then t2 else if 10 + 2 * i = 3 then t3 else if (10 + 2 * i) % 2 = 0 then (fT ((10 + 2 * i - 10) / 2)).1 else _) = _
    rw [if_neg (by omega), if_neg (by omega), if_neg (by omega), if_neg (by omega), if_pos (by omega), show (10 + 2 * i - 10) / 2 = i by omega]
  have hV : ∀ i : Nat, ae (11 + 2 * i) = (fT i).2 := fun i => by
    show (if 11 + 2 * i = 0 then b else if 11 + 2 * i = 1 then t1 else if 11 + 2 * i = 2 then t2 else if 11 + 2 * i = 3 then t3 else if (11 + 2 * i) % 2 = 0 then _ else (fT ((11 + 2 * i - 11) / 2)).2) = _
    rw [if_neg (by omega), if_neg (by omega), if_neg (by omega), if_neg (by omega), if_neg (by omega), show (11 + 2 * i - 11) / 2 = i by omega]
  refine ⟨nul, (fun ci => (fD ci).1, fun ci => (fD ci).2), D2, ae, rfl, ⟨⟨fun ci z hz => hD ci z hz, fun k z hz => ?_⟩, fun _ h => h, hAO, fun w hw hb => ?_, va_Nc.of (args := args) (hfl (q := 236) (by decide +kernel))⟩, ⟨hX, hb, hA b hb⟩, ⟨fun i hi => ?_, fun i z hz => ?_⟩, ⟨fun k hk => ?_, fun i hi => ?_⟩, fun r hr => ?_, ?_, ?_⟩
  · unfold xtys at hz
    match k, hz with
    | 0, hz => cases hz; exact (hD2 0).1 (by omega)
    | 1, hz => cases hz; exact (hD2 1).1 (by omega)
    | 2, hz => cases hz; exact (hD2 2).1 (by omega)
    | 3, hz => cases hz; exact (hD2 3).1 (by omega)
    | 4, hz => cases hz; exact (hD2 4).1 (by omega)
    | 5, hz => cases hz; exact (hD2 5).2 rfl
  · refine va_Nw.of ?_ (hts w hw)
    unfold xbk at hb
    split at hb <;> first | rfl | cases hb
  · have h := (hT i hi).1
    show vk_S 1 _ _ (fun _ => ae (10 + 2 * i)) (fun _ => ae (11 + 2 * i)) _ _ _
    rw [hK, hV]
    exact h
  · have hi : i < 7 := (List.getElem?_eq_some_iff.mp hz).1
    rw [hK]
    exact (hT i hi).2 z hz
  · rcases hk with rfl | rfl
    · exact hT1
    · exact hT2
  · match i, hi with
    | 0, _ => exact hZ0
    | 1, _ => exact hZ1
    | 2, _ => exact hZ2
    | 3, _ =>
      have : xv id ae (xsv (L, xs, nul) 3) = if nul = true then .null else .ref t3 := by
        cases nul <;> rfl
      rw [this]
      exact hZ3
  · have h1 := List.all_eq_true.mp xck17_ok r hr
    unfold xck17 at h1
    rw [Bool.and_eq_true, decide_eq_true_eq, decide_eq_true_eq] at h1
    obtain ⟨sa, hsa⟩ := xexact (flat_of_before _ hgv _ h1.1)
    exact ⟨sa, vk_R.of (hts _ h1.2) hsa⟩
  · exact vx_Zqof (hwd (q := 410) (w := .laysStatic Bundle.tN "UNASSIGNED_STACK" Bundle.steD) (by decide +kernel)) (hts (.initialized Bundle.tN) (by decide +kernel)) (hfl (q := 5) (w := .isRef (.static Bundle.tN "UNASSIGNED_STACK" Bundle.steD)) (by decide +kernel)) hA
  · exact vx_Zqof (hwd (q := 412) (w := .laysStatic Bundle.tN "SUPPRESSED_SENTINEL" Bundle.listD) (by decide +kernel)) (hts (.initialized Bundle.tN) (by decide +kernel)) (hfl (q := 6) (w := .isRef (.static Bundle.tN "SUPPRESSED_SENTINEL" Bundle.listD)) (by decide +kernel)) hA
end
