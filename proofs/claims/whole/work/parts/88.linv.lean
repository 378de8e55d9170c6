/-! The law: what holds between its calls -/
section
variable {X : xX} {S S' : xLm} {g g' : xGm} {P P' : Pd} {A A' : Sh} {sn sn' : Option Sh} {H H' : List Sh} {D d : Nat}
theorem MdS_congr {m : Nat} (h : ∀ x, m ≤ x → x ≤ m + 24 → S'.1 x = S.1 x) (hS : MdS S m) : MdS S' m := by
  unfold MdS at *
  rw [show S'.1 m = S.1 m from h m (by omega) (by omega), h (m + 1) (by omega) (by omega), h (m + 2) (by omega) (by omega), h (m + 3) (by omega) (by omega), h (m + 4) (by omega) (by omega), h (m + 5) (by omega) (by omega), h (m + 6) (by omega) (by omega), h (m + 7) (by omega) (by omega), h (m + 8) (by omega) (by omega), h (m + 9) (by omega) (by omega), h (m + 10) (by omega) (by omega), h (m + 11) (by omega) (by omega), h (m + 12) (by omega) (by omega), h (m + 13) (by omega) (by omega), h (m + 14) (by omega) (by omega), h (m + 15) (by omega) (by omega), h (m + 16) (by omega) (by omega), h (m + 17) (by omega) (by omega), h (m + 18) (by omega) (by omega), h (m + 19) (by omega) (by omega), h (m + 20) (by omega) (by omega), h (m + 21) (by omega) (by omega), h (m + 22) (by omega) (by omega), h (m + 23) (by omega) (by omega), h (m + 24) (by omega) (by omega)]
  exact hS
theorem MdI_rows {m : Nat} (h : ∀ x, m ≤ x → x ≤ m + 24 → g' x = g x) (hI : MdI g m P A sn H) : MdI g' m P A sn H :=
  MdI_fr (fun j hj => h _ (by omega) (by omega)) ⟨by rw [h m (by omega) (by omega)], by rw [h m (by omega) (by omega)], by rw [h m (by omega) (by omega)], by rw [h m (by omega) (by omega)], by rw [h m (by omega) (by omega)]⟩ hI
/-- the law's heap: the class at 0, the model at 73, the answers at 98; the class holds what stands first, the model what stands second -/
def LM (S : xLm) (g : xGm) (P' : Pd) (A' : Sh) (sn' : Option Sh) (H' : List Sh) (P : Pd) (A : Sh) (sn : Option Sh) (H : List Sh) : Prop := CsS S 0 1 7 23 39 45 71 73 ∧ MdS S 73 ∧ S.1 98 = .inl (1, 1) ∧ 99 ≤ S.2.1 ∧ TxI S g 71 73 ∧ CdI g 0 1 7 23 39 45 P' A' sn' H' ∧ MdI g 73 P A sn H
def LI (S : xLm) (g : xGm) (P : Pd) (A : Sh) (sn : Option Sh) (H : List Sh) : Prop := LM S g P A sn H P A sn H
def Ct (S S' : xLm) : Prop := S'.2.2.1 ≤ S.2.2.1 + 30 ∧ S'.2.2.2 ≤ S.2.2.2 + 4000
theorem LM_x (h : LM S g P' A' sn' H' P A sn H) : (∃ f, S.1 0 = .inr (10, f)) ∧ ∃ f, S.1 73 = .inr (11, f) := ⟨⟨_, h.1.1⟩, _, h.2.1.1⟩
theorem li_C {M D : Nat} {As : List Value} {out : xO} (h : LI S g P A sn H) (hc : CRs X S g 0 1 7 23 39 45 71 73 M D As out P' A' sn' H') : ∃ S' g', LM S' g' P' A' sn' H' P A sn H ∧ Ct S S' ∧ ∀ Q, Cw X D M As (hp S g) Q = Q out (hp S' g') := by
  obtain ⟨h1, h2, h3, h4, h5, h6, h7⟩ := h
  obtain ⟨S', g', ⟨x1, x2, x3, x4⟩, y1, y2, y3, y4⟩ := hc
  refine ⟨S', g', ⟨CsS_ext h1 (fun h hh => x1 h (by omega) (by omega)) x2, MdS_congr (fun x z1 z2 => x1 x (by omega) (by omega)) h2, (x1 98 (by omega) (by decide)).trans h3, by omega, y2 h5, y3, MdI_rows (fun x z1 z2 => y1 x z1 (by omega)) h7⟩, ⟨x3, x4⟩, y4⟩
theorem li_o {z : Int} (h : LM S g P' A' sn' H' P A sn H) : LM S (gs g 98 0 z) P' A' sn' H' P A sn H := by
  obtain ⟨h1, h2, h3, h4, ⟨a, cap, t1, t2, t3, t4, t5, t6, t7, t8, t9⟩, h6, h7⟩ := h
  have ea : ¬ a = 98 := by omega
  refine ⟨h1, h2, h3, h4, ⟨a, cap, t1, t2, t3, t4, t5, by rw [gs_row _ _ _ (by decide)]; exact t6, by rw [gs_row _ _ _ (by decide)]; exact t7, by rw [gs_row _ _ _ (by decide)]; exact t8, ?_⟩, CdI_high (by decide) (fun h hh => gs_row _ _ _ (by omega)) h6, MdI_rows (fun x z1 z2 => gs_row _ _ _ (by omega)) h7⟩
  unfold rg
  rw [gs_row _ _ _ ea]
  exact t9
theorem li_M {M D : Nat} {As : List Value} {th : Int} {v : Value} (h : LM S g P' A' sn' H' P A sn H) (hm : MRs X S g 73 M D As th v P' A' sn' H') : ∃ g', LI S g' P' A' sn' H' ∧ g' 73 11 = th ∧ g' 98 = g 98 ∧ ∀ Q, Cw X D M As (hp S g) Q = Q (.inl (some v)) (hp S g') := by
  obtain ⟨h1, h2, h3, h4, ⟨a, cap, t1, t2, t3, t4, t5, t6, t7, t8, t9⟩, h6, h7⟩ := h
  obtain ⟨g', f, m1, m2, m3⟩ := hm
  have ea : a < 73 ∨ 73 + 24 < a := by omega
  refine ⟨g', ⟨h1, h2, h3, h4, ⟨a, cap, t1, t2, t3, t4, t5, by rw [f 71 (by decide)]; exact t6, by rw [f 71 (by decide)]; exact t7, by rw [f 71 (by decide)]; exact t8, ?_⟩, CdI_high (by decide) (fun h hh => f h (by omega)) h6, m1⟩, m2, f 98 (by decide), m3⟩
  unfold rg
  rw [f a ea]
  exact t9
theorem c_thrown (h : MdS S 73) {th : Int} (ht : g 73 11 = th) : ∀ Q, Cw X d 230 [.ref 73] (hp S g) Q = Q (.inl (some (.int (iI th)))) (hp S g) := fun Q => by
  have s0 := h.1
  rw [e230]
  simp (config := { decide := true }) only [w_aload_n0 (pc' := 1) q230 d230_0 rfl, w_getI (pc' := 4) q230 d230_1 rfl f230_87, w_ireturn q230 d230_4 m230.2.1, gs_off, gs_off0, gs_0off, gs_2, xN_0, xN_2, xN_3, xN_6, xN_7, xN_8, xN_9, xN_10, xN_11, xN_12, xN_13, xN_14, xN_15, xN_16, xN_17, xN_18, xN_19, xN_20, xN_21, xN_22, xN_23, xN_24, xN_25, xN_26, xN_27, xN_28, xN_29, xN_30, xN_31, xN_32, xN_33, xN_34, xN_35, xN_36, xN_37, xN_38, xN_39, xN_40, xN_41, xN_42, xN_43, xN_44, xN_45, xN_46, xN_47, xN_48, xN_49, xN_50, xN_51, xN_52, xN_53, xN_54, xN_55, ti_0, ti_1, ti_2, ti_3, ti_4, ti_5, ti_6, ti_7, ti_8, ti_9, ti_10, ti_16, ti_19, ti_20, ti_29, ti_30, ti_31, ti_32, ti_35, ti_36, ti_38, ti_39, ti_40, ti_41, ti_42, ti_43, ti_44, ti_45, ti_46, ti_47, ti_48, ti_49, ti_50, ti_51, ti_52, ti_53, ti_54, ti_55, ti_56, ti_57, ti_58, ti_59, ti_60, ti_61, ti_62, ti_63, ti_64, ti_65, ti_74, ti_77, ti_126, ti_200, ti_201, ti_202, ti_203, ti_204, ti_205, ti_210, ti_255, ti_256, ti_400, ti_512, ti_600, ti_601, ti_602, ti_1000, ti_1023, ti_1024, ti_2000, ti_10000, ti_12602, ti_999999, ti_m999999, ti_m1, ti_2000000, ti_3000000, xN_1, xN_4, xN_5, xN_60, xN_61, xN_64, xN_200, xN_800, xN_12000, xN_12602, eq_self, and_self, and_true, true_and, if_true, if_false, decide_true, Nat.reduceLeDiff, xc2_int, xc2_ref, xc2_ra, xc2_null, xc2_long, xc2_none, xisaT_ref, xisaT_ra, xisaT_null, xc1T_int, xc1T_ref, xc1T_ra, xc1T_null, xsum_nil, xsum_int, xsum_ref, xsum_ra, xsum_long, xsum_double, xsum_null, xfl_nil, xfl_int, xfl_ref, xfl_ra, xfl_null, xfl_long, xfl_double, List.length_cons, List.length_nil, s0, ht, xfk, xfv, xak, xan, xcls, xsv', List.getElem?_cons_zero, List.getElem?_cons_succ, List.getD_cons_zero, List.getD_cons_succ, Option.getD_some, Option.isSome_some, if_true, if_pos, xcont, Option.toList_none, Option.toList_some, List.nil_append, List.cons_append]
theorem lcm_self (x : Int) : lcm x x = 0 := by
  unfold lcm
  rw [if_neg (by omega), if_pos rfl]
/-- how class and model agree: both answer, or both throw -/
def AgI (out : xO) (th : Int) (v : Value) : Prop := (∃ z, out = .inl (some (.int (iI z))) ∧ th = 0 ∧ v = .int (iI z)) ∨ (out = .inr 0 ∧ th = 1 ∧ ∃ y, v = .int (iI y)) ∨ (out = .inr 1 ∧ th = 2 ∧ ∃ y, v = .int (iI y))
def AgA (out : xO) (th : Int) (v : Value) : Prop := (∃ z, out = .inl (some (.int (iI z))) ∧ th = 0 ∧ v = .int (iI z)) ∨ (out = .inr 0 ∧ th = 1 ∧ ∃ y, v = .int (iI y))
def AgS (out : xO) (th : Int) (v : Value) : Prop := (∃ z, out = .inl (some (.int (iI z))) ∧ th = 0 ∧ v = .int (iI z)) ∨ (out = .inr 1 ∧ th = 1 ∧ ∃ y, v = .int (iI y))
def AgZ (out : xO) (th : Int) (v : Value) : Prop := (∃ z, (z = 0 ∨ z = 1) ∧ out = .inl (some (.int (iI z))) ∧ th = 0 ∧ v = .int (iI z)) ∨ (out = .inr 0 ∧ th = 1 ∧ ∃ y, v = .int (iI y))
def AgJ (out : xO) (th : Int) (v : Value) : Prop := (∃ z, out = .inl (some (.long (lI z))) ∧ th = 0 ∧ v = .long (lI z)) ∨ (out = .inr 0 ∧ th = 1 ∧ ∃ y, v = .long (lI y))
theorem xsc_ti (i : Int) : ti (xsc X i) = xsc X i := by
  unfold xsc
  exact congrArg Int32.toInt (iI_of _)
end
