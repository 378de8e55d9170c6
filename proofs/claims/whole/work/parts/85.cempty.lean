/-! The empty sheet -/
section
variable {X : xX} {S : xLm} {g : xGm} {d c p k t o y b m : Nat}
def A0 : Sh := (fun _ => 0, fun _ => 0, fun _ => [], 0, 0)
def P0 : Pd := (0, fun _ => 0)
theorem A0_ok : ShOK A0 := fun c c1 c2 => ⟨.inl rfl, fun e => absurd (show (0 : Int) = 2 from e) (by decide), fun e => absurd (show (0 : Int) = 1 from e) (by decide)⟩
theorem z_rg {h : Nat} {lo hi : Int} (hz : g h = fun _ => 0) (h1 : lo ≤ 0) (h2 : 0 ≤ hi) : rg g h lo hi := fun i => by rw [hz]; exact ⟨h1, h2⟩
theorem z_StI {a : Nat} (hz : ∀ j, 1 ≤ j → j ≤ 5 → g (a + j) = fun _ => 0) : StI g a :=
  ⟨z_rg (hz 1 (by decide) (by decide)) (by decide) (by decide), z_rg (hz 2 (by decide) (by decide)) (by decide) (by decide), z_rg (hz 3 (by decide) (by decide)) (by decide) (by decide), z_rg (hz 4 (by decide) (by decide)) (by decide) (by decide), z_rg (hz 5 (by decide) (by decide)) (by decide) (by decide)⟩
theorem emp_onx {F : Int → Bool} {R : Int → Int → Prop} {r : Int → Int} {n : Int} (hF : ∀ c, 0 ≤ c → c < 200 → F c = false) : onx F R r n < 0 := by
  unfold onx
  rcases low_spec (p := fun c => cb (F c = true ∧ ¬ oin r n c ∧ ∀ o, 0 ≤ o → o < 200 → F o = true → R c o → oin r n o)) 200 0 with ⟨h, -⟩ | ⟨h1, h2, h3, -⟩
  · rw [h]; decide
  · have h4 := cb_iff.mp h3
    have := hF _ h1 h2
    rw [this] at h4
    exact absurd h4.1 (by decide)
theorem emp_F {K : Int → Int} (hK : ∀ c, 0 ≤ c → c < 200 → K c = 0) : ∀ c, 0 ≤ c → c < 200 → FmA K c = false := fun c c1 c2 => by
  unfold FmA
  rw [hK c c1 c2]
  rfl
theorem emp_Sol {K Er R r : Int → Int} {T : Int → List Int} (hK : ∀ c, 0 ≤ c → c < 200 → K c = 0) (hE : ∀ c, 0 ≤ c → c < 200 → Er c = 0) (hR : ∀ c, 0 ≤ c → c < 200 → R c = 0) : Sol K T Er R r 0 := by
  refine ⟨fun i h1 h2 => by omega, Int.le_refl _, emp_onx (emp_F hK), fun c c1 c2 => ⟨fun e _ => ?_, fun e _ => ?_, fun _ => hE c c1 c2, fun _ => hR c c1 c2⟩⟩
  · rw [hK c c1 c2] at e; exact absurd e (by decide)
  · rw [hK c c1 c2] at e; exact absurd e (by decide)
theorem ClI_0 (h7 : g k = fun _ => 0) (hz : ZC g k) : ClI g k ∧ StA g (k + 1) A0 := by
  obtain ⟨z1, z2, z3⟩ := hz
  have hs : ∀ j, j ≤ 5 → g (k + 1 + j) = fun _ => 0 := fun j j1 => z1 _ (by omega) (by omega) (by omega)
  have hl : ∀ j, j ≤ 8 → ¬ j = 4 → g (k + 7 + j) = fun _ => 0 := fun j j1 j2 => z1 _ (by omega) (by omega) (by omega)
  have l0 : g (k + 7) = fun _ => 0 := hl 0 (by decide) (by decide)
  have s0 : g (k + 1) = fun _ => 0 := hs 0 (by decide)
  have kz : ∀ c, 0 ≤ c → c < 200 → g (k + 1 + 1) c = 0 := fun c _ _ => by rw [hs 1 (by decide)]
  have r4 : rg g (k + 7 + 4) (-1) 199 := fun j => by
    by_cases e : 0 ≤ j ∧ j < 200
    · rw [z2 j e.1 e.2]; decide
    · rw [z3 j (by omega)]; decide
  have n4 : g (k + 7) 4 = 0 := by rw [l0]
  have n2 : g (k + 7) 2 = 0 := by rw [l0]
  have hrow : ∀ j lo hi, j ≤ 8 → ¬ j = 4 → lo ≤ 0 → 0 ≤ hi → rg g (k + 7 + j) lo hi := fun j lo hi j1 j2 h1 h2 => z_rg (hl j j1 j2) h1 h2
  have hF := emp_F kz
  refine ⟨⟨z_StI (fun j _ j2 => hs j j2), fun c c1 c2 e => ?_, ⟨fun c x c1 c2 x1 x2 => ?_, ⟨?_, fun c hc e => ?_⟩, hrow 2 0 199 (by decide) (by decide) (by decide) (by decide), ⟨by rw [n4]; decide, by rw [n4, n2]; decide⟩, ?_, hrow 5 0 200 (by decide) (by decide) (by decide) (by decide), emp_onx hF⟩, ⟨hrow 2 0 199 (by decide) (by decide) (by decide) (by decide), hrow 3 0 199 (by decide) (by decide) (by decide) (by decide), r4, hrow 5 0 200 (by decide) (by decide) (by decide) (by decide), hrow 6 0 1 (by decide) (by decide) (by decide) (by decide), hrow 7 0 199 (by decide) (by decide) (by decide) (by decide)⟩, ?_⟩, ⟨fun x x1 x2 => ⟨kz x x1 x2, fun e => absurd (show (0 : Int) = 1 from e) (by decide), fun e => absurd (show (0 : Int) = 2 from e) (by decide), fun _ => ?_⟩, ?_, ?_⟩⟩
  · rw [kz c c1 c2] at e; exact absurd e (by decide)
  · rw [bt_0 (by rw [hl 1 (by decide) (by decide)])]
    constructor
    · intro e; cases e
    · intro e
      have := e.1
      rw [kz c c1 c2] at this
      exact absurd this (by decide)
  · rw [n2]
    exact ((ind_zero 200 0).mpr (fun j j1 j2 => hF j j1 (by omega))).symm
  · rw [hF c (by omega) (by omega)] at e; cases e
  · rw [n4]
    exact ⟨n4, fun i h1 h2 => by omega, fun i h1 h2 => by omega, fun c c1 c2 _ => z2 c c1 c2, hrow 3 0 199 (by decide) (by decide) (by decide) (by decide), r4⟩
  · unfold SolC
    rw [n4]
    exact emp_Sol kz (fun c _ _ => by rw [hs 3 (by decide)]) (fun c _ _ => by rw [hs 2 (by decide)])
  · rw [hs 4 (by decide)]
  · rw [s0]; rfl
  · rw [s0]; rfl
theorem n_Model (hm : S.1 m = .inr (11, xDs 11)) (hN : S.2.1 = m + 1) (hz : g m = fun _ => 0) : ∃ (S' : xLm) (g' : xGm), MdS S' m ∧ (S'.2.1 = m + 25 ∧ (∀ h, h < m → S'.1 h = S.1 h ∧ g' h = g h) ∧ S'.2.2.1 ≤ S.2.2.1 + 30 ∧ S'.2.2.2 ≤ S.2.2.2 + 100000) ∧ MdI g' m P0 A0 none [] ∧ ∀ Q, Cw X (d + 4) 217 [.ref m] (hp S g) Q = Q (.inl none) (hp S' g') := by
  obtain ⟨S', h1, h2, h3, h4, h5, h6⟩ := a_217 (X := X) (d := d + 3) (g := g) hm hN
  have hS : MdS S' m := h1
  obtain ⟨g0, eg0⟩ : ∃ g0, g0 = GZ g (m + 1) (m + 25) := ⟨_, rfl⟩
  have hr : ∀ j, 1 ≤ j → j ≤ 24 → g0 (m + j) = fun _ => 0 := fun j j1 j2 => by rw [eg0]; exact GZ_in (by omega) (by omega)
  have hm0 : g0 m = fun _ => 0 := by rw [eg0, GZ_out (.inl (by omega))]; exact hz
  have kz : ∀ c, 0 ≤ c → c < 200 → g0 (m + 1) c = 0 := fun c _ _ => by rw [hr 1 (by decide) (by decide)]
  have hC : CeM g0 m (fun _ => []) := ⟨z_rg (hr 1 (by decide) (by decide)) (by decide) (by decide), fun c c1 c2 => ⟨.inl (kz c c1 c2), fun e => by rw [kz c c1 c2] at e; exact absurd e (by decide), fun e => by rw [kz c c1 c2] at e; exact absurd e (by decide)⟩⟩
  have hR : MoR g0 m := ⟨z_rg (hr 12 (by decide) (by decide)) (by decide) (by decide), z_rg (hr 13 (by decide) (by decide)) (by decide) (by decide), z_rg (hr 18 (by decide) (by decide)) (by decide) (by decide), z_rg (hr 19 (by decide) (by decide)) (by decide) (by decide), z_rg (hr 20 (by decide) (by decide)) (by decide) (by decide)⟩
  obtain ⟨g', f1, f2, f3, f4, f5, f6, f7, f8⟩ := m_prepares (X := X) (d := d) hS hC hR
  have q : ∀ j, 1 ≤ j → j ≤ 24 → ¬ j ∈ ([8, 9, 10, 12, 13, 19, 20] : List Nat) → g' (m + j) = fun _ => 0 := fun j j1 j2 j3 => by
    rw [f1.1 (m + j) (by omega) (fun i hi e => j3 (by rw [show j = i by omega]; exact hi))]
    exact hr j j1 j2
  have q0 : ∀ i, ¬ i = 30 → g' m i = 0 := fun i hi => by
    rw [f1.2 i (by simpa using hi), hm0]
  have e1 : g' (m + 1) = fun _ => 0 := q 1 (by decide) (by decide) (by decide)
  have kz' : ∀ c, 0 ≤ c → c < 200 → g' (m + 1) c = 0 := fun c _ _ => by rw [e1]
  have nv : ∀ c, 0 ≤ c → c < 200 → nvM g0 m c = 0 ∧ nfM g0 m c = 0 := fun c c1 c2 => by
    unfold nvM nfM
    rw [kz c c1 c2]
    exact ⟨rfl, rfl⟩
  have hrr : ∀ j, 1 ≤ j → j ≤ 6 → rgR (g' (m + j)) := fun j j1 j2 i => by
    rw [q j j1 (by omega) (by simp only [List.mem_cons, List.not_mem_nil, or_false]; omega)]
    show (-1000000000 : Int) ≤ 0 ∧ (0 : Int) ≤ 1000000000
    decide
  refine ⟨S', g', hS, ⟨h2, fun h hh => ⟨h3 h hh, ?_⟩, by omega, by omega⟩, ⟨⟨⟨by rw [q0 10 (by decide)]; decide, by rw [q0 10 (by decide)]; decide, z_rg (q 7 (by decide) (by decide) (by decide)) (by decide) (by decide)⟩, q0 10 (by decide), fun i i1 i2 => absurd i2 (by show ¬ i < 0; omega)⟩, ⟨⟨?_, f2, ?_, ?_, ⟨?_, ?_⟩, ?_, ?_⟩, ⟨⟨by rw [e1]; rfl, by rw [e1]; rfl⟩, fun c c1 c2 => ⟨kz' c c1 c2, fun e => absurd (show (0 : Int) = 1 from e) (by decide), fun e => absurd (show (0 : Int) = 2 from e) (by decide), fun _ => by rw [e1]⟩⟩, A0_ok⟩, hrr, ⟨by rw [q0 7 (by decide)]; decide, by rw [q0 8 (by decide)]; rfl, by decide, fun i B hB => by cases hB⟩, q0 2 (by decide)⟩, fun Q => ?_⟩
  · rw [f1.1 h (by omega) (fun j hj => by omega), eg0]
    exact GZ_out (.inl (by omega))
  · exact CeM_congr (by rw [e1, hr 1 (by decide) (by decide)]) hC
  · rw [f3]
    exact emp_Sol kz' (fun c c1 c2 => by rw [(f4 c c1 c2).2.2.2, (nv c c1 c2).2]) (fun c c1 c2 => by rw [(f4 c c1 c2).2.2.1, (nv c c1 c2).1])
  · rw [f3]
    exact fun i i1 i2 => by omega
  · rw [f3]
    exact fun i i1 i2 => by omega
  · exact fun c c1 c2 _ => ⟨(f4 c c1 c2).1, (f4 c c1 c2).2.1⟩
  · intro c x c1 c2 x1 x2
    rw [f5 c x c1 c2 x1 x2, e1, hr 1 (by decide) (by decide)]
    exact Iff.rfl
  · intro c c1 c2 _
    rw [(f4 c c1 c2).2.2.1]
    unfold nvM
    rw [e1, hr 1 (by decide) (by decide)]
  · rw [h6, ← eg0]
    have c0 := hS.1
    simp (config := { decide := true }) only [w_aload_n0 (pc' := 206) q217 d217_205 rfl, w_invv0 (ci := 11) (pc' := 209) q217 d217_206 rfl n217_84 k217_84_11 m218.1, w_return q217 d217_209 m217.2.1, gs_off, gs_off0, gs_0off, gs_2, xN_0, xN_2, xN_3, xN_6, xN_7, xN_8, xN_9, xN_10, xN_11, xN_12, xN_13, xN_14, xN_15, xN_16, xN_17, xN_18, xN_19, xN_20, xN_21, xN_22, xN_23, xN_24, xN_25, xN_26, xN_27, xN_28, xN_29, xN_30, xN_31, xN_32, xN_33, xN_34, xN_35, xN_36, xN_37, xN_38, xN_39, xN_40, xN_41, xN_42, xN_43, xN_44, xN_45, xN_46, xN_47, xN_48, xN_49, xN_50, xN_51, xN_52, xN_53, xN_54, xN_55, ti_0, ti_1, ti_2, ti_3, ti_4, ti_5, ti_6, ti_7, ti_8, ti_9, ti_10, ti_16, ti_19, ti_20, ti_29, ti_30, ti_31, ti_32, ti_35, ti_36, ti_38, ti_39, ti_40, ti_41, ti_42, ti_43, ti_44, ti_45, ti_46, ti_47, ti_48, ti_49, ti_50, ti_51, ti_52, ti_53, ti_54, ti_55, ti_56, ti_57, ti_58, ti_59, ti_60, ti_61, ti_62, ti_63, ti_64, ti_65, ti_74, ti_77, ti_126, ti_200, ti_201, ti_202, ti_203, ti_204, ti_205, ti_210, ti_255, ti_256, ti_400, ti_512, ti_600, ti_601, ti_602, ti_1000, ti_1023, ti_1024, ti_2000, ti_10000, ti_12602, ti_999999, ti_m999999, ti_m1, ti_2000000, ti_3000000, xN_1, xN_4, xN_5, xN_60, xN_61, xN_64, xN_200, xN_800, xN_12000, xN_12602, eq_self, and_self, and_true, true_and, if_true, if_false, decide_true, Nat.reduceLeDiff, xc2_int, xc2_ref, xc2_ra, xc2_null, xc2_long, xc2_none, xisaT_ref, xisaT_ra, xisaT_null, xc1T_int, xc1T_ref, xc1T_ra, xc1T_null, xsum_nil, xsum_int, xsum_ref, xsum_ra, xsum_long, xsum_double, xsum_null, xfl_nil, xfl_int, xfl_ref, xfl_ra, xfl_null, xfl_long, xfl_double, List.length_cons, List.length_nil, c0, f8, xfk, xfv, xak, xan, xcls, xsv', List.getElem?_cons_zero, List.getElem?_cons_succ, List.getD_cons_zero, List.getD_cons_succ, Option.getD_some, Option.isSome_some, if_true, if_pos, xcont, Option.toList_none, Option.toList_some, List.nil_append, List.cons_append]
end
