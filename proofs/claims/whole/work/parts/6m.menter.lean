/-! The model: changes of one cell -/
section
theorem cnF_congr {K K' : Int → Int} {T T' : Int → List Int} {f : Int} (hK : ∀ c, 0 ≤ c → c < 200 → K c = K' c ∧ (K c = 2 → T c = T' c)) : cnF K T f = cnF K' T' f := by
  have hU : ∀ b c, UsE (FmA K) (RfA K T) b c ↔ UsE (FmA K') (RfA K' T') b c := fun b c => by
    unfold UsE FmA RfA
    constructor
    · rintro ⟨a1, a2, a3, a4, a5, a6, a7⟩
      obtain ⟨k1, k2⟩ := hK c a3 a4
      refine ⟨a1, a2, a3, a4, ?_, ?_, ?_⟩
      · rw [← k1]; exact a5
      · rw [← k1]; exact a6
      · rw [← k2 a6]; exact a7
    · rintro ⟨a1, a2, a3, a4, a5, a6, a7⟩
      obtain ⟨k1, k2⟩ := hK c a3 a4
      refine ⟨a1, a2, a3, a4, ?_, ?_, ?_⟩
      · rw [k1]; exact a5
      · rw [k1]; exact a6
      · rw [k2 (k1.trans a6)]; exact a7
  unfold cnF
  refine sumf_congr 200 0 (fun x x1 x2 => ?_)
  have hx : (K x = 2 ∧ (Rc (UsE (FmA K) (RfA K T)) f x ∨ x = f)) ↔ (K' x = 2 ∧ (Rc (UsE (FmA K') (RfA K' T')) f x ∨ x = f)) := by
    rw [(hK x x1 (by omega)).1, Rc_congr hU x]
  unfold ind
  by_cases e : K x = 2 ∧ (Rc (UsE (FmA K) (RfA K T)) f x ∨ x = f)
  · rw [if_pos (cb_iff.mpr e), if_pos (cb_iff.mpr (hx.mp e))]
  · rw [if_neg (fun h => e (cb_iff.mp h)), if_neg (fun h => e (hx.mpr (cb_iff.mp h)))]
theorem cnA_congr {K K' : Int → Int} (hK : ∀ c, 0 ≤ c → c < 200 → K c = K' c) : cnA K = cnA K' := by
  unfold cnA
  refine sumf_congr 200 0 (fun x x1 x2 => ?_)
  unfold ind FmA
  rw [hK x x1 (by omega)]
theorem cnF_rng (K : Int → Int) (T : Int → List Int) (f : Int) : 0 ≤ cnF K T f ∧ cnF K T f ≤ 200 := ind_rng _ 200 0
theorem cnA_rng (K : Int → Int) : 0 ≤ cnA K ∧ cnA K ≤ 200 := ind_rng _ 200 0
/-- counts behind a change -/
def shC (A : Sh) (n : Int) : Sh := (A.1, A.2.1, A.2.2.1, n, A.2.2.2.2 + n)
theorem shC_ok {A : Sh} {n : Int} (h : ShOK A) : ShOK (shC A n) := h
def recH (A : Sh) (H : List Sh) : List Sh := (A :: H).take 4
/-- what the model holds beside its sheet -/
def MdP (g : xGm) (m : Nat) (P : Pd) (sn : Option Sh) (H : List Sh) : Prop := PdM g m P ∧ MoR g m ∧ (∀ j, 2 ≤ j → j ≤ 6 → rgR (g (m + j))) ∧ HiM g m H ∧ SnM g m sn
theorem MdP_of {g : xGm} {m : Nat} {P : Pd} {A : Sh} {sn : Option Sh} {H : List Sh} (h : MdI g m P A sn H) : MdP g m P sn H := ⟨h.1, h.2.1.1.2.1, fun j a b => h.2.2.1 j (by omega) b, h.2.2.2.1, h.2.2.2.2⟩
theorem MdP_fr {g g' : xGm} {m : Nat} {P : Pd} {sn : Option Sh} {H : List Sh} (hr : ∀ j, (2 ≤ j ∧ j ≤ 7) → g' (m + j) = g (m + j)) (hs : g' m 2 = g m 2 ∧ g' m 7 = g m 7 ∧ g' m 8 = g m 8 ∧ g' m 10 = g m 10) (hR : MoR g' m) (h : MdP g m P sn H) : MdP g' m P sn H := by
  obtain ⟨h1, -, h5, h6, h7⟩ := h
  exact ⟨PdM_congr hs.2.2.2 (hr 7 (by omega)) h1, hR, fun j a b => by rw [hr j (by omega)]; exact h5 j a b, HiM_congr hs.2.1 hs.2.2.1 (fun q hq => hr _ (by omega)) h6, SnM_congr hs.1 (hr 2 (by omega)) h7⟩
theorem MdI_of {g : xGm} {m : Nat} {P : Pd} {A : Sh} {sn : Option Sh} {H : List Sh} (h : MdP g m P sn H) (h1 : MoI g m A.2.2.1) (h2 : ShM (g (m + 1)) A) (h3 : ShOK A) (h4 : rgR (g (m + 1))) : MdI g m P A sn H :=
  ⟨h.1, ⟨h1, h2, h3⟩, fun j a b => by
    by_cases e : j = 1
    · subst e; exact h4
    · exact h.2.2.1 j (by omega) b, h.2.2.2.1, h.2.2.2.2⟩
theorem MoR_row1 {g : xGm} {m : Nat} {f : Int → Int} (h : MoR g m) : MoR (gr g (m + 1) f) m :=
  ⟨rg_off (gr_row _ _ (by omega)) h.1, rg_off (gr_row _ _ (by omega)) h.2.1, rg_off (gr_row _ _ (by omega)) h.2.2.1, rg_off (gr_row _ _ (by omega)) h.2.2.2.1, rg_off (gr_row _ _ (by omega)) h.2.2.2.2⟩
theorem MdP_row1 {g : xGm} {m : Nat} {P : Pd} {sn : Option Sh} {H : List Sh} {f : Int → Int} (h : MdP g m P sn H) : MdP (gr g (m + 1) f) m P sn H :=
  MdP_fr (fun j hj => gr_row _ _ (by omega)) ⟨by rw [gr_row _ _ (by omega)], by rw [gr_row _ _ (by omega)], by rw [gr_row _ _ (by omega)], by rw [gr_row _ _ (by omega)]⟩ (MoR_row1 h.2.1) h
theorem MoR_fr {g g' : xGm} {m : Nat} (hr : ∀ j, j = 12 ∨ j = 13 ∨ (18 ≤ j ∧ j ≤ 20) → g' (m + j) = g (m + j)) (h : MoR g m) : MoR g' m := ⟨rg_off (hr _ (by omega)) h.1, rg_off (hr _ (by omega)) h.2.1, rg_off (hr _ (by omega)) h.2.2.1, rg_off (hr _ (by omega)) h.2.2.2.1, rg_off (hr _ (by omega)) h.2.2.2.2⟩
theorem ShM_cnt {g g' : xGm} {m : Nat} {A : Sh} {n : Int} (hk : KeC g g' m) (h6 : g' (m + 1) 600 = n) (h7 : g' (m + 1) 601 = g (m + 1) 601 + n) (h : ShM (g (m + 1)) A) : ShM (g' (m + 1)) (shC A n) := by
  refine ⟨⟨h6, ?_⟩, fun c c1 c2 => ?_⟩
  · rw [h7, h.1.2]; rfl
  · exact CelR_congr c1 c2 (fun i hi => by obtain ⟨a, b⟩ := celI_600 c1 c2 hi; exact hk i a b) (ShM_cel h c1 c2)
variable {X : xX} {S : xLm} {g : xGm} {d m : Nat} {w : xH} {Q : xO → xH → Prop} {P : Pd} {A : Sh} {sn : Option Sh} {H : List Sh}
theorem MdP_D {g' : xGm} (hf : FxD g g' m) (hR : MoR g' m) (h : MdP g m P sn H) : MdP g' m P sn H := by
  have hr : ∀ j, (2 ≤ j ∧ j ≤ 7) → g' (m + j) = g (m + j) := fun j hj => hf.1 _ (by omega) (fun k hk => by
    simp only [List.mem_cons, List.not_mem_nil, or_false] at hk
    omega)
  exact MdP_fr hr ⟨Fx_sl hf (by decide), Fx_sl hf (by decide), Fx_sl hf (by decide), Fx_sl hf (by decide)⟩ hR h
/-- a cell was changed -/
theorem m_chg {f : Int} (hS : MdS S m) (h : MdP g m P sn H) (hG : rgR (g (m + 1))) (hM : ShM (g (m + 1)) A) (hA : ShOK A) (hall : 0 ≤ A.2.2.2.2 ∧ A.2.2.2.2 ≤ 900000) (hf : 0 ≤ f ∧ f < 200) :
    ∃ g', Fm g g' m ∧ MdI g' m P (shC A (cnF A.1 A.2.2.1 f)) sn H ∧ g' m 11 = g m 11 ∧ ∀ Q, Cw X (d + 7) 270 [.ref m, .int (iI f)] (hp S g) Q = Q (.inl (some (.int (iI (cnF A.1 A.2.2.1 f))))) (hp S g') := by
  have hC := CeM_of hG hM hA
  obtain ⟨g', k1, k2, k3, k4, k5, k6⟩ := m_changed (X := X) (d := d) hS hC h.2.1 hf (by rw [hM.1.2]; exact hall)
  have e : cnF (g (m + 1)) A.2.2.1 f = cnF A.1 A.2.2.1 f := cnF_congr (fun c c1 c2 => ⟨(hM.2 c c1 c2).1, fun _ => rfl⟩)
  rw [e] at k3 k4 k6
  exact ⟨g', Fm_D k1, MdI_of (MdP_D k1 k5.2.1 h) k5 (ShM_cnt k2 k3 k4 hM) (shC_ok hA) k5.1.1, Fx_sl k1 (by decide), k6⟩
theorem m_chgAll (hS : MdS S m) (h : MdP g m P sn H) (hG : rgR (g (m + 1))) (hM : ShM (g (m + 1)) A) (hA : ShOK A) (hall : 0 ≤ A.2.2.2.2 ∧ A.2.2.2.2 ≤ 900000) :
    ∃ g', Fm g g' m ∧ MdI g' m P (shC A (cnA A.1)) sn H ∧ (∀ i, ¬ i ∈ ([22, 23, 24, 25, 26, 30] : List Int) → g' m i = g m i) ∧ ∀ Q, Cw X (d + 7) 303 [.ref m] (hp S g) Q = Q (.inl none) (hp S g') := by
  have hC := CeM_of hG hM hA
  obtain ⟨g', k1, k2, k3, k4, k5, k6⟩ := m_changedAll (X := X) (d := d) hS hC h.2.1 (by rw [hM.1.2]; exact hall)
  have e : cnA (g (m + 1)) = cnA A.1 := cnA_congr (fun c c1 c2 => (hM.2 c c1 c2).1)
  rw [e] at k3 k4
  exact ⟨g', Fm_D k1, MdI_of (MdP_D k1 k5.2.1 h) k5 (ShM_cnt k2 k3 k4 hM) (shC_ok hA) k5.1.1, fun i hi => Fx_sl k1 hi, k6⟩
theorem m_comp (hS : MdS S m) (h : MdP g m P sn H) (hG : rgR (g (m + 1))) (hM : ShM (g (m + 1)) A) (hA : ShOK A) :
    ∃ g', Fm g g' m ∧ MdI g' m P A sn H ∧ (∀ i, ¬ i ∈ ([22, 23, 24, 25, 26, 30] : List Int) → g' m i = g m i) ∧ g' (m + 1) = g (m + 1) ∧ ∀ Q, Cw X (d + 6) 271 [.ref m] (hp S g) Q = Q (.inl none) (hp S g') := by
  have hC := CeM_of hG hM hA
  obtain ⟨g', k1, k5, k6⟩ := m_computesAll (X := X) (d := d) hS hC h.2.1
  have e1 : g' (m + 1) = g (m + 1) := Fx_at k1 (by decide) (by decide)
  exact ⟨g', Fm_C k1, MdI_of (MdP_D (Fx_mono k1 (by decide) (by decide)) k5.2.1 h) k5 (by rw [e1]; exact hM) hA (by rw [e1]; exact hG), fun i hi => Fx_sl k1 hi, e1, k6⟩
/-- the state is recorded -/
theorem m_rec (hS : MdS S m) (h : MdI g m P A sn H) :
    ∃ g', Fm g g' m ∧ MdI g' m P A sn (recH A H) ∧ (∀ j, 1 ≤ j → (j < 3 ∨ 6 < j) → g' (m + j) = g (m + j)) ∧ (∀ i, ¬ i = 7 → ¬ i = 8 → g' m i = g m i) ∧ ∀ Q, Cw X (d + 2) 264 [.ref m] (hp S g) Q = Q (.inl none) (hp S g') := by
  obtain ⟨h1, ⟨h2, h3, h4⟩, h5, ⟨h6, h7, h8, h9⟩, h10⟩ := id h
  obtain ⟨o, eo⟩ : ∃ o, g m 7 = o := ⟨_, rfl⟩
  obtain ⟨k, ek⟩ : ∃ k, g m 8 = k := ⟨_, rfl⟩
  rw [eo] at h6 h9
  rw [ek] at h7
  obtain ⟨q, hq⟩ : ∃ q : Nat, (roN o k + rkN k) % 4 = q := ⟨((roN o k + rkN k) % 4).toNat, by omega⟩
  have hq4 : q < 4 := by omega
  have hr := m_records (X := X) (d := d) hS eo ek h6 (by omega) hq
  obtain ⟨G, eG⟩ : ∃ G, G = gs (gr (gs (gs g m 7 (roN o k)) m 8 (rkN k)) (m + (3 + q)) (cpR (g (m + 1)) (g (m + (3 + q))))) m 8 (rkN k + 1) := ⟨_, rfl⟩
  rw [← eG] at hr
  have er : ∀ j, 1 ≤ j → ¬ j = 3 + q → G (m + j) = g (m + j) := fun j j1 j2 => by rw [eG, gs_row _ _ _ (by omega), gr_row _ _ (by omega), gs_row _ _ _ (by omega), gs_row _ _ _ (by omega)]
  have eq : G (m + (3 + q)) = cpR (g (m + 1)) (g (m + (3 + q))) := by rw [eG, gs_row _ _ _ (by omega), gr_hit]
  have es : ∀ i, ¬ i = 7 → ¬ i = 8 → G m i = g m i := fun i a b => by rw [eG, gs_o b, gr_row _ _ (by omega), gs_o b, gs_o a]
  have e7 : G m 7 = roN o k := by rw [eG, gs_o (by decide), gr_row _ _ (by omega), gs_o (by decide), gs_at, if_pos rfl]
  have e8 : G m 8 = rkN k + 1 := by rw [eG, gs_at, if_pos rfl]
  have hro : 0 ≤ roN o k ∧ roN o k ≤ 3 := by unfold roN; split <;> omega
  have hlen : ((recH A H).length : Int) = rkN k + 1 := by
    unfold recH rkN
    rw [List.length_take, List.length_cons]
    split <;> omega
  refine ⟨G, fun x hx => ?_, ⟨PdM_congr (es _ (by decide) (by decide)) (er _ (by decide) (by omega)) h1, ⟨MoI_congr (fun j hj => er j (by omega) (by omega)) (es _ (by decide) (by decide)) h2, by rw [er 1 (by decide) (by omega)]; exact h3, h4⟩, fun j a b => ?_, ⟨by rw [e7]; exact hro, by rw [e8, hlen], by unfold recH; rw [List.length_take]; omega, fun i B hi => ?_⟩, SnM_congr (es _ (by decide) (by decide)) (er _ (by decide) (by omega)) h10⟩, fun j a b => er j a (by omega), es, hr⟩
  · rw [eG, gs_row _ _ _ (by omega), gr_row _ _ (by omega), gs_row _ _ _ (by omega), gs_row _ _ _ (by omega)]
  · by_cases e : j = 3 + q
    · subst e; rw [eq]; exact cpR_rg (h5 1 (by decide) (by decide)) (h5 _ a b)
    · rw [er j a e]; exact h5 j a b
  · have hi4 : i < 4 := by
      by_cases e : i < 4
      · exact e
      · unfold recH at hi
        rw [List.getElem?_eq_none (by rw [List.length_take]; omega)] at hi
        cases hi
    have hi' : (A :: H)[i]? = some B := by
      unfold recH at hi
      rw [List.getElem?_take_of_lt hi4] at hi
      exact hi
    rw [e7, hlen]
    cases i with
    | zero =>
      rw [List.getElem?_cons_zero] at hi'
      injection hi' with hi'
      subst hi'
      exact ⟨h4, q, hq4, by omega, by rw [eq]; exact cpR_sh h3⟩
    | succ i =>
      rw [List.getElem?_cons_succ] at hi'
      obtain ⟨b1, q', b2, b3, b4⟩ := h9 i B hi'
      have hil : i < H.length := (List.getElem?_eq_some_iff.mp hi').1
      have hs : (roN o k + (rkN k + 1) - 1 - ((i + 1 : Nat) : Int)) % 4 = q' := by
        unfold roN rkN
        by_cases e : k = 4
        · rw [if_pos e, if_pos e]; omega
        · rw [if_neg e, if_neg e]; omega
      refine ⟨b1, q', b2, hs, ?_⟩
      have hne : ¬ q' = q := by
        intro e
        subst e
        omega
      rw [er _ (by omega) (by omega)]
      exact b4
theorem shP_all {c kd nu : Int} {tk : List Int} : (shP A c kd nu tk).2.2.2 = A.2.2.2 := rfl
/-- what a change of a cell makes of the sheet -/
noncomputable def chS (A : Sh) (c kd nu : Int) (tk : List Int) : Sh := shC (shP A c kd nu tk) (cnF (shP A c kd nu tk).1 (shP A c kd nu tk).2.2.1 c)
noncomputable def chN (A : Sh) (c kd nu : Int) (tk : List Int) : Int := cnF (shP A c kd nu tk).1 (shP A c kd nu tk).2.2.1 c
theorem ctF_nu {ch : Int → Int} {en a a' kd nu : Int} {tk : List Int} (h : ctF ch en a = .inr (a', kd, nu, tk)) : -999999 ≤ nu ∧ nu ≤ 999999 := by
  obtain ⟨b, v, hb, hvv, e0⟩ := ctF_eq ch en a
  rw [e0] at h
  split at h
  · generalize cnT ch en 61 0 [(7, 1, 0)] [] (a + 1) = r at h
    cases r with
    | inl x => cases h
    | inr x =>
      obtain ⟨b, tk1⟩ := x
      injection h with h; injection h with h1 h2; injection h2 with h2 h3; injection h3 with h3 h4
      omega
  split at h
  · injection h with h; injection h with h1 h2; injection h2 with h2 h3; injection h3 with h3 h4
    omega
  split at h
  · cases h
  split at h
  · have hv := nuF_v (ch := ch) (a := a + b)
    injection h with h; injection h with h1 h2; injection h2 with h2 h3; injection h3 with h3 h4
    omega
  · cases h
/-- a content that the pad has is in its bounds -/
theorem pad_ok {P : Pd} {a en kd nu : Int} {tk : List Int} (h : ctF (pdc P) en 0 = .inr (a, kd, nu, tk)) (hl : (mks tk).length ≤ 60) : (kd = 0 ∨ kd = 1 ∨ kd = 2) ∧ (kd = 2 → (∃ v : Ev, ∃ r n, Tr 0 r n tk v) ∧ (mks tk).length ≤ 60) ∧ (kd = 1 → -999999 ≤ nu ∧ nu ≤ 999999) := by
  rcases ctF_tree h with ⟨h1, h2⟩ | ⟨h1, -, h3, h4, -⟩
  · exact ⟨.inr (.inr h1), fun _ => ⟨h2, hl⟩, fun e => by omega⟩
  · exact ⟨by omega, fun e => by omega, fun _ => ⟨h3, h4⟩⟩
theorem m_enter {z : Int} (hS : MdS S m) (hI : MdI g m P A sn H) (tz : ti z = z) (hall : 0 ≤ A.2.2.2.2 ∧ A.2.2.2.2 ≤ 900000) :
    (¬ (0 ≤ z ∧ z < 200) → MRs X S g m 261 (d + 12) [.ref m, .int (iI z)] 1 (.int (iI 0)) P A sn H) ∧
    (0 ≤ z ∧ z < 200 → match ctF (pdc P) 0 0 with
      | .inl _ => MRs X S g m 261 (d + 12) [.ref m, .int (iI z)] 2 (.int (iI 0)) P A sn H
      | .inr (_, kd, nu, tk) => MRs X S g m 261 (d + 12) [.ref m, .int (iI z)] 0 (.int (iI (chN A z kd nu tk))) P (chS A z kd nu tk) sn (recH A H)) := by
  have s0 := hS.1
  have hic := fun w => m_isCell (X := X) (d := d + 10) (w := w) tz
  have has := fun G b hb => m_asks (X := X) (d := d + 11) (g := G) (b := b) hS hb
  have h0 := fun G => has G 0 (.inl rfl)
  have h1 := fun G => has G 1 (.inr rfl)
  simp only [show (1 : Int) - 0 = 1 from rfl, show (1 : Int) - 1 = 0 from rfl] at h0 h1
  have hfa := fun G z => m_fails (X := X) (d := d + 11) (g := G) (z := z) hS
  refine ⟨fun h => ?_, fun h => ?_⟩
  · simp only [if_neg h] at hic
    refine ⟨gs g m 11 1, Fm_slot, MdI_slot (by decide) hI, by rw [gs_at, if_pos rfl], fun Q => ?_⟩
    rw [e261]
    simp (config := { decide := true }) only [w_aload_n0 (pc' := 1) q261 d261_0 rfl, w_iload_n1 (pc' := 2) q261 d261_1 rfl, w_invs1 (pc' := 5) q261 d261_2 rfl (by decide +kernel) k261_392_99 m262.1, w_invv1 (ci := 11) (pc' := 8) q261 d261_5 rfl n261_395 k261_395_11 m263.1, w_if_ne (tg := 13) (pc' := 11) q261 d261_8 (by decide) rfl, w_iconst (pc' := 12) q261 d261_11 rfl, w_ireturn q261 d261_12 m261.2.1, w_aload_n0 (pc' := 14) q261 d261_13 rfl, w_invv0 (ci := 11) (pc' := 17) q261 d261_14 rfl n261_385 k261_385_11 m236.1, w_if_ne (tg := 26) (pc' := 20) q261 d261_17 (by decide) rfl, w_aload_n0 (pc' := 21) q261 d261_20 rfl, w_iconst (pc' := 22) q261 d261_21 rfl, w_invv1 (ci := 11) (pc' := 25) q261 d261_22 rfl n261_382 k261_382_11 m233.1, w_ireturn q261 d261_25 m261.2.1, w_aload_n0 (pc' := 27) q261 d261_26 rfl, w_invv0 (ci := 11) (pc' := 30) q261 d261_27 rfl n261_399 k261_399_11 m264.1, w_aload_n0 (pc' := 31) q261 d261_30 rfl, w_iload_n1 (pc' := 32) q261 d261_31 rfl, w_invv1 (ci := 11) (pc' := 35) q261 d261_32 rfl n261_402 k261_402_11 m267.1, w_aload_n0 (pc' := 36) q261 d261_35 rfl, w_iload_n1 (pc' := 37) q261 d261_36 rfl, w_invv1 (ci := 11) (pc' := 40) q261 d261_37 rfl n261_405 k261_405_11 m270.1, w_ireturn q261 d261_40 m261.2.1, gs_off, gs_off0, gs_0off, gs_2, xN_0, xN_2, xN_3, xN_6, xN_7, xN_8, xN_9, xN_10, xN_11, xN_12, xN_13, xN_14, xN_15, xN_16, xN_17, xN_18, xN_19, xN_20, xN_21, xN_22, xN_23, xN_24, xN_25, xN_26, xN_27, xN_28, xN_29, xN_30, xN_31, xN_32, xN_33, xN_34, xN_35, xN_36, xN_37, xN_38, xN_39, xN_40, xN_41, xN_42, xN_43, xN_44, xN_45, xN_46, xN_47, xN_48, xN_49, xN_50, xN_51, xN_52, xN_53, xN_54, xN_55, ti_0, ti_1, ti_2, ti_3, ti_4, ti_5, ti_6, ti_7, ti_8, ti_9, ti_10, ti_16, ti_19, ti_20, ti_29, ti_30, ti_31, ti_32, ti_35, ti_36, ti_38, ti_39, ti_40, ti_41, ti_42, ti_43, ti_44, ti_45, ti_46, ti_47, ti_48, ti_49, ti_50, ti_51, ti_52, ti_53, ti_54, ti_55, ti_56, ti_57, ti_58, ti_59, ti_60, ti_61, ti_62, ti_63, ti_64, ti_65, ti_74, ti_77, ti_126, ti_200, ti_201, ti_202, ti_203, ti_204, ti_205, ti_210, ti_255, ti_256, ti_400, ti_512, ti_600, ti_601, ti_602, ti_1000, ti_1023, ti_1024, ti_2000, ti_10000, ti_12602, ti_999999, ti_m999999, ti_m1, ti_2000000, ti_3000000, xN_1, xN_4, xN_5, xN_60, xN_61, xN_64, xN_200, xN_800, xN_12000, xN_12602, eq_self, and_self, and_true, true_and, if_true, if_false, decide_true, Nat.reduceLeDiff, xc2_int, xc2_ref, xc2_ra, xc2_null, xc2_long, xc2_none, xisaT_ref, xisaT_ra, xisaT_null, xc1T_int, xc1T_ref, xc1T_ra, xc1T_null, xsum_nil, xsum_int, xsum_ref, xsum_ra, xsum_long, xsum_double, xsum_null, xfl_nil, xfl_int, xfl_ref, xfl_ra, xfl_null, xfl_long, xfl_double, List.length_cons, List.length_nil, s0, hic, h0, not_true_eq_false, xfk, xfv, xak, xan, xcls, xsv', List.getElem?_cons_zero, List.getElem?_cons_succ, List.getD_cons_zero, List.getD_cons_succ, Option.getD_some, Option.isSome_some, if_true, if_pos, xcont, Option.toList_none, Option.toList_some, List.nil_append, List.cons_append]
  · simp only [if_pos h] at hic
    have hI0 : MdI (gs g m 11 0) m P A sn H := MdI_slot (by decide) hI
    have hC := m_isContent (X := X) (d := d + 2) (g := gs g m 11 0) hS hI0.1.1
    rw [PdM_ch hI0.1] at hC
    generalize ec : ctF (pdc P) 0 0 = r at hC ⊢
    cases r with
    | inl a' =>
      obtain ⟨g', f1, k1⟩ := hC
      refine ⟨gs (gM g' m a' 0) m 11 2, Fm_trans Fm_slot (Fm_trans (Fm_W (FrW_N f1)) (Fm_trans Fm_gM Fm_slot)), MdI_slot (by decide) (MdI_gM (MdI_W (FrW_N f1) hI0)), by rw [gs_at, if_pos rfl], fun Q => ?_⟩
      rw [e261]
      simp (config := { decide := true }) only [w_aload_n0 (pc' := 1) q261 d261_0 rfl, w_iload_n1 (pc' := 2) q261 d261_1 rfl, w_invs1 (pc' := 5) q261 d261_2 rfl (by decide +kernel) k261_392_99 m262.1, w_invv1 (ci := 11) (pc' := 8) q261 d261_5 rfl n261_395 k261_395_11 m263.1, w_if_ne (tg := 13) (pc' := 11) q261 d261_8 (by decide) rfl, w_iconst (pc' := 12) q261 d261_11 rfl, w_ireturn q261 d261_12 m261.2.1, w_aload_n0 (pc' := 14) q261 d261_13 rfl, w_invv0 (ci := 11) (pc' := 17) q261 d261_14 rfl n261_385 k261_385_11 m236.1, w_if_ne (tg := 26) (pc' := 20) q261 d261_17 (by decide) rfl, w_aload_n0 (pc' := 21) q261 d261_20 rfl, w_iconst (pc' := 22) q261 d261_21 rfl, w_invv1 (ci := 11) (pc' := 25) q261 d261_22 rfl n261_382 k261_382_11 m233.1, w_ireturn q261 d261_25 m261.2.1, w_aload_n0 (pc' := 27) q261 d261_26 rfl, w_invv0 (ci := 11) (pc' := 30) q261 d261_27 rfl n261_399 k261_399_11 m264.1, w_aload_n0 (pc' := 31) q261 d261_30 rfl, w_iload_n1 (pc' := 32) q261 d261_31 rfl, w_invv1 (ci := 11) (pc' := 35) q261 d261_32 rfl n261_402 k261_402_11 m267.1, w_aload_n0 (pc' := 36) q261 d261_35 rfl, w_iload_n1 (pc' := 37) q261 d261_36 rfl, w_invv1 (ci := 11) (pc' := 40) q261 d261_37 rfl n261_405 k261_405_11 m270.1, w_ireturn q261 d261_40 m261.2.1, gs_off, gs_off0, gs_0off, gs_2, xN_0, xN_2, xN_3, xN_6, xN_7, xN_8, xN_9, xN_10, xN_11, xN_12, xN_13, xN_14, xN_15, xN_16, xN_17, xN_18, xN_19, xN_20, xN_21, xN_22, xN_23, xN_24, xN_25, xN_26, xN_27, xN_28, xN_29, xN_30, xN_31, xN_32, xN_33, xN_34, xN_35, xN_36, xN_37, xN_38, xN_39, xN_40, xN_41, xN_42, xN_43, xN_44, xN_45, xN_46, xN_47, xN_48, xN_49, xN_50, xN_51, xN_52, xN_53, xN_54, xN_55, ti_0, ti_1, ti_2, ti_3, ti_4, ti_5, ti_6, ti_7, ti_8, ti_9, ti_10, ti_16, ti_19, ti_20, ti_29, ti_30, ti_31, ti_32, ti_35, ti_36, ti_38, ti_39, ti_40, ti_41, ti_42, ti_43, ti_44, ti_45, ti_46, ti_47, ti_48, ti_49, ti_50, ti_51, ti_52, ti_53, ti_54, ti_55, ti_56, ti_57, ti_58, ti_59, ti_60, ti_61, ti_62, ti_63, ti_64, ti_65, ti_74, ti_77, ti_126, ti_200, ti_201, ti_202, ti_203, ti_204, ti_205, ti_210, ti_255, ti_256, ti_400, ti_512, ti_600, ti_601, ti_602, ti_1000, ti_1023, ti_1024, ti_2000, ti_10000, ti_12602, ti_999999, ti_m999999, ti_m1, ti_2000000, ti_3000000, xN_1, xN_4, xN_5, xN_60, xN_61, xN_64, xN_200, xN_800, xN_12000, xN_12602, eq_self, and_self, and_true, true_and, if_true, if_false, decide_true, Nat.reduceLeDiff, xc2_int, xc2_ref, xc2_ra, xc2_null, xc2_long, xc2_none, xisaT_ref, xisaT_ra, xisaT_null, xc1T_int, xc1T_ref, xc1T_ra, xc1T_null, xsum_nil, xsum_int, xsum_ref, xsum_ra, xsum_long, xsum_double, xsum_null, xfl_nil, xfl_int, xfl_ref, xfl_ra, xfl_null, xfl_long, xfl_double, List.length_cons, List.length_nil, s0, hic, h1, k1, hfa, not_true_eq_false, not_false_eq_true, xfk, xfv, xak, xan, xcls, xsv', List.getElem?_cons_zero, List.getElem?_cons_succ, List.getD_cons_zero, List.getD_cons_succ, Option.getD_some, Option.isSome_some, if_true, if_pos, xcont, Option.toList_none, Option.toList_some, List.nil_append, List.cons_append]
    | inr x =>
      obtain ⟨a', kd, nu, tk⟩ := x
      obtain ⟨g1, f1, hrd, k1⟩ := hC
      obtain ⟨p1, p2, p3⟩ := pad_ok ec (by have := hrd.2.2.2.2; omega)
      have hI1 : MdI (gM g1 m a' 1) m P A sn H := MdI_gM (MdI_W (FrW_N f1) hI0)
      have e11 : gM g1 m a' 1 m 11 = 0 := by rw [gM_o (by decide) (by decide), FrW_11 (FrW_N f1), gs_at, if_pos rfl]
      obtain ⟨g2, f2, i2, r2, s2, k2⟩ := m_rec (X := X) (d := d + 9) hS hI1
      have rd2 : g2 m 33 = kd ∧ g2 m 34 = nu ∧ g2 m 32 = (mks tk).length ∧ TL (g2 (m + 21)) 0 (mks tk) := by
        rw [s2 33 (by decide) (by decide), s2 34 (by decide) (by decide), s2 32 (by decide) (by decide), r2 21 (by decide) (by decide)]
        have := RdN_gM (a := a') (f := 1) hrd
        exact ⟨this.1, this.2.1, this.2.2.1, this.2.2.2.1⟩
      have hnu : -1000000000 ≤ nu ∧ nu ≤ 1000000000 := by have := ctF_nu ec; omega
      obtain ⟨r', c1, c2, c3, k3⟩ := m_lands (X := X) (d := d + 9) (g := g2) (c := z) (kd := kd) (nu := nu) (ms := mks tk) hS h rd2.1 rd2.2.1 (by omega) hnu (fun e => ⟨rd2.2.2.1, by have := hrd.2.2.2.2; omega, rd2.2.2.2, mks_big tk (by obtain ⟨v, rr, n, hT⟩ := (p2 e).1; exact Tr_okG _ _ _ _ _ hT)⟩) (i2.2.2.1 1 (by decide) (by decide))
      have hM' := ShM_put i2.2.1.2.1 h.1 h.2 c1 c2
      have hOK' := ShOK_put (c := z) i2.2.1.2.2 p1 p2 p3
      obtain ⟨g4, f4, i4, e4, k4⟩ := m_chg (X := X) (d := d + 4) (g := gr g2 (m + 1) r') (f := z) hS (MdP_row1 (MdP_of i2)) (by rw [gr_hit]; exact c3) (by rw [gr_hit]; exact hM') hOK' hall h
      refine ⟨g4, Fm_trans Fm_slot (Fm_trans (Fm_W (FrW_N f1)) (Fm_trans Fm_gM (Fm_trans f2 (Fm_trans (Fm_row (by decide)) f4)))), i4, ?_, fun Q => ?_⟩
      · rw [e4, gr_row _ _ (by omega), s2 11 (by decide) (by decide), e11]
      · rw [e261]
        simp (config := { decide := true }) only [w_aload_n0 (pc' := 1) q261 d261_0 rfl, w_iload_n1 (pc' := 2) q261 d261_1 rfl, w_invs1 (pc' := 5) q261 d261_2 rfl (by decide +kernel) k261_392_99 m262.1, w_invv1 (ci := 11) (pc' := 8) q261 d261_5 rfl n261_395 k261_395_11 m263.1, w_if_ne (tg := 13) (pc' := 11) q261 d261_8 (by decide) rfl, w_iconst (pc' := 12) q261 d261_11 rfl, w_ireturn q261 d261_12 m261.2.1, w_aload_n0 (pc' := 14) q261 d261_13 rfl, w_invv0 (ci := 11) (pc' := 17) q261 d261_14 rfl n261_385 k261_385_11 m236.1, w_if_ne (tg := 26) (pc' := 20) q261 d261_17 (by decide) rfl, w_aload_n0 (pc' := 21) q261 d261_20 rfl, w_iconst (pc' := 22) q261 d261_21 rfl, w_invv1 (ci := 11) (pc' := 25) q261 d261_22 rfl n261_382 k261_382_11 m233.1, w_ireturn q261 d261_25 m261.2.1, w_aload_n0 (pc' := 27) q261 d261_26 rfl, w_invv0 (ci := 11) (pc' := 30) q261 d261_27 rfl n261_399 k261_399_11 m264.1, w_aload_n0 (pc' := 31) q261 d261_30 rfl, w_iload_n1 (pc' := 32) q261 d261_31 rfl, w_invv1 (ci := 11) (pc' := 35) q261 d261_32 rfl n261_402 k261_402_11 m267.1, w_aload_n0 (pc' := 36) q261 d261_35 rfl, w_iload_n1 (pc' := 37) q261 d261_36 rfl, w_invv1 (ci := 11) (pc' := 40) q261 d261_37 rfl n261_405 k261_405_11 m270.1, w_ireturn q261 d261_40 m261.2.1, gs_off, gs_off0, gs_0off, gs_2, xN_0, xN_2, xN_3, xN_6, xN_7, xN_8, xN_9, xN_10, xN_11, xN_12, xN_13, xN_14, xN_15, xN_16, xN_17, xN_18, xN_19, xN_20, xN_21, xN_22, xN_23, xN_24, xN_25, xN_26, xN_27, xN_28, xN_29, xN_30, xN_31, xN_32, xN_33, xN_34, xN_35, xN_36, xN_37, xN_38, xN_39, xN_40, xN_41, xN_42, xN_43, xN_44, xN_45, xN_46, xN_47, xN_48, xN_49, xN_50, xN_51, xN_52, xN_53, xN_54, xN_55, ti_0, ti_1, ti_2, ti_3, ti_4, ti_5, ti_6, ti_7, ti_8, ti_9, ti_10, ti_16, ti_19, ti_20, ti_29, ti_30, ti_31, ti_32, ti_35, ti_36, ti_38, ti_39, ti_40, ti_41, ti_42, ti_43, ti_44, ti_45, ti_46, ti_47, ti_48, ti_49, ti_50, ti_51, ti_52, ti_53, ti_54, ti_55, ti_56, ti_57, ti_58, ti_59, ti_60, ti_61, ti_62, ti_63, ti_64, ti_65, ti_74, ti_77, ti_126, ti_200, ti_201, ti_202, ti_203, ti_204, ti_205, ti_210, ti_255, ti_256, ti_400, ti_512, ti_600, ti_601, ti_602, ti_1000, ti_1023, ti_1024, ti_2000, ti_10000, ti_12602, ti_999999, ti_m999999, ti_m1, ti_2000000, ti_3000000, xN_1, xN_4, xN_5, xN_60, xN_61, xN_64, xN_200, xN_800, xN_12000, xN_12602, eq_self, and_self, and_true, true_and, if_true, if_false, decide_true, Nat.reduceLeDiff, xc2_int, xc2_ref, xc2_ra, xc2_null, xc2_long, xc2_none, xisaT_ref, xisaT_ra, xisaT_null, xc1T_int, xc1T_ref, xc1T_ra, xc1T_null, xsum_nil, xsum_int, xsum_ref, xsum_ra, xsum_long, xsum_double, xsum_null, xfl_nil, xfl_int, xfl_ref, xfl_ra, xfl_null, xfl_long, xfl_double, List.length_cons, List.length_nil, s0, hic, h1, k1, k2, k3, k4, not_true_eq_false, not_false_eq_true, xfk, xfv, xak, xan, xcls, xsv', List.getElem?_cons_zero, List.getElem?_cons_succ, List.getD_cons_zero, List.getD_cons_succ, Option.getD_some, Option.isSome_some, if_true, if_pos, xcont, Option.toList_none, Option.toList_some, List.nil_append, List.cons_append]
        rfl
/-- a cell becomes a number, or empty -/
theorem m_set {z kd nu : Int} (hS : MdS S m) (hI : MdI g m P A sn H) (hz : 0 ≤ z ∧ z < 200) (hk : kd = 0 ∨ kd = 1) (hnu : -999999 ≤ nu ∧ nu ≤ 999999) (hall : 0 ≤ A.2.2.2.2 ∧ A.2.2.2.2 ≤ 900000) {r' : Int → Int} (h1 : CelR r' z kd nu (mks [])) (h2 : ∀ i, ¬ celI z i → r' i = g (m + 1) i) (h3 : rgR r') :
    ∃ g', Fm g g' m ∧ MdI g' m P (chS A z kd nu []) sn H ∧ g' m 11 = g m 11 ∧ ∀ Q, Cw X (d + 7) 270 [.ref m, .int (iI z)] (hp S (gr g (m + 1) r')) Q = Q (.inl (some (.int (iI (chN A z kd nu []))))) (hp S g') := by
  have hM' := ShM_put hI.2.1.2.1 hz.1 hz.2 h1 h2
  have hOK' := ShOK_put (c := z) (tk := []) (kd := kd) (nu := nu) hI.2.1.2.2 (by omega) (fun e => by omega) (fun _ => hnu)
  obtain ⟨g4, f4, i4, e4, k4⟩ := m_chg (X := X) (d := d) (g := gr g (m + 1) r') (f := z) hS (MdP_row1 (MdP_of hI)) (by rw [gr_hit]; exact h3) (by rw [gr_hit]; exact hM') hOK' hall hz
  exact ⟨g4, Fm_trans (Fm_row (by decide)) f4, i4, by rw [e4, gr_row _ _ (by omega)], k4⟩
theorem m_clear {z : Int} (hS : MdS S m) (hI : MdI g m P A sn H) (tz : ti z = z) (hall : 0 ≤ A.2.2.2.2 ∧ A.2.2.2.2 ≤ 900000) :
    (¬ (0 ≤ z ∧ z < 200) → MRs X S g m 301 (d + 12) [.ref m, .int (iI z)] 1 (.int (iI 0)) P A sn H) ∧
    (0 ≤ z ∧ z < 200 → MRs X S g m 301 (d + 12) [.ref m, .int (iI z)] 0 (.int (iI (chN A z 0 0 []))) P (chS A z 0 0 []) sn (recH A H)) := by
  have s0 := hS.1
  have hic := fun w => m_isCell (X := X) (d := d + 10) (w := w) tz
  have has := fun G b hb => m_asks (X := X) (d := d + 11) (g := G) (b := b) hS hb
  have h0 := fun G => has G 0 (.inl rfl)
  have h1 := fun G => has G 1 (.inr rfl)
  simp only [show (1 : Int) - 0 = 1 from rfl, show (1 : Int) - 1 = 0 from rfl] at h0 h1
  refine ⟨fun h => ?_, fun h => ?_⟩
  · simp only [if_neg h] at hic
    refine ⟨gs g m 11 1, Fm_slot, MdI_slot (by decide) hI, by rw [gs_at, if_pos rfl], fun Q => ?_⟩
    rw [e301]
    simp (config := { decide := true }) only [w_aload_n0 (pc' := 1) q301 d301_0 rfl, w_iload_n1 (pc' := 2) q301 d301_1 rfl, w_invs1 (pc' := 5) q301 d301_2 rfl (by decide +kernel) k301_392_99 m262.1, w_invv1 (ci := 11) (pc' := 8) q301 d301_5 rfl n301_395 k301_395_11 m263.1, w_if_ne (tg := 13) (pc' := 11) q301 d301_8 (by decide) rfl, w_iconst (pc' := 12) q301 d301_11 rfl, w_ireturn q301 d301_12 m301.2.1, w_aload_n0 (pc' := 14) q301 d301_13 rfl, w_invv0 (ci := 11) (pc' := 17) q301 d301_14 rfl n301_399 k301_399_11 m264.1, w_aload_n0 (pc' := 18) q301 d301_17 rfl, w_iload_n1 (pc' := 19) q301 d301_18 rfl, w_invv1 (ci := 11) (pc' := 22) q301 d301_19 rfl n301_379 k301_379_11 m268.1, w_aload_n0 (pc' := 23) q301 d301_22 rfl, w_iload_n1 (pc' := 24) q301 d301_23 rfl, w_invv1 (ci := 11) (pc' := 27) q301 d301_24 rfl n301_405 k301_405_11 m270.1, w_ireturn q301 d301_27 m301.2.1, gs_off, gs_off0, gs_0off, gs_2, xN_0, xN_2, xN_3, xN_6, xN_7, xN_8, xN_9, xN_10, xN_11, xN_12, xN_13, xN_14, xN_15, xN_16, xN_17, xN_18, xN_19, xN_20, xN_21, xN_22, xN_23, xN_24, xN_25, xN_26, xN_27, xN_28, xN_29, xN_30, xN_31, xN_32, xN_33, xN_34, xN_35, xN_36, xN_37, xN_38, xN_39, xN_40, xN_41, xN_42, xN_43, xN_44, xN_45, xN_46, xN_47, xN_48, xN_49, xN_50, xN_51, xN_52, xN_53, xN_54, xN_55, ti_0, ti_1, ti_2, ti_3, ti_4, ti_5, ti_6, ti_7, ti_8, ti_9, ti_10, ti_16, ti_19, ti_20, ti_29, ti_30, ti_31, ti_32, ti_35, ti_36, ti_38, ti_39, ti_40, ti_41, ti_42, ti_43, ti_44, ti_45, ti_46, ti_47, ti_48, ti_49, ti_50, ti_51, ti_52, ti_53, ti_54, ti_55, ti_56, ti_57, ti_58, ti_59, ti_60, ti_61, ti_62, ti_63, ti_64, ti_65, ti_74, ti_77, ti_126, ti_200, ti_201, ti_202, ti_203, ti_204, ti_205, ti_210, ti_255, ti_256, ti_400, ti_512, ti_600, ti_601, ti_602, ti_1000, ti_1023, ti_1024, ti_2000, ti_10000, ti_12602, ti_999999, ti_m999999, ti_m1, ti_2000000, ti_3000000, xN_1, xN_4, xN_5, xN_60, xN_61, xN_64, xN_200, xN_800, xN_12000, xN_12602, eq_self, and_self, and_true, true_and, if_true, if_false, decide_true, Nat.reduceLeDiff, xc2_int, xc2_ref, xc2_ra, xc2_null, xc2_long, xc2_none, xisaT_ref, xisaT_ra, xisaT_null, xc1T_int, xc1T_ref, xc1T_ra, xc1T_null, xsum_nil, xsum_int, xsum_ref, xsum_ra, xsum_long, xsum_double, xsum_null, xfl_nil, xfl_int, xfl_ref, xfl_ra, xfl_null, xfl_long, xfl_double, List.length_cons, List.length_nil, s0, hic, h0, not_true_eq_false, xfk, xfv, xak, xan, xcls, xsv', List.getElem?_cons_zero, List.getElem?_cons_succ, List.getD_cons_zero, List.getD_cons_succ, Option.getD_some, Option.isSome_some, if_true, if_pos, xcont, Option.toList_none, Option.toList_some, List.nil_append, List.cons_append]
  · simp only [if_pos h] at hic
    have hI0 : MdI (gs g m 11 0) m P A sn H := MdI_slot (by decide) hI
    obtain ⟨g2, f2, i2, r2, s2, k2⟩ := m_rec (X := X) (d := d + 9) hS hI0
    have hem := m_empties (X := X) (d := d + 10) (g := g2) hS h
    obtain ⟨g4, f4, i4, e4, k4⟩ := m_set (X := X) (d := d + 4) (z := z) (kd := 0) (nu := 0) hS i2 h (.inl rfl) (by decide) hall emR_cel (fun i hi => emR_off hi) (emR_rg (i2.2.2.1 1 (by decide) (by decide)))
    refine ⟨g4, Fm_trans Fm_slot (Fm_trans f2 f4), i4, ?_, fun Q => ?_⟩
    · rw [e4, s2 11 (by decide) (by decide), gs_at, if_pos rfl]
    · rw [e301]
      simp (config := { decide := true }) only [w_aload_n0 (pc' := 1) q301 d301_0 rfl, w_iload_n1 (pc' := 2) q301 d301_1 rfl, w_invs1 (pc' := 5) q301 d301_2 rfl (by decide +kernel) k301_392_99 m262.1, w_invv1 (ci := 11) (pc' := 8) q301 d301_5 rfl n301_395 k301_395_11 m263.1, w_if_ne (tg := 13) (pc' := 11) q301 d301_8 (by decide) rfl, w_iconst (pc' := 12) q301 d301_11 rfl, w_ireturn q301 d301_12 m301.2.1, w_aload_n0 (pc' := 14) q301 d301_13 rfl, w_invv0 (ci := 11) (pc' := 17) q301 d301_14 rfl n301_399 k301_399_11 m264.1, w_aload_n0 (pc' := 18) q301 d301_17 rfl, w_iload_n1 (pc' := 19) q301 d301_18 rfl, w_invv1 (ci := 11) (pc' := 22) q301 d301_19 rfl n301_379 k301_379_11 m268.1, w_aload_n0 (pc' := 23) q301 d301_22 rfl, w_iload_n1 (pc' := 24) q301 d301_23 rfl, w_invv1 (ci := 11) (pc' := 27) q301 d301_24 rfl n301_405 k301_405_11 m270.1, w_ireturn q301 d301_27 m301.2.1, gs_off, gs_off0, gs_0off, gs_2, xN_0, xN_2, xN_3, xN_6, xN_7, xN_8, xN_9, xN_10, xN_11, xN_12, xN_13, xN_14, xN_15, xN_16, xN_17, xN_18, xN_19, xN_20, xN_21, xN_22, xN_23, xN_24, xN_25, xN_26, xN_27, xN_28, xN_29, xN_30, xN_31, xN_32, xN_33, xN_34, xN_35, xN_36, xN_37, xN_38, xN_39, xN_40, xN_41, xN_42, xN_43, xN_44, xN_45, xN_46, xN_47, xN_48, xN_49, xN_50, xN_51, xN_52, xN_53, xN_54, xN_55, ti_0, ti_1, ti_2, ti_3, ti_4, ti_5, ti_6, ti_7, ti_8, ti_9, ti_10, ti_16, ti_19, ti_20, ti_29, ti_30, ti_31, ti_32, ti_35, ti_36, ti_38, ti_39, ti_40, ti_41, ti_42, ti_43, ti_44, ti_45, ti_46, ti_47, ti_48, ti_49, ti_50, ti_51, ti_52, ti_53, ti_54, ti_55, ti_56, ti_57, ti_58, ti_59, ti_60, ti_61, ti_62, ti_63, ti_64, ti_65, ti_74, ti_77, ti_126, ti_200, ti_201, ti_202, ti_203, ti_204, ti_205, ti_210, ti_255, ti_256, ti_400, ti_512, ti_600, ti_601, ti_602, ti_1000, ti_1023, ti_1024, ti_2000, ti_10000, ti_12602, ti_999999, ti_m999999, ti_m1, ti_2000000, ti_3000000, xN_1, xN_4, xN_5, xN_60, xN_61, xN_64, xN_200, xN_800, xN_12000, xN_12602, eq_self, and_self, and_true, true_and, if_true, if_false, decide_true, Nat.reduceLeDiff, xc2_int, xc2_ref, xc2_ra, xc2_null, xc2_long, xc2_none, xisaT_ref, xisaT_ra, xisaT_null, xc1T_int, xc1T_ref, xc1T_ra, xc1T_null, xsum_nil, xsum_int, xsum_ref, xsum_ra, xsum_long, xsum_double, xsum_null, xfl_nil, xfl_int, xfl_ref, xfl_ra, xfl_null, xfl_long, xfl_double, List.length_cons, List.length_nil, s0, hic, h1, k2, hem, k4, not_false_eq_true, xfk, xfv, xak, xan, xcls, xsv', List.getElem?_cons_zero, List.getElem?_cons_succ, List.getD_cons_zero, List.getD_cons_succ, Option.getD_some, Option.isSome_some, if_true, if_pos, xcont, Option.toList_none, Option.toList_some, List.nil_append, List.cons_append]
theorem m_setNumber {z v : Int} (hS : MdS S m) (hI : MdI g m P A sn H) (tz : ti z = z) (tv : ti v = v) (hall : 0 ≤ A.2.2.2.2 ∧ A.2.2.2.2 ≤ 900000) :
    (¬ ((0 ≤ z ∧ z < 200) ∧ -999999 ≤ v ∧ v ≤ 999999) → MRs X S g m 300 (d + 12) [.ref m, .int (iI z), .int (iI v)] 1 (.int (iI 0)) P A sn H) ∧
    ((0 ≤ z ∧ z < 200) ∧ -999999 ≤ v ∧ v ≤ 999999 → MRs X S g m 300 (d + 12) [.ref m, .int (iI z), .int (iI v)] 0 (.int (iI (chN A z 1 v []))) P (chS A z 1 v []) sn (recH A H)) := by
  have s0 := hS.1
  have s1 := MdS_1 hS
  have hic := fun w => m_isCell (X := X) (d := d + 10) (w := w) tz
  have has := fun G b hb => m_asks (X := X) (d := d + 11) (g := G) (b := b) hS hb
  have h0 := fun G => has G 0 (.inl rfl)
  have h1 := fun G => has G 1 (.inr rfl)
  simp only [show (1 : Int) - 0 = 1 from rfl, show (1 : Int) - 1 = 0 from rfl] at h0 h1
  have hin := fun w Q => m_in (X := X) (d := d + 11) (w := w) (Q := Q) v (-999999) 999999
  simp only [tv, ti_999999, ti_m999999] at hin
  refine ⟨fun h => ?_, fun h => ?_⟩
  · refine ⟨gs g m 11 1, Fm_slot, MdI_slot (by decide) hI, by rw [gs_at, if_pos rfl], fun Q => ?_⟩
    rw [e300]
    by_cases hz : 0 ≤ z ∧ z < 200
    · simp only [if_pos hz] at hic
      simp only [if_neg (fun e => h ⟨hz, e⟩)] at hin
      simp (config := { decide := true }) only [w_aload_n0 (pc' := 1) q300 d300_0 rfl, w_iload_n1 (pc' := 2) q300 d300_1 rfl, w_invs1 (pc' := 5) q300 d300_2 rfl (by decide +kernel) k300_392_99 m262.1, w_if_eq (tg := 25) (pc' := 8) q300 d300_5 (by decide) rfl, w_iload_n2 (pc' := 9) q300 d300_8 rfl, w_ldcw (z := (-999999)) (pc' := 12) q300 d300_9 rfl (by decide +kernel), w_ldcw (z := (999999)) (pc' := 15) q300 d300_12 rfl (by decide +kernel), w_invs3 (pc' := 18) q300 d300_15 rfl (by decide +kernel) k300_91_99 m232.1, w_if_eq (tg := 25) (pc' := 21) q300 d300_18 (by decide) rfl, w_iconst (pc' := 22) q300 d300_21 rfl, w_goto (tg := 26) q300 d300_22 (by decide), w_iconst (pc' := 26) q300 d300_25 rfl, w_invv1 (ci := 11) (pc' := 29) q300 d300_26 rfl n300_395 k300_395_11 m263.1, w_if_ne (tg := 34) (pc' := 32) q300 d300_29 (by decide) rfl, w_iconst (pc' := 33) q300 d300_32 rfl, w_ireturn q300 d300_33 m300.2.1, w_aload_n0 (pc' := 35) q300 d300_34 rfl, w_invv0 (ci := 11) (pc' := 38) q300 d300_35 rfl n300_399 k300_399_11 m264.1, w_aload_n0 (pc' := 39) q300 d300_38 rfl, w_iload_n1 (pc' := 40) q300 d300_39 rfl, w_invv1 (ci := 11) (pc' := 43) q300 d300_40 rfl n300_379 k300_379_11 m268.1, w_aload_n0 (pc' := 44) q300 d300_43 rfl, w_getV (pc' := 47) q300 d300_44 rfl f300_7, w_iload_n1 (pc' := 48) q300 d300_47 rfl, w_iconst (pc' := 49) q300 d300_48 rfl, w_iastore (pc' := 50) q300 d300_49 rfl, w_aload_n0 (pc' := 51) q300 d300_50 rfl, w_getV (pc' := 54) q300 d300_51 rfl f300_7, w_sipush (z' := (200)) (pc' := 57) q300 d300_54 rfl (by decide), w_iload_n1 (pc' := 58) q300 d300_57 rfl, w_iadd (pc' := 59) q300 d300_58 rfl, w_iload_n2 (pc' := 60) q300 d300_59 rfl, w_iastore (pc' := 61) q300 d300_60 rfl, w_aload_n0 (pc' := 62) q300 d300_61 rfl, w_iload_n1 (pc' := 63) q300 d300_62 rfl, w_invv1 (ci := 11) (pc' := 66) q300 d300_63 rfl n300_405 k300_405_11 m270.1, w_ireturn q300 d300_66 m300.2.1, gs_off, gs_off0, gs_0off, gs_2, xN_0, xN_2, xN_3, xN_6, xN_7, xN_8, xN_9, xN_10, xN_11, xN_12, xN_13, xN_14, xN_15, xN_16, xN_17, xN_18, xN_19, xN_20, xN_21, xN_22, xN_23, xN_24, xN_25, xN_26, xN_27, xN_28, xN_29, xN_30, xN_31, xN_32, xN_33, xN_34, xN_35, xN_36, xN_37, xN_38, xN_39, xN_40, xN_41, xN_42, xN_43, xN_44, xN_45, xN_46, xN_47, xN_48, xN_49, xN_50, xN_51, xN_52, xN_53, xN_54, xN_55, ti_0, ti_1, ti_2, ti_3, ti_4, ti_5, ti_6, ti_7, ti_8, ti_9, ti_10, ti_16, ti_19, ti_20, ti_29, ti_30, ti_31, ti_32, ti_35, ti_36, ti_38, ti_39, ti_40, ti_41, ti_42, ti_43, ti_44, ti_45, ti_46, ti_47, ti_48, ti_49, ti_50, ti_51, ti_52, ti_53, ti_54, ti_55, ti_56, ti_57, ti_58, ti_59, ti_60, ti_61, ti_62, ti_63, ti_64, ti_65, ti_74, ti_77, ti_126, ti_200, ti_201, ti_202, ti_203, ti_204, ti_205, ti_210, ti_255, ti_256, ti_400, ti_512, ti_600, ti_601, ti_602, ti_1000, ti_1023, ti_1024, ti_2000, ti_10000, ti_12602, ti_999999, ti_m999999, ti_m1, ti_2000000, ti_3000000, xN_1, xN_4, xN_5, xN_60, xN_61, xN_64, xN_200, xN_800, xN_12000, xN_12602, eq_self, and_self, and_true, true_and, if_true, if_false, decide_true, Nat.reduceLeDiff, xc2_int, xc2_ref, xc2_ra, xc2_null, xc2_long, xc2_none, xisaT_ref, xisaT_ra, xisaT_null, xc1T_int, xc1T_ref, xc1T_ra, xc1T_null, xsum_nil, xsum_int, xsum_ref, xsum_ra, xsum_long, xsum_double, xsum_null, xfl_nil, xfl_int, xfl_ref, xfl_ra, xfl_null, xfl_long, xfl_double, List.length_cons, List.length_nil, s0, hic, hin, h0, not_true_eq_false, xfk, xfv, xak, xan, xcls, xsv', List.getElem?_cons_zero, List.getElem?_cons_succ, List.getD_cons_zero, List.getD_cons_succ, Option.getD_some, Option.isSome_some, if_true, if_pos, xcont, Option.toList_none, Option.toList_some, List.nil_append, List.cons_append]
    · simp only [if_neg hz] at hic
      simp (config := { decide := true }) only [w_aload_n0 (pc' := 1) q300 d300_0 rfl, w_iload_n1 (pc' := 2) q300 d300_1 rfl, w_invs1 (pc' := 5) q300 d300_2 rfl (by decide +kernel) k300_392_99 m262.1, w_if_eq (tg := 25) (pc' := 8) q300 d300_5 (by decide) rfl, w_iload_n2 (pc' := 9) q300 d300_8 rfl, w_ldcw (z := (-999999)) (pc' := 12) q300 d300_9 rfl (by decide +kernel), w_ldcw (z := (999999)) (pc' := 15) q300 d300_12 rfl (by decide +kernel), w_invs3 (pc' := 18) q300 d300_15 rfl (by decide +kernel) k300_91_99 m232.1, w_if_eq (tg := 25) (pc' := 21) q300 d300_18 (by decide) rfl, w_iconst (pc' := 22) q300 d300_21 rfl, w_goto (tg := 26) q300 d300_22 (by decide), w_iconst (pc' := 26) q300 d300_25 rfl, w_invv1 (ci := 11) (pc' := 29) q300 d300_26 rfl n300_395 k300_395_11 m263.1, w_if_ne (tg := 34) (pc' := 32) q300 d300_29 (by decide) rfl, w_iconst (pc' := 33) q300 d300_32 rfl, w_ireturn q300 d300_33 m300.2.1, w_aload_n0 (pc' := 35) q300 d300_34 rfl, w_invv0 (ci := 11) (pc' := 38) q300 d300_35 rfl n300_399 k300_399_11 m264.1, w_aload_n0 (pc' := 39) q300 d300_38 rfl, w_iload_n1 (pc' := 40) q300 d300_39 rfl, w_invv1 (ci := 11) (pc' := 43) q300 d300_40 rfl n300_379 k300_379_11 m268.1, w_aload_n0 (pc' := 44) q300 d300_43 rfl, w_getV (pc' := 47) q300 d300_44 rfl f300_7, w_iload_n1 (pc' := 48) q300 d300_47 rfl, w_iconst (pc' := 49) q300 d300_48 rfl, w_iastore (pc' := 50) q300 d300_49 rfl, w_aload_n0 (pc' := 51) q300 d300_50 rfl, w_getV (pc' := 54) q300 d300_51 rfl f300_7, w_sipush (z' := (200)) (pc' := 57) q300 d300_54 rfl (by decide), w_iload_n1 (pc' := 58) q300 d300_57 rfl, w_iadd (pc' := 59) q300 d300_58 rfl, w_iload_n2 (pc' := 60) q300 d300_59 rfl, w_iastore (pc' := 61) q300 d300_60 rfl, w_aload_n0 (pc' := 62) q300 d300_61 rfl, w_iload_n1 (pc' := 63) q300 d300_62 rfl, w_invv1 (ci := 11) (pc' := 66) q300 d300_63 rfl n300_405 k300_405_11 m270.1, w_ireturn q300 d300_66 m300.2.1, gs_off, gs_off0, gs_0off, gs_2, xN_0, xN_2, xN_3, xN_6, xN_7, xN_8, xN_9, xN_10, xN_11, xN_12, xN_13, xN_14, xN_15, xN_16, xN_17, xN_18, xN_19, xN_20, xN_21, xN_22, xN_23, xN_24, xN_25, xN_26, xN_27, xN_28, xN_29, xN_30, xN_31, xN_32, xN_33, xN_34, xN_35, xN_36, xN_37, xN_38, xN_39, xN_40, xN_41, xN_42, xN_43, xN_44, xN_45, xN_46, xN_47, xN_48, xN_49, xN_50, xN_51, xN_52, xN_53, xN_54, xN_55, ti_0, ti_1, ti_2, ti_3, ti_4, ti_5, ti_6, ti_7, ti_8, ti_9, ti_10, ti_16, ti_19, ti_20, ti_29, ti_30, ti_31, ti_32, ti_35, ti_36, ti_38, ti_39, ti_40, ti_41, ti_42, ti_43, ti_44, ti_45, ti_46, ti_47, ti_48, ti_49, ti_50, ti_51, ti_52, ti_53, ti_54, ti_55, ti_56, ti_57, ti_58, ti_59, ti_60, ti_61, ti_62, ti_63, ti_64, ti_65, ti_74, ti_77, ti_126, ti_200, ti_201, ti_202, ti_203, ti_204, ti_205, ti_210, ti_255, ti_256, ti_400, ti_512, ti_600, ti_601, ti_602, ti_1000, ti_1023, ti_1024, ti_2000, ti_10000, ti_12602, ti_999999, ti_m999999, ti_m1, ti_2000000, ti_3000000, xN_1, xN_4, xN_5, xN_60, xN_61, xN_64, xN_200, xN_800, xN_12000, xN_12602, eq_self, and_self, and_true, true_and, if_true, if_false, decide_true, Nat.reduceLeDiff, xc2_int, xc2_ref, xc2_ra, xc2_null, xc2_long, xc2_none, xisaT_ref, xisaT_ra, xisaT_null, xc1T_int, xc1T_ref, xc1T_ra, xc1T_null, xsum_nil, xsum_int, xsum_ref, xsum_ra, xsum_long, xsum_double, xsum_null, xfl_nil, xfl_int, xfl_ref, xfl_ra, xfl_null, xfl_long, xfl_double, List.length_cons, List.length_nil, s0, hic, h0, not_true_eq_false, xfk, xfv, xak, xan, xcls, xsv', List.getElem?_cons_zero, List.getElem?_cons_succ, List.getD_cons_zero, List.getD_cons_succ, Option.getD_some, Option.isSome_some, if_true, if_pos, xcont, Option.toList_none, Option.toList_some, List.nil_append, List.cons_append]
  · obtain ⟨hz, hv⟩ := h
    simp only [if_pos hz] at hic
    simp only [if_pos hv] at hin
    have hI0 : MdI (gs g m 11 0) m P A sn H := MdI_slot (by decide) hI
    obtain ⟨g2, f2, i2, r2, s2, k2⟩ := m_rec (X := X) (d := d + 9) hS hI0
    have hem := m_empties (X := X) (d := d + 10) (g := g2) hS hz
    have hrg := i2.2.2.1 1 (by decide) (by decide)
    obtain ⟨r', er'⟩ : ∃ r' : Int → Int, r' = fun i => if i = 200 + z then v else if i = z then 1 else emR (g2 (m + 1)) z i := ⟨_, rfl⟩
    have hmem : gs (gs (gr g2 (m + 1) (emR (g2 (m + 1)) z)) (m + 1) z 1) (m + 1) (200 + z) v = gr g2 (m + 1) r' := by
      funext k i
      unfold gr
      by_cases e : k = m + 1
      · subst e
        rw [gs_at, gs_at, if_pos rfl, if_pos rfl, er']
      · rw [gs_row _ _ _ e, gs_row _ _ _ e, if_neg e, if_neg e]
    have c1 : CelR r' z 1 v (mks []) := by
      refine ⟨?_, fun _ => ?_, fun e => absurd e (by decide), fun _ => ?_⟩
      · rw [er']; dsimp only; rw [if_neg (by omega), if_pos rfl]
      · rw [er']; dsimp only; rw [if_pos rfl]
      · rw [er']; dsimp only; rw [if_neg (by omega), if_neg (by omega)]; exact emR_on (.inr (.inr (.inl rfl)))
    have c2 : ∀ i, ¬ celI z i → r' i = g2 (m + 1) i := fun i hi => by
      have hi' := hi
      unfold celI at hi'
      rw [er']; dsimp only; rw [if_neg (by omega), if_neg (by omega)]; exact emR_off hi
    have c3 : rgR r' := fun i => by
      rw [er']; dsimp only
      split
      · omega
      split
      · decide
      · exact emR_rg hrg i
    obtain ⟨g4, f4, i4, e4, k4⟩ := m_set (X := X) (d := d + 4) (z := z) (kd := 1) (nu := v) hS i2 hz (.inr rfl) hv hall c1 c2 c3
    have t2 : ti (200 + z) = 200 + z := ti_eq (by omega) (by omega)
    have b1 : 0 ≤ z := hz.1
    have b2 : z < 12602 := by omega
    have b3 : 0 ≤ 200 + z := by omega
    have b4 : 200 + z < 12602 := by omega
    rw [← hmem] at k4
    refine ⟨g4, Fm_trans Fm_slot (Fm_trans f2 f4), i4, ?_, fun Q => ?_⟩
    · rw [e4, s2 11 (by decide) (by decide), gs_at, if_pos rfl]
    · rw [e300]
      simp (config := { decide := true }) only [w_aload_n0 (pc' := 1) q300 d300_0 rfl, w_iload_n1 (pc' := 2) q300 d300_1 rfl, w_invs1 (pc' := 5) q300 d300_2 rfl (by decide +kernel) k300_392_99 m262.1, w_if_eq (tg := 25) (pc' := 8) q300 d300_5 (by decide) rfl, w_iload_n2 (pc' := 9) q300 d300_8 rfl, w_ldcw (z := (-999999)) (pc' := 12) q300 d300_9 rfl (by decide +kernel), w_ldcw (z := (999999)) (pc' := 15) q300 d300_12 rfl (by decide +kernel), w_invs3 (pc' := 18) q300 d300_15 rfl (by decide +kernel) k300_91_99 m232.1, w_if_eq (tg := 25) (pc' := 21) q300 d300_18 (by decide) rfl, w_iconst (pc' := 22) q300 d300_21 rfl, w_goto (tg := 26) q300 d300_22 (by decide), w_iconst (pc' := 26) q300 d300_25 rfl, w_invv1 (ci := 11) (pc' := 29) q300 d300_26 rfl n300_395 k300_395_11 m263.1, w_if_ne (tg := 34) (pc' := 32) q300 d300_29 (by decide) rfl, w_iconst (pc' := 33) q300 d300_32 rfl, w_ireturn q300 d300_33 m300.2.1, w_aload_n0 (pc' := 35) q300 d300_34 rfl, w_invv0 (ci := 11) (pc' := 38) q300 d300_35 rfl n300_399 k300_399_11 m264.1, w_aload_n0 (pc' := 39) q300 d300_38 rfl, w_iload_n1 (pc' := 40) q300 d300_39 rfl, w_invv1 (ci := 11) (pc' := 43) q300 d300_40 rfl n300_379 k300_379_11 m268.1, w_aload_n0 (pc' := 44) q300 d300_43 rfl, w_getV (pc' := 47) q300 d300_44 rfl f300_7, w_iload_n1 (pc' := 48) q300 d300_47 rfl, w_iconst (pc' := 49) q300 d300_48 rfl, w_iastore (pc' := 50) q300 d300_49 rfl, w_aload_n0 (pc' := 51) q300 d300_50 rfl, w_getV (pc' := 54) q300 d300_51 rfl f300_7, w_sipush (z' := (200)) (pc' := 57) q300 d300_54 rfl (by decide), w_iload_n1 (pc' := 58) q300 d300_57 rfl, w_iadd (pc' := 59) q300 d300_58 rfl, w_iload_n2 (pc' := 60) q300 d300_59 rfl, w_iastore (pc' := 61) q300 d300_60 rfl, w_aload_n0 (pc' := 62) q300 d300_61 rfl, w_iload_n1 (pc' := 63) q300 d300_62 rfl, w_invv1 (ci := 11) (pc' := 66) q300 d300_63 rfl n300_405 k300_405_11 m270.1, w_ireturn q300 d300_66 m300.2.1, gs_off, gs_off0, gs_0off, gs_2, xN_0, xN_2, xN_3, xN_6, xN_7, xN_8, xN_9, xN_10, xN_11, xN_12, xN_13, xN_14, xN_15, xN_16, xN_17, xN_18, xN_19, xN_20, xN_21, xN_22, xN_23, xN_24, xN_25, xN_26, xN_27, xN_28, xN_29, xN_30, xN_31, xN_32, xN_33, xN_34, xN_35, xN_36, xN_37, xN_38, xN_39, xN_40, xN_41, xN_42, xN_43, xN_44, xN_45, xN_46, xN_47, xN_48, xN_49, xN_50, xN_51, xN_52, xN_53, xN_54, xN_55, ti_0, ti_1, ti_2, ti_3, ti_4, ti_5, ti_6, ti_7, ti_8, ti_9, ti_10, ti_16, ti_19, ti_20, ti_29, ti_30, ti_31, ti_32, ti_35, ti_36, ti_38, ti_39, ti_40, ti_41, ti_42, ti_43, ti_44, ti_45, ti_46, ti_47, ti_48, ti_49, ti_50, ti_51, ti_52, ti_53, ti_54, ti_55, ti_56, ti_57, ti_58, ti_59, ti_60, ti_61, ti_62, ti_63, ti_64, ti_65, ti_74, ti_77, ti_126, ti_200, ti_201, ti_202, ti_203, ti_204, ti_205, ti_210, ti_255, ti_256, ti_400, ti_512, ti_600, ti_601, ti_602, ti_1000, ti_1023, ti_1024, ti_2000, ti_10000, ti_12602, ti_999999, ti_m999999, ti_m1, ti_2000000, ti_3000000, xN_1, xN_4, xN_5, xN_60, xN_61, xN_64, xN_200, xN_800, xN_12000, xN_12602, eq_self, and_self, and_true, true_and, if_true, if_false, decide_true, Nat.reduceLeDiff, xc2_int, xc2_ref, xc2_ra, xc2_null, xc2_long, xc2_none, xisaT_ref, xisaT_ra, xisaT_null, xc1T_int, xc1T_ref, xc1T_ra, xc1T_null, xsum_nil, xsum_int, xsum_ref, xsum_ra, xsum_long, xsum_double, xsum_null, xfl_nil, xfl_int, xfl_ref, xfl_ra, xfl_null, xfl_long, xfl_double, List.length_cons, List.length_nil, s0, s1, hic, hin, h1, k2, hem, tz, t2, b1, b2, b3, b4, k4, not_false_eq_true, xfk, xfv, xak, xan, xcls, xsv', List.getElem?_cons_zero, List.getElem?_cons_succ, List.getD_cons_zero, List.getD_cons_succ, Option.getD_some, Option.isSome_some, if_true, if_pos, xcont, Option.toList_none, Option.toList_some, List.nil_append, List.cons_append]
end
