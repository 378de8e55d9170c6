/-! what is right stays right -/
section
def FmA (K : Int → Int) (c : Int) : Bool := decide (K c = 2)
def RfA (K : Int → Int) (T : Int → List Int) (c o : Int) : Prop := K c = 2 ∧ ∃ t ∈ T c, rfT t o
theorem fmC_eq (g : xGm) (b : Nat) : fmC g b = FmA (g (b + 1)) := rfl
theorem rfC_eq (g : xGm) (b : Nat) : rfC g b = RfA (g (b + 1)) (tkl g b) := by
  funext c o
  apply propext
  constructor
  · rintro ⟨h, q, q1, q2, q3⟩
    refine ⟨h, g (b + 5) (c * 60 + q), ?_, q3⟩
    unfold tkl
    rw [List.mem_map]
    exact ⟨q.toNat, List.mem_range.mpr (by omega), by rw [show ((q.toNat : Nat) : Int) = q by omega]⟩
  · rintro ⟨h, h2⟩
    exact tkl_rf h h2
/-- a right state: an order, and results that are those of the contents -/
def Sol (K : Int → Int) (T : Int → List Int) (Er R r : Int → Int) (n : Int) : Prop := OdF (FmA K) (RfA K T) r n ∧ 0 ≤ n ∧ onx (FmA K) (RfA K T) r n < 0 ∧ ResOK K T Er R r n
def VfA (K : Int → Int) (T : Int → List Int) : Prop := ∀ c, 0 ≤ c → c < 200 → K c = 2 → ∃ v : Ev, ∃ r n, Tr 0 r n (T c) v
theorem placed_in {F : Int → Bool} {R : Int → Int → Prop} {r : Int → Int} {n c : Int} (he : onx F R r n < 0) (h1 : 0 ≤ c) (h2 : c < 200) (hF : F c = true) (hr : ∀ o, 0 ≤ o → o < 200 → F o = true → R c o → oin r n o) : oin r n c := by
  refine Classical.byContradiction (fun hno => ?_)
  unfold onx at he
  rcases low_spec (p := fun c => cb (F c = true ∧ ¬ oin r n c ∧ ∀ o, 0 ≤ o → o < 200 → F o = true → R c o → oin r n o)) 200 0 with ⟨_, x⟩ | ⟨x, _⟩
  · exact cb_not.mp (x c h1 (by omega)) ⟨hF, hno, hr⟩
  · omega
/-- what is placed in one order is in another that is alike on U -/
theorem placed_sub {F F0 : Int → Bool} {R R0 : Int → Int → Prop} {r r0 : Int → Int} {n n0 : Int} {U : Int → Prop} (h0 : OdF F0 R0 r0 n0) (he : onx F R r n < 0) (hF : ∀ c, 0 ≤ c → c < 200 → U c → F0 c = true → F c = true) (hR : ∀ c o, 0 ≤ c → c < 200 → 0 ≤ o → o < 200 → U c → F c = true → F o = true → R c o → U o ∧ F0 o = true ∧ R0 c o) : ∀ c, U c → oin r0 n0 c → oin r n c := by
  have key : ∀ m : Nat, ∀ i : Int, 0 ≤ i → i < m → i < n0 → U (r0 i) → oin r n (r0 i) := by
    intro m
    induction m with
    | zero => intro i h1 h2; omega
    | succ m ih =>
      intro i h1 h2 h3 hu
      obtain ⟨p1, p2, p3, p4, p5⟩ := OdF_at h0 h1 h3
      refine placed_in he p1 p2 (hF _ p1 p2 hu p3) (fun o o1 o2 o3 o4 => ?_)
      obtain ⟨u1, u2, u3⟩ := hR _ o p1 p2 o1 o2 hu (hF _ p1 p2 hu p3) o3 o4
      obtain ⟨j, j1, j2, j3⟩ := p5 o o1 o2 u2 u3
      have := ih j j1 (by omega) (by omega) (by rw [j3]; exact u1)
      rw [j3] at this
      exact this
  rintro c hu ⟨i, i1, i2, i3⟩
  have := key (i.toNat + 1) i i1 (by omega) i2 (by rw [i3]; exact hu)
  rw [i3] at this
  exact this
/-- the results after the marked formulas are computed -/
def CmA (K : Int → Int) (T : Int → List Int) (M : Int → Prop) (Er R Er' R' r : Int → Int) (n : Int) : Prop :=
  ∀ c, 0 ≤ c → c < 200 → (¬ (K c = 2 ∧ M c) → Er' c = Er c ∧ R' c = R c) ∧ (K c = 2 → M c → oin r n c → Er' c = (evT (T c) K Er' R' 0 0).1 ∧ R' c = (evT (T c) K Er' R' 0 0).2) ∧ (K c = 2 → M c → ¬ oin r n c → Er' c = 5 ∧ R' c = 0)
theorem Sol_all {K Er R Er' R' r : Int → Int} {T : Int → List Int} {M : Int → Prop} {n : Int} (hO : OdF (FmA K) (RfA K T) r n) (hn : 0 ≤ n) (he : onx (FmA K) (RfA K T) r n < 0) (hM : ∀ c, 0 ≤ c → c < 200 → K c = 2 → M c) (h : CmA K T M Er R Er' R' r n) (hE : ∀ c, 0 ≤ c → c < 200 → ¬ K c = 2 → Er c = 0 ∧ (K c = 0 → R c = 0)) : Sol K T Er' R' r n := by
  refine ⟨hO, hn, he, fun c c1 c2 => ?_⟩
  obtain ⟨a1, a2, a3⟩ := h c c1 c2
  refine ⟨fun hk ho => a2 hk (hM c c1 c2 hk) ho, fun hk ho => a3 hk (hM c c1 c2 hk) ho, fun hk => ?_, fun hk => ?_⟩
  · rw [(a1 (fun x => hk x.1)).1]; exact (hE c c1 c2 hk).1
  · rw [(a1 (fun x => by omega)).2]; exact (hE c c1 c2 (by omega)).2 hk
theorem Sol_from {K K0 Er R Er0 R0 Er' R' r r0 : Int → Int} {T T0 : Int → List Int} {M : Int → Prop} {n n0 d : Int} (h0 : Sol K0 T0 Er0 R0 r0 n0) (hO : OdF (FmA K) (RfA K T) r n) (hn : 0 ≤ n) (he : onx (FmA K) (RfA K T) r n < 0) (hV : VfA K T)
    (hoff : ∀ c, 0 ≤ c → c < 200 → ¬ c = d → K c = K0 c ∧ T c = T0 c ∧ Er c = Er0 c ∧ R c = R0 c) (hd : ¬ K d = 2 → Er d = 0 ∧ (K d = 0 → R d = 0))
    (hM : ∀ c, 0 ≤ c → c < 200 → K c = 2 → (c = d ∨ ∃ b, 0 ≤ b ∧ b < 200 ∧ RfA K T c b ∧ (b = d ∨ (K b = 2 ∧ M b))) → M c) (h : CmA K T M Er R Er' R' r n) : Sol K T Er' R' r n := by
  refine ⟨hO, hn, he, fun c c1 c2 => ?_⟩
  obtain ⟨a1, a2, a3⟩ := h c c1 c2
  obtain ⟨hO0, hn0, he0, hR0⟩ := h0
  by_cases hm : K c = 2 ∧ M c
  · exact ⟨fun hk ho => a2 hk hm.2 ho, fun hk ho => a3 hk hm.2 ho, fun hk => absurd hm.1 hk, fun hk => by omega⟩
  · obtain ⟨e1, e2⟩ := a1 hm
    by_cases hk2 : K c = 2
    · have hnm : ¬ M c := fun x => hm ⟨hk2, x⟩
      have hcd : ¬ c = d := fun e => hnm (hM c c1 c2 hk2 (.inl e))
      obtain ⟨k1, k2, k3, k4⟩ := hoff c c1 c2 hcd
      -- what an unmarked formula refers to is unmarked, and not d
      have hcl : ∀ x o, 0 ≤ x → x < 200 → 0 ≤ o → o < 200 → K x = 2 → ¬ M x → RfA K T x o → ¬ o = d ∧ ¬ (K o = 2 ∧ M o) := fun x o x1 x2 o1 o2 hx hnx hr =>
        ⟨fun e => hnx (hM x x1 x2 hx (.inr ⟨o, o1, o2, hr, .inl e⟩)), fun e => hnx (hM x x1 x2 hx (.inr ⟨o, o1, o2, hr, .inr e⟩))⟩
      have hU : ∀ x, 0 ≤ x → x < 200 → ¬ M x ∧ K x = 2 → K0 x = 2 ∧ T0 x = T x := fun x x1 x2 hx => by
        obtain ⟨k1, k2, -⟩ := hoff x x1 x2 (fun e => hx.1 (hM x x1 x2 hx.2 (.inl e)))
        exact ⟨by omega, k2.symm⟩
      have hpl : oin r n c ↔ oin r0 n0 c := by
        constructor
        · refine placed_sub (U := fun x => 0 ≤ x ∧ x < 200 ∧ ¬ M x ∧ K x = 2) hO he0 (fun x x1 x2 hx _ => decide_eq_true (hU x x1 x2 hx.2.2).1) (fun x o x1 x2 o1 o2 hx h3 h4 h5 => ?_) c ⟨c1, c2, hnm, hk2⟩
          obtain ⟨u1, u2⟩ := hU x x1 x2 hx.2.2
          obtain ⟨h51, t, h52, h53⟩ := h5
          rw [u2] at h52
          have hr : RfA K T x o := ⟨hx.2.2.2, t, h52, h53⟩
          obtain ⟨v1, v2⟩ := hcl x o x1 x2 o1 o2 hx.2.2.2 hx.2.2.1 hr
          have hko : K o = 2 := by
            have := (hoff o o1 o2 v1).1
            have := of_decide_eq_true h4
            omega
          exact ⟨⟨o1, o2, fun hmo => v2 ⟨hko, hmo⟩, hko⟩, decide_eq_true hko, hr⟩
        · refine placed_sub (U := fun x => 0 ≤ x ∧ x < 200 ∧ ¬ M x ∧ K x = 2) hO0 he (fun x x1 x2 hx _ => decide_eq_true hx.2.2.2) (fun x o x1 x2 o1 o2 hx h3 h4 h5 => ?_) c ⟨c1, c2, hnm, hk2⟩
          obtain ⟨v1, v2⟩ := hcl x o x1 x2 o1 o2 hx.2.2.2 hx.2.2.1 h5
          have hko : K o = 2 := of_decide_eq_true h4
          obtain ⟨u1, u2⟩ := hU x x1 x2 hx.2.2
          obtain ⟨w1, w2⟩ := hU o o1 o2 ⟨fun hmo => v2 ⟨hko, hmo⟩, hko⟩
          refine ⟨⟨o1, o2, fun hmo => v2 ⟨hko, hmo⟩, hko⟩, decide_eq_true w1, u1, ?_⟩
          rw [u2]; exact h5.2
      obtain ⟨b1, b2, b3, b4⟩ := hR0 c c1 c2
      refine ⟨fun _ ho => ?_, fun _ ho => ?_, fun hk => absurd hk2 hk, fun hk => by omega⟩
      · have := b1 (by omega) (hpl.mp ho)
        rw [e1, e2, k3, k4, this.1, this.2, k2]
        have hev : evT (T0 c) K0 Er0 R0 0 0 = evT (T0 c) K Er' R' 0 0 := by
          refine evT_loc (by rw [← k2]; exact hV c c1 c2 hk2) (fun o o1 o2 o3 => ?_)
          obtain ⟨v1, v2⟩ := hcl c o c1 c2 o1 o2 hk2 hnm ⟨hk2, by rw [k2]; exact o3⟩
          obtain ⟨w1, w2, w3, w4⟩ := hoff o o1 o2 v1
          obtain ⟨z1, z2⟩ := (h o o1 o2).1 v2
          exact ⟨w1.symm, by rw [z1, w3], by rw [z2, w4]⟩
        rw [hev]
        exact ⟨rfl, rfl⟩
      · have := b2 (by omega) (fun x => ho (hpl.mpr x))
        rw [e1, e2, k3, k4]
        exact this
    · by_cases hcd : c = d
      · subst hcd
        obtain ⟨x1, x2⟩ := hd hk2
        exact ⟨fun hk => absurd hk hk2, fun hk => absurd hk hk2, fun _ => by rw [e1]; exact x1, fun hk => by rw [e2]; exact x2 hk⟩
      · obtain ⟨k1, k2, k3, k4⟩ := hoff c c1 c2 hcd
        obtain ⟨b1, b2, b3, b4⟩ := hR0 c c1 c2
        exact ⟨fun hk => absurd hk hk2, fun hk => absurd hk hk2, fun _ => by rw [e1, k3]; exact b3 (by omega), fun hk => by rw [e2, k4]; exact b4 (by omega)⟩
/-- computed anew with all that is needed: the same again -/
theorem Sol_anew {K Er R Er1 R1 Er' R' r : Int → Int} {T : Int → List Int} {M : Int → Prop} {n : Int} (h0 : Sol K T Er R r n) (hV : VfA K T) (h1 : ∀ c, 0 ≤ c → c < 200 → ¬ K c = 2 → Er1 c = Er c ∧ R1 c = R c) (hM : ∀ c o, 0 ≤ c → c < 200 → 0 ≤ o → o < 200 → K c = 2 → M c → RfA K T c o → K o = 2 → M o) (h : CmA K T M Er1 R1 Er' R' r n) :
    ∀ c, 0 ≤ c → c < 200 → (K c = 2 → M c) → Er' c = Er c ∧ R' c = R c := by
  obtain ⟨hO, hn, he, hR⟩ := h0
  have nonF : ∀ c, 0 ≤ c → c < 200 → (K c = 2 → M c) → ¬ oin r n c → Er' c = Er c ∧ R' c = R c := fun c c1 c2 hm ho => by
    obtain ⟨a1, a2, a3⟩ := h c c1 c2
    obtain ⟨b1, b2, b3, b4⟩ := hR c c1 c2
    by_cases hk : K c = 2
    · obtain ⟨x1, x2⟩ := a3 hk (hm hk) ho
      obtain ⟨y1, y2⟩ := b2 hk ho
      exact ⟨by omega, by omega⟩
    · obtain ⟨x1, x2⟩ := a1 (fun x => hk x.1)
      obtain ⟨y1, y2⟩ := h1 c c1 c2 hk
      exact ⟨by omega, by omega⟩
  have key : ∀ m : Nat, ∀ i : Int, 0 ≤ i → i < m → i < n → M (r i) → Er' (r i) = Er (r i) ∧ R' (r i) = R (r i) := by
    intro m
    induction m with
    | zero => intro i h1 h2; omega
    | succ m ih =>
      intro i i1 i2 i3 hm
      obtain ⟨p1, p2, p3, p4, p5⟩ := OdF_at hO i1 i3
      have hk : K (r i) = 2 := of_decide_eq_true p3
      have ho : oin r n (r i) := ⟨i, i1, i3, rfl⟩
      obtain ⟨x1, x2⟩ := (h _ p1 p2).2.1 hk hm ho
      obtain ⟨y1, y2⟩ := (hR _ p1 p2).1 hk ho
      have e : evT (T (r i)) K Er' R' 0 0 = evT (T (r i)) K Er R 0 0 := by
        refine evT_loc (hV _ p1 p2 hk) (fun o o1 o2 o3 => ⟨rfl, ?_⟩)
        by_cases hfo : K o = 2
        · have hmo := hM _ o p1 p2 o1 o2 hk hm ⟨hk, o3⟩ hfo
          obtain ⟨j, j1, j2, j3⟩ := p5 o o1 o2 (decide_eq_true hfo) ⟨hk, o3⟩
          have := ih j j1 (by omega) (by omega) (by rw [j3]; exact hmo)
          rw [j3] at this
          exact this
        · refine nonF o o1 o2 (fun x => absurd x hfo) (fun ⟨j, j1, j2, j3⟩ => ?_)
          have := (OdF_at hO j1 j2).2.2.1
          rw [j3] at this
          exact hfo (of_decide_eq_true this)
      rw [x1, x2, y1, y2, e]
      exact ⟨rfl, rfl⟩
  intro c c1 c2 hm
  by_cases ho : oin r n c
  · obtain ⟨i, i1, i2, i3⟩ := ho
    have hF := (OdF_at hO i1 i2).2.2.1
    rw [i3] at hF
    have := key (i.toNat + 1) i i1 (by omega) i2 (by rw [i3]; exact hm (of_decide_eq_true hF))
    rw [i3] at this
    exact this
  · exact nonF c c1 c2 hm ho
/-- who uses whom -/
def UsE (F : Int → Bool) (Rf : Int → Int → Prop) (b c : Int) : Prop := 0 ≤ b ∧ b < 200 ∧ 0 ≤ c ∧ c < 200 ∧ F c = true ∧ Rf c b
theorem UsE_Rc {F : Int → Bool} {Rf : Int → Int → Prop} {g : xGm} {l : Nat} (hL : LkI F Rf g l) {s : Int} (hs : 0 ≤ s) (hs2 : s < 200) (c : Int) : Rc (Eg g l true) s c ↔ Rc (UsE F Rf) s c := by
  obtain ⟨q1, q2, q3, -⟩ := hL
  have e1 : ∀ b c, 0 ≤ b → b < 200 → (Eg g l true b c ↔ UsE F Rf b c) := fun b c b1 b2 => by
    constructor
    · rintro ⟨⟨j, j1, j2, j3⟩, h⟩
      obtain ⟨c', x1, x2, x3, x4⟩ := FC_ex q2 j1 j2
      rw [j3] at x4
      subst x4
      unfold nea at h
      rw [if_pos rfl] at h
      exact ⟨b1, b2, x1, x2, x3, (q1 c b x1 x2 b1 (by omega)).mp h⟩
    · rintro ⟨-, -, x1, x2, x3, x4⟩
      obtain ⟨j, j1, j2, j3⟩ := FC_at q2 x1 x2 x3
      refine ⟨⟨j, j1, j2, j3⟩, ?_⟩
      unfold nea
      rw [if_pos rfl]
      exact (q1 c b x1 x2 b1 (by omega)).mpr x4
  constructor
  · intro h
    exact (Rc_ind (P := fun c => Rc (UsE F Rf) s c) (fun c hc => Rc_one ((e1 s c hs hs2).mp hc)) (fun b c hb hPb he => by
      have hr : 0 ≤ b ∧ b < 200 := by
        exact Rc_ind (P := fun b => 0 ≤ b ∧ b < 200) (fun c hc => Eg_rng q3 s c hc) (fun b c _ _ he => Eg_rng q3 b c he) b hb
      exact Rc_step hPb ((e1 b c hr.1 hr.2).mp he)) c h)
  · intro h
    exact (Rc_ind (P := fun c => Rc (Eg g l true) s c) (fun c hc => Rc_one ((e1 s c hs hs2).mpr hc)) (fun b c _ hPb he => Rc_step hPb ((e1 b c he.1 he.2.1).mpr he)) c h)
end
