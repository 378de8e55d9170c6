/-! p53: two sheets that agree on cells that refer to each other alone -/
section
variable {A B : Sh} {U : Int → Prop}
/-- alike on U, and U is closed -/
def AgU (A B : Sh) (U : Int → Prop) : Prop := ∀ x, 0 ≤ x → x < 200 → U x → B.1 x = A.1 x ∧ (A.1 x = 1 → B.2.1 x = A.2.1 x) ∧ (A.1 x = 2 → B.2.2.1 x = A.2.2.1 x ∧ ∀ o, 0 ≤ o → o < 200 → RfS A x o → U o)
theorem AgU_rf (h : AgU A B U) {x o : Int} (x1 : 0 ≤ x) (x2 : x < 200) (hu : U x) : RfS B x o ↔ RfS A x o := by
  obtain ⟨h1, -, h3⟩ := h x x1 x2 hu
  unfold RfS RfA
  rw [h1]
  constructor
  · rintro ⟨e, ht⟩; rw [(h3 e).1] at ht; exact ⟨e, ht⟩
  · rintro ⟨e, ht⟩; rw [← (h3 e).1] at ht; exact ⟨e, ht⟩
theorem AgU_sym (h : AgU A B U) : AgU B A U := fun x x1 x2 hu => by
  obtain ⟨h1, h2, h3⟩ := h x x1 x2 hu
  refine ⟨h1.symm, fun e => (h2 (h1 ▸ e)).symm, fun e => ⟨(h3 (h1 ▸ e)).1.symm, fun o o1 o2 ho => (h3 (h1 ▸ e)).2 o o1 o2 ((AgU_rf h x1 x2 hu).mp ho)⟩⟩
theorem AgU_pl1 (hA : SlF A) (hB : SlF B) (h : AgU A B U) {x : Int} (hu : U x) (hp : plc A x) : plc B x := by
  refine placed_sub (U := fun c => U c ∧ 0 ≤ c ∧ c < 200) hA.1 hB.2.2.1 (fun c c1 c2 hc hF => ?_) (fun c o c1 c2 o1 o2 hc hF ho hr => ?_) x ⟨hu, (sf_pl hA hp).1⟩ hp
  · rw [FmA_t] at hF ⊢
    rw [(h c c1 c2 hc.1).1]; exact hF
  · rw [FmA_t] at hF ho
    have hr2 := (AgU_rf h c1 c2 hc.1).mp hr
    have huo := ((h c c1 c2 hc.1).2.2 (by rw [← (h c c1 c2 hc.1).1]; exact hF)).2 o o1 o2 hr2
    exact ⟨⟨huo, o1, o2⟩, by rw [FmA_t, ← (h o o1 o2 huo).1]; exact ho, hr2⟩
theorem AgU_pl (hA : SlF A) (hB : SlF B) (h : AgU A B U) {x : Int} (hu : U x) : plc B x ↔ plc A x := ⟨AgU_pl1 hB hA (AgU_sym h) hu, AgU_pl1 hA hB h hu⟩
theorem AgU_v1 (oA : ShOK A) (hA : SlF A) (hB : SlF B) (h : AgU A B U) : ∀ (n : Nat) (x : Int), 0 ≤ x → x < 200 → U x → (plc A x → plA A x < n) → flA B x = flA A x ∧ vlA B x = vlA A x := by
  intro n
  induction n with
  | zero =>
    intro x x1 x2 hu hn
    obtain ⟨h1, h2, h3⟩ := h x x1 x2 hu
    by_cases hk : A.1 x = 2
    · by_cases hp : plc A x
      · have := (sf_pl hA hp).2.2.1.1; have := hn hp; omega
      · obtain ⟨e1, e2⟩ := sf_cyc hA x1 x2 hk hp
        obtain ⟨e3, e4⟩ := sf_cyc hB x1 x2 (by rw [h1]; exact hk) (fun q => hp ((AgU_pl hA hB h hu).mp q))
        exact ⟨by rw [e1, e3], by rw [e2, e4]⟩
    · have k2 : ¬ B.1 x = 2 := by rw [h1]; exact hk
      rw [sf_ne hA x1 x2 hk, sf_ne hB x1 x2 k2, hA.2.2.2.2.2.2.2 x x1 x2 hk, hB.2.2.2.2.2.2.2 x x1 x2 k2, h1]
      refine ⟨rfl, ?_⟩
      by_cases e : A.1 x = 1
      · rw [if_pos e, if_pos e, h2 e]
      · rw [if_neg e, if_neg e]
  | succ n ih =>
    intro x x1 x2 hu hn
    obtain ⟨h1, h2, h3⟩ := h x x1 x2 hu
    by_cases hk : A.1 x = 2
    · by_cases hp : plc A x
      · obtain ⟨-, -, -, hr⟩ := sf_pl hA hp
        obtain ⟨a1, a2⟩ := sf_ev hA x1 x2 hk hp
        obtain ⟨b1, b2⟩ := sf_ev hB x1 x2 (by rw [h1]; exact hk) ((AgU_pl hA hB h hu).mpr hp)
        have he : evT (B.2.2.1 x) B.1 (flA B) (vlA B) 0 0 = evT (A.2.2.1 x) A.1 (flA A) (vlA A) 0 0 := by
          rw [(h3 hk).1]
          refine evT_loc ((oA x x1 x2).2.1 hk).1 (fun o o1 o2 ho => ?_)
          have huo := (h3 hk).2 o o1 o2 ⟨hk, ho⟩
          obtain ⟨e1, e2⟩ := ih o o1 o2 huo (fun hpo => by
            have := (hr o o1 o2 (sf_pl hA hpo).2.1 ⟨hk, ho⟩).2
            have := hn hp
            omega)
          exact ⟨(h o o1 o2 huo).1, e1, e2⟩
        rw [a1, a2, b1, b2, he]
        exact ⟨rfl, rfl⟩
      · obtain ⟨e1, e2⟩ := sf_cyc hA x1 x2 hk hp
        obtain ⟨e3, e4⟩ := sf_cyc hB x1 x2 (by rw [h1]; exact hk) (fun q => hp ((AgU_pl hA hB h hu).mp q))
        exact ⟨by rw [e1, e3], by rw [e2, e4]⟩
    · have k2 : ¬ B.1 x = 2 := by rw [h1]; exact hk
      rw [sf_ne hA x1 x2 hk, sf_ne hB x1 x2 k2, hA.2.2.2.2.2.2.2 x x1 x2 hk, hB.2.2.2.2.2.2.2 x x1 x2 k2, h1]
      refine ⟨rfl, ?_⟩
      by_cases e : A.1 x = 1
      · rw [if_pos e, if_pos e, h2 e]
      · rw [if_neg e, if_neg e]
theorem AgU_v (oA : ShOK A) (hA : SlF A) (hB : SlF B) (h : AgU A B U) {x : Int} (x1 : 0 ≤ x) (x2 : x < 200) (hu : U x) : flA B x = flA A x ∧ vlA B x = vlA A x :=
  AgU_v1 oA hA hB h ((plA A x).toNat + 1) x x1 x2 hu (fun _ => by omega)
/-! what depends on what -/
theorem re_iff {f c : Int} : reA A f c = true ↔ Rc (UsE (FmA A.1) (RfS A)) f c := cb_iff
theorem re_rng {f c : Int} (h : reA A f c = true) : (0 ≤ c ∧ c < 200) ∧ A.1 c = 2 := by
  rw [re_iff] at h
  refine Rc_ind (P := fun c => (0 ≤ c ∧ c < 200) ∧ A.1 c = 2) (fun c hc => ?_) (fun b c _ _ hc => ?_) c h
  · exact ⟨⟨hc.2.2.1, hc.2.2.2.1⟩, FmA_t.mp hc.2.2.2.2.1⟩
  · exact ⟨⟨hc.2.2.1, hc.2.2.2.1⟩, FmA_t.mp hc.2.2.2.2.1⟩
theorem re_one {f c : Int} (f1 : 0 ≤ f) (f2 : f < 200) (c1 : 0 ≤ c) (c2 : c < 200) (h : RfS A c f) : reA A f c = true := re_iff.mpr (Rc_one ⟨f1, f2, c1, c2, FmA_t.mpr h.1, h⟩)
theorem re_step {f b c : Int} (h : reA A f b = true) (c1 : 0 ≤ c) (c2 : c < 200) (hr : RfS A c b) : reA A f c = true := by
  obtain ⟨⟨b1, b2⟩, -⟩ := re_rng h
  exact re_iff.mpr (Rc_step (re_iff.mp h) ⟨b1, b2, c1, c2, FmA_t.mpr hr.1, hr⟩)
/-- a placed cell doesn't depend on itself, nor on what comes later -/
theorem re_plc (h : SlF A) {f c : Int} (hr : reA A f c = true) (hp : plc A c) (hf : A.1 f = 2) : plc A f ∧ plA A f < plA A c := by
  have key : ∀ c, Rc (UsE (FmA A.1) (RfS A)) f c → plc A c → plc A f ∧ plA A f < plA A c := by
    refine Rc_ind (fun c hc hp => ?_) (fun b c hb ih hc hp => ?_)
    · exact (sf_pl h hp).2.2.2 f hc.1 hc.2.1 hf hc.2.2.2.2.2
    · have h2 := (re_rng (re_iff.mpr hb)).2
      obtain ⟨q1, q2⟩ := (sf_pl h hp).2.2.2 b hc.1 hc.2.1 h2 hc.2.2.2.2.2
      obtain ⟨q3, q4⟩ := ih q1
      exact ⟨q3, by omega⟩
  exact key c (re_iff.mp hr) hp
theorem re_self (oA : ShOK A) (h : SlF A) {c : Int} (hr : reA A c c = true) : flA A c = 5 := by
  obtain ⟨⟨c1, c2⟩, hk⟩ := re_rng hr
  refine (sf_5 oA h c1 c2).mpr ⟨hk, fun hp => ?_⟩
  have := (re_plc h hr hp hk).2
  omega
/-! a number in a cell -/
theorem tmp_ag {c n : Int} {U : Int → Prop} (hU : ∀ x, U x → ¬ x = c) (hc : ∀ x, 0 ≤ x → x < 200 → U x → A.1 x = 2 → ∀ o, 0 ≤ o → o < 200 → RfS A x o → U o) {k : Int} : AgU A (tmpA A c k n) U := fun x x1 x2 hu => by
  have e := hU x hu
  unfold tmpA
  dsimp only
  rw [if_neg e, if_neg e]
  exact ⟨rfl, fun _ => rfl, fun h2 => ⟨rfl, hc x x1 x2 hu h2⟩⟩
/-- what doesn't depend on the cell keeps its value -/
theorem tmp_off {c k n x : Int} (oA : ShOK A) (hA : SlF A) (hB : SlF (tmpA A c k n)) (c1 : 0 ≤ c) (c2 : c < 200) (x1 : 0 ≤ x) (x2 : x < 200) (hx : ¬ x = c) (hr : ¬ reA A c x = true) : flA (tmpA A c k n) x = flA A x ∧ vlA (tmpA A c k n) x = vlA A x := by
  refine AgU_v (U := fun x => ¬ x = c ∧ ¬ reA A c x = true) oA hA hB (tmp_ag (fun x hu => hu.1) (fun y y1 y2 hu h2 o o1 o2 ho => ⟨fun e => hu.2 ?_, fun e => hu.2 ?_⟩)) x1 x2 ⟨hx, hr⟩
  · subst e; exact re_one o1 o2 y1 y2 ho
  · exact re_step e y1 y2 ho
/-- its own number changes nothing -/
theorem tmp_own {c x : Int} (oA : ShOK A) (hA : SlF A) (hB : SlF (tmpA A c 1 (vlA A c))) (c1 : 0 ≤ c) (c2 : c < 200) (hk : A.1 c = 1) (x1 : 0 ≤ x) (x2 : x < 200) : flA (tmpA A c 1 (vlA A c)) x = flA A x ∧ vlA (tmpA A c 1 (vlA A c)) x = vlA A x := by
  refine AgU_v (U := fun _ => True) oA hA hB (fun y y1 y2 _ => ?_) x1 x2 trivial
  unfold tmpA
  dsimp only
  by_cases e : y = c
  · rw [if_pos e, if_pos e, e]
    refine ⟨hk.symm, fun _ => ?_, fun h2 => by omega⟩
    rw [hA.2.2.2.2.2.2.2 c c1 c2 (by omega), if_pos hk]
  · rw [if_neg e, if_neg e]
    exact ⟨rfl, fun _ => rfl, fun _ => ⟨rfl, fun _ _ _ _ => trivial⟩⟩
/-- the number itself -/
theorem tmp_at {c n : Int} (hB : SlF (tmpA A c 1 n)) (c1 : 0 ≤ c) (c2 : c < 200) : flA (tmpA A c 1 n) c = 0 ∧ vlA (tmpA A c 1 n) c = n := by
  have k : (tmpA A c 1 n).1 c = 1 := if_pos rfl
  refine ⟨sf_ne hB c1 c2 (by omega), ?_⟩
  rw [hB.2.2.2.2.2.2.2 c c1 c2 (by omega), if_pos k]
  exact if_pos rfl
theorem sumf_le {f h : Int → Int} : ∀ (n : Nat) (a : Int), (∀ j, a ≤ j → j < a + n → f j ≤ h j) → sumf f a n ≤ sumf h a n := by
  intro n
  induction n with
  | zero => intro a _; exact Int.le_refl _
  | succ n ih =>
    intro a hj
    have e1 := hj a (by omega) (by omega)
    have e2 := ih (a + 1) (fun j j1 j2 => hj j (by omega) (by omega))
    show f a + sumf f (a + 1) n ≤ h a + sumf h (a + 1) n
    omega
/-- errors are at formulas alone -/
theorem tmp_err {c : Int} (hB : SlF (tmpA A c 0 0)) : qErr (tmpA A c 0 0) ≤ qFor A ∧ 0 ≤ qErr (tmpA A c 0 0) := by
  constructor
  · refine sumf_le 200 0 (fun j j1 j2 => ?_)
    by_cases hk : (tmpA A c 0 0).1 j = 2
    · have hk2 : A.1 j = 2 := by
        unfold tmpA at hk
        dsimp only at hk
        split at hk
        · omega
        · exact hk
      unfold ind
      rw [if_pos (decide_eq_true hk2)]
      split <;> omega
    · rw [if_pos (sf_ne hB j1 (by omega) hk)]
      unfold ind
      split <;> omega
  · have : sumf (fun _ => 0) 0 200 ≤ qErr (tmpA A c 0 0) := sumf_le 200 0 (fun j j1 j2 => by split <;> omega)
    have h0 := sumf_zero (f := fun _ => 0) 200 0 (fun _ _ _ => rfl)
    omega
end
