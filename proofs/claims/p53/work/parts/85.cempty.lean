/-! The empty sheet -/
section
variable {X : xX} {S : xLm} {g : xGm} {d c p k t o y b m : Nat}
def A0 : Sh := (fun _ => 0, fun _ => 0, fun _ => [], 0, 0)
def P0 : Pd := (0, fun _ => 0)
theorem A0_ok : ShOK A0 := fun c c1 c2 => ⟨.inl rfl, fun e => absurd (show (0 : Int) = 2 from e) (by decide), fun e => absurd (show (0 : Int) = 1 from e) (by decide)⟩
theorem z_rg {h : Nat} {lo hi : Int} (hz : g h = fun _ => 0) (h1 : lo ≤ 0) (h2 : 0 ≤ hi) : rg g h lo hi := fun i => by rw [hz]; exact ⟨h1, h2⟩
theorem z_StI {a : Nat} (hz : ∀ j, 1 ≤ j → j ≤ 5 → g (a + j) = fun _ => 0) : StI g a :=
  ⟨z_rg (hz 1 (by decide) (by decide)) (by decide) (by decide), z_rg (hz 2 (by decide) (by decide)) (by decide) (by decide), z_rg (hz 3 (by decide) (by decide)) (by decide) (by decide), z_rg (hz 4 (by decide) (by decide)) (by decide) (by decide), z_rg (hz 5 (by decide) (by decide)) (by decide) (by decide)⟩
theorem emp_onx {F : Int → Bool} {R : Int → Int → Prop} {r : Int → Int} {n : Int} (hF : ∀ c, 0 ≤ c → c < 200 → F c = false) : onx F R r n < 0 := by
  unfold onx
  rcases low_spec (p := fun c => cb (F c = true ∧ ¬ oin r n c ∧ ∀ o, 0 ≤ o → o < 200 → F o = true → R c o → oin r n o)) 200 0 with ⟨h, -⟩ | ⟨h1, h2, h3, -⟩
  · rw [h]; decide
  · have h4 := cb_iff.mp h3
    have := hF _ h1 h2
    rw [this] at h4
    exact absurd h4.1 (by decide)
theorem emp_F {K : Int → Int} (hK : ∀ c, 0 ≤ c → c < 200 → K c = 0) : ∀ c, 0 ≤ c → c < 200 → FmA K c = false := fun c c1 c2 => by
  unfold FmA
  rw [hK c c1 c2]
  rfl
theorem emp_Sol {K Er R r : Int → Int} {T : Int → List Int} (hK : ∀ c, 0 ≤ c → c < 200 → K c = 0) (hE : ∀ c, 0 ≤ c → c < 200 → Er c = 0) (hR : ∀ c, 0 ≤ c → c < 200 → R c = 0) : Sol K T Er R r 0 := by
  refine ⟨fun i h1 h2 => by omega, Int.le_refl _, emp_onx (emp_F hK), fun c c1 c2 => ⟨fun e _ => ?_, fun e _ => ?_, fun _ => hE c c1 c2, fun _ => hR c c1 c2⟩⟩
  · rw [hK c c1 c2] at e; exact absurd e (by decide)
  · rw [hK c c1 c2] at e; exact absurd e (by decide)
theorem ClI_0 (h7 : g k = fun _ => 0) (hz : ZC g k) : ClI g k ∧ StA g (k + 1) A0 := by
  obtain ⟨z1, z2, z3⟩ := hz
  have hs : ∀ j, j ≤ 5 → g (k + 1 + j) = fun _ => 0 := fun j j1 => z1 _ (by omega) (by omega) (by omega)
  have hl : ∀ j, j ≤ 8 → ¬ j = 4 → g (k + 7 + j) = fun _ => 0 := fun j j1 j2 => z1 _ (by omega) (by omega) (by omega)
  have l0 : g (k + 7) = fun _ => 0 := hl 0 (by decide) (by decide)
  have s0 : g (k + 1) = fun _ => 0 := hs 0 (by decide)
  have kz : ∀ c, 0 ≤ c → c < 200 → g (k + 1 + 1) c = 0 := fun c _ _ => by rw [hs 1 (by decide)]
  have r4 : rg g (k + 7 + 4) (-1) 199 := fun j => by
    by_cases e : 0 ≤ j ∧ j < 200
    · rw [z2 j e.1 e.2]; decide
    · rw [z3 j (by omega)]; decide
  have n4 : g (k + 7) 4 = 0 := by rw [l0]
  have n2 : g (k + 7) 2 = 0 := by rw [l0]
  have hrow : ∀ j lo hi, j ≤ 8 → ¬ j = 4 → lo ≤ 0 → 0 ≤ hi → rg g (k + 7 + j) lo hi := fun j lo hi j1 j2 h1 h2 => z_rg (hl j j1 j2) h1 h2
  have hF := emp_F kz
  refine ⟨⟨z_StI (fun j _ j2 => hs j j2), fun c c1 c2 e => ?_, ⟨fun c x c1 c2 x1 x2 => ?_, ⟨?_, fun c hc e => ?_⟩, hrow 2 0 199 (by decide) (by decide) (by decide) (by decide), ⟨by rw [n4]; decide, by rw [n4, n2]; decide⟩, ?_, hrow 5 0 200 (by decide) (by decide) (by decide) (by decide), emp_onx hF⟩, ⟨hrow 2 0 199 (by decide) (by decide) (by decide) (by decide), hrow 3 0 199 (by decide) (by decide) (by decide) (by decide), r4, hrow 5 0 200 (by decide) (by decide) (by decide) (by decide), hrow 6 0 1 (by decide) (by decide) (by decide) (by decide), hrow 7 0 199 (by decide) (by decide) (by decide) (by decide)⟩, ?_⟩, ⟨fun x x1 x2 => ⟨kz x x1 x2, fun e => absurd (show (0 : Int) = 1 from e) (by decide), fun e => absurd (show (0 : Int) = 2 from e) (by decide), fun _ => ?_⟩, ?_, ?_⟩⟩
  · rw [kz c c1 c2] at e; exact absurd e (by decide)
  · rw [bt_0 (by rw [hl 1 (by decide) (by decide)])]
    constructor
    · intro e; cases e
    · intro e
      have := e.1
      rw [kz c c1 c2] at this
      exact absurd this (by decide)
  · rw [n2]
    exact ((ind_zero 200 0).mpr (fun j j1 j2 => hF j j1 (by omega))).symm
  · rw [hF c (by omega) (by omega)] at e; cases e
  · rw [n4]
    exact ⟨n4, fun i h1 h2 => by omega, fun i h1 h2 => by omega, fun c c1 c2 _ => z2 c c1 c2, hrow 3 0 199 (by decide) (by decide) (by decide) (by decide), r4⟩
  · unfold SolC
    rw [n4]
    exact emp_Sol kz (fun c _ _ => by rw [hs 3 (by decide)]) (fun c _ _ => by rw [hs 2 (by decide)])
  · rw [hs 4 (by decide)]
  · rw [s0]; rfl
  · rw [s0]; rfl
end
