/-! The class: a State holds contents; they change -/
section
variable {X : xX} {S : xLm} {g g' G : xGm} {a b o : Nat} {A B B' : Sh}
/-- a State holds the contents of a sheet -/
def StC (g : xGm) (a : Nat) (B : Sh) : Prop := ∀ x, 0 ≤ x → x < 200 → (g (a + 1) x = B.1 x ∧ (B.1 x = 1 → g (a + 2) x = B.2.1 x) ∧ (B.1 x = 2 → tkl g a x = B.2.2.1 x) ∧ (¬ B.1 x = 2 → g (a + 4) x = 0)) ∧ (¬ B.1 x = 2 → g (a + 3) x = 0 ∧ (B.1 x = 0 → g (a + 2) x = 0))
/-- other rows stay -/
def StF (g G : xGm) (a : Nat) : Prop := ∀ h, h < a + 1 ∨ a + 5 < h → G h = g h
theorem StF_trans {G' : xGm} (h : StF g G a) (h' : StF G G' a) : StF g G' a := fun j hj => (h' j hj).trans (h j hj)
theorem StF_refl : StF g g a := fun _ _ => rfl
theorem StC_of {k : Nat} (h : ClI g k) (hM : StA g (k + 1) A) : StC g (k + 1) A := fun x x1 x2 => by
  obtain ⟨-, -, -, -, h5⟩ := h
  obtain ⟨-, -, -, hR⟩ := h5
  obtain ⟨a1, a2, a3, a4⟩ := hM.1 x x1 x2
  obtain ⟨-, -, r3, r4⟩ := hR x x1 x2
  rw [a1] at r3 r4
  exact ⟨⟨a1, a2, a3, a4⟩, fun e => ⟨r3 e, r4⟩⟩
theorem StC_rec (h : StC g a A) (hE : StE g a g' b) (hI : StI g' b) (hJ : StI g a) : StC g' b A := fun x x1 x2 => by
  obtain ⟨a1, a2, a3, a4⟩ := hE x x1 x2
  obtain ⟨⟨b1, b2, b3, b4⟩, b5⟩ := h x x1 x2
  rw [a1, a2, a3, a4]
  refine ⟨⟨b1, b2, b3, fun e => ?_⟩, b5⟩
  have l1 := tkl_len g' b x
  have l2 := tkl_len g a x
  rw [a2, l2, b4 e] at l1
  have := hI.2.2.2.1 x
  omega
theorem StC_E (hE : ∀ x, 0 ≤ x → x < 200 → B.1 x = B'.1 x ∧ (B.1 x = 1 → B.2.1 x = B'.2.1 x) ∧ (B.1 x = 2 → B.2.2.1 x = B'.2.2.1 x)) (h : StC g a B) : StC g a B' := fun x x1 x2 => by
  obtain ⟨e1, e2, e3⟩ := hE x x1 x2
  obtain ⟨⟨b1, b2, b3, b4⟩, b5⟩ := h x x1 x2
  rw [← e1]
  exact ⟨⟨b1, fun e => (b2 e).trans (e2 e), fun e => (b3 e).trans (e3 e), b4⟩, b5⟩
theorem StC_put {z kd nu : Int} {tk : List Int} (h : StC g a B) (hx : ∀ x, 0 ≤ x → x < 200 → ¬ x = z → G (a + 1) x = g (a + 1) x ∧ G (a + 2) x = g (a + 2) x ∧ G (a + 3) x = g (a + 3) x ∧ G (a + 4) x = g (a + 4) x ∧ tkl G a x = tkl g a x)
    (h1 : G (a + 1) z = kd) (h2 : kd = 1 → G (a + 2) z = nu) (h3 : kd = 2 → tkl G a z = tk) (h4 : ¬ kd = 2 → G (a + 4) z = 0 ∧ G (a + 3) z = 0) (h0 : kd = 0 → G (a + 2) z = 0) : StC G a (shP B z kd nu tk) := fun x x1 x2 => by
  unfold shP
  dsimp only
  by_cases e : x = z
  · subst e
    rw [if_pos rfl, if_pos rfl, if_pos rfl]
    exact ⟨⟨h1, h2, h3, fun e => (h4 e).1⟩, fun e => ⟨(h4 e).2, h0⟩⟩
  · rw [if_neg e, if_neg e, if_neg e]
    obtain ⟨a1, a2, a3, a4, a5⟩ := hx x x1 x2 e
    rw [a1, a2, a3, a4, a5]
    exact h x x1 x2
theorem StC_congr (hf : ∀ j, 1 ≤ j → j ≤ 5 → g' (a + j) = g (a + j)) (h : StC g a B) : StC g' a B := fun x x1 x2 => by
  rw [hf 1 (by decide) (by decide), hf 2 (by decide) (by decide), hf 3 (by decide) (by decide), hf 4 (by decide) (by decide), tkl_congr (hf 4 (by decide) (by decide)) (hf 5 (by decide) (by decide))]
  exact h x x1 x2
/-! a cell is taken -/
theorem gT_1 {c s : Int} : gT g a o c s (a + 1) = fun x => if x = c then g (o + 1) s else g (a + 1) x := by
  unfold gT
  rw [gr_row _ _ (by omega), gs_row _ _ _ (by omega), gs_row _ _ _ (by omega), gs_row _ _ _ (by omega)]
  funext x; rw [gs_at]
theorem gT_2 {c s : Int} : gT g a o c s (a + 2) = fun x => if x = c then g (o + 2) s else g (a + 2) x := by
  unfold gT
  rw [gr_row _ _ (by omega), gs_row _ _ _ (by omega), gs_row _ _ _ (by omega)]
  funext x; rw [gs_at, gs_row _ _ _ (by omega)]
theorem gT_3 {c s : Int} : gT g a o c s (a + 3) = fun x => if x = c then g (o + 3) s else g (a + 3) x := by
  unfold gT
  rw [gr_row _ _ (by omega), gs_row _ _ _ (by omega)]
  funext x; rw [gs_at, gs_row _ _ _ (by omega), gs_row _ _ _ (by omega)]
theorem gT_4 {c s : Int} : gT g a o c s (a + 4) = fun x => if x = c then g (o + 4) s else g (a + 4) x := by
  unfold gT
  rw [gr_row _ _ (by omega)]
  funext x; rw [gs_at, gs_row _ _ _ (by omega), gs_row _ _ _ (by omega), gs_row _ _ _ (by omega)]
theorem gT_5 {c s : Int} : gT g a o c s (a + 5) = fun i => if c * 60 ≤ i ∧ i < c * 60 + g (o + 4) s then g (o + 5) (s * 60 + (i - c * 60)) else g (a + 5) i := by
  unfold gT
  rw [gr_hit]
theorem gT_F {c s : Int} : StF g (gT g a o c s) a := fun h hh => by
  unfold gT
  rw [gr_row _ _ (by omega), gs_row _ _ _ (by omega), gs_row _ _ _ (by omega), gs_row _ _ _ (by omega), gs_row _ _ _ (by omega)]
theorem StI_take {c s : Int} (hI : StI g a) (hO : StI g o) : StI (gT g a o c s) a := by
  obtain ⟨r1, r2, r3, r4, r5⟩ := hI
  obtain ⟨o1, o2, o3, o4, o5⟩ := hO
  unfold StI rg
  rw [gT_1, gT_2, gT_3, gT_4, gT_5]
  refine ⟨fun x => ?_, fun x => ?_, fun x => ?_, fun x => ?_, fun x => ?_⟩
  · dsimp only; split
    · exact o1 s
    · exact r1 x
  · dsimp only; split
    · exact o2 s
    · exact r2 x
  · dsimp only; split
    · exact o3 s
    · exact r3 x
  · dsimp only; split
    · exact o4 s
    · exact r4 x
  · dsimp only; split
    · exact o5 _
    · exact r5 x
theorem StC_take {c s : Int} (h : StC g a B) (hO : StC g o A) (hI : StI g a) (hJ : StI g o) (hc : 0 ≤ c ∧ c < 200) (hs : 0 ≤ s ∧ s < 200) : StC (gT g a o c s) a (shP B c (A.1 s) (A.2.1 s) (A.2.2.1 s)) := by
  obtain ⟨⟨s1, s2, s3, s4⟩, s5⟩ := hO s hs.1 hs.2
  refine StC_put h (fun x x1 x2 e => ⟨by rw [gT_1]; exact if_neg e, by rw [gT_2]; exact if_neg e, by rw [gT_3]; exact if_neg e, by rw [gT_4]; exact if_neg e, ?_⟩) (by rw [gT_1]; exact (if_pos rfl).trans s1) (fun e => by rw [gT_2]; exact (if_pos rfl).trans (s2 e)) (fun e => ?_) (fun e => ⟨by rw [gT_4]; exact (if_pos rfl).trans (s4 e), by rw [gT_3]; exact (if_pos rfl).trans (s5 e).1⟩) (fun e => by rw [gT_2]; exact (if_pos rfl).trans ((s5 (by omega)).2 e))
  · have hb := hI.2.2.2.1 x
    have hb2 := hJ.2.2.2.1 s
    have q4 : gT g a o c s (a + 4) x = g (a + 4) x := by rw [gT_4]; exact if_neg e
    refine tkl_eq q4 (fun q q1 q2 => ?_)
    rw [gT_5]
    exact if_neg (by omega)
  · rw [← s3 e]
    have q4 : gT g a o c s (a + 4) c = g (o + 4) s := by rw [gT_4]; exact if_pos rfl
    refine tkl_eq q4 (fun q q1 q2 => ?_)
    rw [gT_5]
    dsimp only
    rw [if_pos (by omega)]
    congr 1
    omega
/-! a cell becomes a number, or empty -/
theorem gPut_1 {z kd v : Int} : gPut g a z kd v (a + 1) = fun x => if x = z then kd else g (a + 1) x := by
  unfold gPut
  rw [gs_row _ _ _ (by omega), gs_row _ _ _ (by omega), gs_row _ _ _ (by omega)]
  funext x; rw [gs_at]
theorem gPut_2 {z kd v : Int} : gPut g a z kd v (a + 2) = fun x => if x = z then v else g (a + 2) x := by
  unfold gPut
  rw [gs_row _ _ _ (by omega), gs_row _ _ _ (by omega)]
  funext x; rw [gs_at, gs_row _ _ _ (by omega)]
theorem gPut_3 {z kd v : Int} : gPut g a z kd v (a + 3) = fun x => if x = z then 0 else g (a + 3) x := by
  unfold gPut
  rw [gs_row _ _ _ (by omega)]
  funext x; rw [gs_at, gs_row _ _ _ (by omega), gs_row _ _ _ (by omega)]
theorem gPut_4 {z kd v : Int} : gPut g a z kd v (a + 4) = fun x => if x = z then 0 else g (a + 4) x := by
  unfold gPut
  funext x; rw [gs_at, gs_row _ _ _ (by omega), gs_row _ _ _ (by omega), gs_row _ _ _ (by omega)]
theorem gPut_5 {z kd v : Int} : gPut g a z kd v (a + 5) = g (a + 5) := by
  unfold gPut
  rw [gs_row _ _ _ (by omega), gs_row _ _ _ (by omega), gs_row _ _ _ (by omega), gs_row _ _ _ (by omega)]
theorem gPut_F {z kd v : Int} : StF g (gPut g a z kd v) a := fun h hh => by
  unfold gPut
  rw [gs_row _ _ _ (by omega), gs_row _ _ _ (by omega), gs_row _ _ _ (by omega), gs_row _ _ _ (by omega)]
theorem StI_gPut {z kd v : Int} (hI : StI g a) (hk : 0 ≤ kd ∧ kd ≤ 2) (hv : -999999999 ≤ v ∧ v ≤ 999999999) : StI (gPut g a z kd v) a := by
  obtain ⟨r1, r2, r3, r4, r5⟩ := hI
  unfold StI rg
  rw [gPut_1, gPut_2, gPut_3, gPut_4, gPut_5]
  refine ⟨fun x => ?_, fun x => ?_, fun x => ?_, fun x => ?_, r5⟩
  · have := r1 x
    dsimp only; split <;> omega
  · have := r2 x
    dsimp only; split <;> omega
  · have := r3 x
    dsimp only; split <;> omega
  · have := r4 x
    dsimp only; split <;> omega
theorem StC_gPut {z kd v : Int} (h : StC g a B) (hk : ¬ kd = 2) (h0 : kd = 0 → v = 0) : StC (gPut g a z kd v) a (shP B z kd v []) := by
  refine StC_put h (fun x x1 x2 e => ⟨by rw [gPut_1]; exact if_neg e, by rw [gPut_2]; exact if_neg e, by rw [gPut_3]; exact if_neg e, by rw [gPut_4]; exact if_neg e, ?_⟩) (by rw [gPut_1]; exact if_pos rfl) (fun e => by rw [gPut_2]; exact if_pos rfl) (fun e => absurd e hk) (fun e => ⟨by rw [gPut_4]; exact if_pos rfl, by rw [gPut_3]; exact if_pos rfl⟩) (fun e => by rw [gPut_2]; exact (if_pos rfl).trans (h0 e))
  have q4 : gPut g a z kd v (a + 4) x = g (a + 4) x := by rw [gPut_4]; exact if_neg e
  exact tkl_eq q4 (fun q q1 q2 => by rw [gPut_5])
/-! a cell becomes what was read -/
theorem gRd_1 {z kd v n : Int} {r : Int → Int} : gRd g a z kd v n r (a + 1) = fun x => if x = z then kd else g (a + 1) x := by
  unfold gRd
  rw [gr_row _ _ (by omega), gs_row _ _ _ (by omega), gs_row _ _ _ (by omega), gs_row _ _ _ (by omega)]
  funext x; rw [gs_at]
theorem gRd_2 {z kd v n : Int} {r : Int → Int} : gRd g a z kd v n r (a + 2) = fun x => if x = z then v else g (a + 2) x := by
  unfold gRd
  rw [gr_row _ _ (by omega), gs_row _ _ _ (by omega), gs_row _ _ _ (by omega)]
  funext x; rw [gs_at, gs_row _ _ _ (by omega)]
theorem gRd_3 {z kd v n : Int} {r : Int → Int} : gRd g a z kd v n r (a + 3) = fun x => if x = z then 0 else g (a + 3) x := by
  unfold gRd
  rw [gr_row _ _ (by omega), gs_row _ _ _ (by omega)]
  funext x; rw [gs_at, gs_row _ _ _ (by omega), gs_row _ _ _ (by omega)]
theorem gRd_4 {z kd v n : Int} {r : Int → Int} : gRd g a z kd v n r (a + 4) = fun x => if x = z then n else g (a + 4) x := by
  unfold gRd
  rw [gr_row _ _ (by omega)]
  funext x; rw [gs_at, gs_row _ _ _ (by omega), gs_row _ _ _ (by omega), gs_row _ _ _ (by omega)]
theorem gRd_5 {z kd v n : Int} {r : Int → Int} : gRd g a z kd v n r (a + 5) = fun i => if z * 60 ≤ i ∧ i < z * 60 + n then r (i - z * 60) else g (a + 5) i := by
  unfold gRd
  rw [gr_hit]
theorem gRd_F {z kd v n : Int} {r : Int → Int} : StF g (gRd g a z kd v n r) a := fun h hh => by
  unfold gRd
  rw [gr_row _ _ (by omega), gs_row _ _ _ (by omega), gs_row _ _ _ (by omega), gs_row _ _ _ (by omega), gs_row _ _ _ (by omega)]
theorem StI_gRd {z kd v : Int} {r : Int → Int} {tk : List Int} (hI : StI g a) (hk : 0 ≤ kd ∧ kd ≤ 2) (hv : -999999 ≤ v ∧ v ≤ 999999) (hl : tk.length ≤ 60) (hr : TL r 0 tk) (hok : ∀ x ∈ tk, okG x) : StI (gRd g a z kd v tk.length r) a := by
  obtain ⟨r1, r2, r3, r4, r5⟩ := hI
  unfold StI rg
  rw [gRd_1, gRd_2, gRd_3, gRd_4, gRd_5]
  refine ⟨fun x => ?_, fun x => ?_, fun x => ?_, fun x => ?_, fun x => ?_⟩
  · have := r1 x
    dsimp only; split <;> omega
  · have := r2 x
    dsimp only; split <;> omega
  · have := r3 x
    dsimp only; split <;> omega
  · have := r4 x
    dsimp only; split <;> omega
  · dsimp only
    split
    · next hh =>
      have e := TL_mk tk 0 hr (x - z * 60) (by omega) (by omega)
      rw [Int.zero_add] at e
      rw [e]
      exact okG_big (hok _ (mkat_mem (by omega) (by omega)))
    · exact r5 x
theorem StC_gRd {z kd nu v : Int} {r : Int → Int} {tk : List Int} (h : StC g a B) (hI : StI g a) (hz : 0 ≤ z ∧ z < 200) (hr : TL r 0 tk) (hl : tk.length ≤ 60) (hv : kd = 1 → v = nu) (h0 : kd = 0 → v = 0) (hn : ¬ kd = 2 → tk = []) : StC (gRd g a z kd v tk.length r) a (shP B z kd nu tk) := by
  refine StC_put h (fun x x1 x2 e => ⟨by rw [gRd_1]; exact if_neg e, by rw [gRd_2]; exact if_neg e, by rw [gRd_3]; exact if_neg e, by rw [gRd_4]; exact if_neg e, ?_⟩) (by rw [gRd_1]; exact if_pos rfl) (fun e => by rw [gRd_2]; exact (if_pos rfl).trans (hv e)) (fun _ => tkl_gRd hr) (fun e => ⟨by rw [gRd_4, hn e]; exact if_pos rfl, by rw [gRd_3]; exact if_pos rfl⟩) (fun e => by rw [gRd_2]; exact (if_pos rfl).trans (h0 e))
  have hb := hI.2.2.2.1 x
  have q4 : gRd g a z kd v tk.length r (a + 4) x = g (a + 4) x := by rw [gRd_4]; exact if_neg e
  refine tkl_eq q4 (fun q q1 q2 => ?_)
  rw [gRd_5]
  exact if_neg (by omega)
/-! words become others -/
theorem tkl_in {c q : Int} (h1 : 0 ≤ q) (h2 : q < g (a + 4) c) : g (a + 5) (c * 60 + q) ∈ tkl g a c := by
  unfold tkl
  refine List.mem_map.mpr ⟨q.toNat, List.mem_range.mpr (by omega), ?_⟩
  congr 1
  omega
theorem tkl_map {f : Int → Int} {c : Int} (h4 : G (a + 4) c = g (a + 4) c) (h5 : ∀ q, 0 ≤ q → q < g (a + 4) c → G (a + 5) (c * 60 + q) = f (g (a + 5) (c * 60 + q))) : tkl G a c = (tkl g a c).map f := by
  unfold tkl
  rw [h4, List.map_map]
  refine List.map_congr_left (fun i hi => ?_)
  rw [List.mem_range] at hi
  exact h5 i (by omega) (by omega)
/-- the words of cells with contents are in order -/
theorem StC_okW (h : StC g a B) (hB : ShOK B) {c q : Int} (hc : 0 ≤ c ∧ c < 200) (h1 : 0 ≤ q) (h2 : q < g (a + 4) c) : okW (g (a + 5) (c * 60 + q)) := by
  obtain ⟨⟨b1, b2, b3, b4⟩, -⟩ := h c hc.1 hc.2
  by_cases e : B.1 c = 2
  · obtain ⟨⟨v, r, n, hT⟩, -⟩ := (hB c hc.1 hc.2).2.1 e
    have hm := tkl_in (g := g) (a := a) h1 h2
    rw [b3 e] at hm
    exact Tr_okW _ _ _ _ _ hT _ hm
  · have := b4 e
    omega
theorem okW_rg {t : Int} (h : okW t) : 0 ≤ t ∧ t ≤ 16777215 := ⟨h.1, by have := h.2.1; omega⟩
theorem gW_F {c n : Int} {f : Int → Int} : StF g (gW g a c n f) a := fun h hh => gW_row (by omega)
theorem gWA_F {n : Int} {f : Int → Int} : StF g (gWA g a n f) a := fun h hh => gWA_row (by omega)
theorem StI_gW {j : Nat} {sp : Int → Int} {co : Int → Int → Int} {c : Int} (hR : RwI S g j sp co) (hI : StI g a) (h : StC g a B) (hB : ShOK B) (hc : 0 ≤ c ∧ c < 200) : StI (gW g a c (g (a + 4) c) (tkF sp co)) a := by
  obtain ⟨r1, r2, r3, r4, r5⟩ := hI
  have q1 : gW g a c (g (a + 4) c) (tkF sp co) (a + 1) = g (a + 1) := gW_row (by omega)
  have q2 : gW g a c (g (a + 4) c) (tkF sp co) (a + 2) = g (a + 2) := gW_row (by omega)
  have q3 : gW g a c (g (a + 4) c) (tkF sp co) (a + 3) = g (a + 3) := gW_row (by omega)
  have q4 : gW g a c (g (a + 4) c) (tkF sp co) (a + 4) = g (a + 4) := gW_row (by omega)
  unfold StI rg
  rw [q1, q2, q3, q4]
  refine ⟨r1, r2, r3, r4, fun x => ?_⟩
  rw [gW_5]
  split
  · next hh =>
    have hw := StC_okW h hB hc (q := x - c * 60) (by omega) (by omega)
    have ex : c * 60 + (x - c * 60) = x := by omega
    rw [ex] at hw
    exact okW_rg (tkF_okW hR hw)
  · exact r5 x
theorem StC_gW {f : Int → Int} {c : Int} (h : StC g a B) (hI : StI g a) (hc : 0 ≤ c ∧ c < 200) : StC (gW g a c (g (a + 4) c) f) a (shP B c (B.1 c) (B.2.1 c) ((B.2.2.1 c).map f)) := by
  obtain ⟨⟨b1, b2, b3, b4⟩, b5⟩ := h c hc.1 hc.2
  have q1 : gW g a c (g (a + 4) c) f (a + 1) = g (a + 1) := gW_row (by omega)
  have q2 : gW g a c (g (a + 4) c) f (a + 2) = g (a + 2) := gW_row (by omega)
  have q3 : gW g a c (g (a + 4) c) f (a + 3) = g (a + 3) := gW_row (by omega)
  have q4 : gW g a c (g (a + 4) c) f (a + 4) = g (a + 4) := gW_row (by omega)
  refine StC_put h (fun x x1 x2 e => ⟨by rw [q1], by rw [q2], by rw [q3], by rw [q4], ?_⟩) (by rw [q1]; exact b1) (fun e => by rw [q2]; exact b2 e) (fun e => ?_) (fun e => ⟨by rw [q4]; exact b4 e, by rw [q3]; exact (b5 e).1⟩) (fun e => by rw [q2]; exact (b5 (by omega)).2 e)
  · have hb := hI.2.2.2.1 x
    have hb2 := hI.2.2.2.1 c
    refine tkl_eq (by rw [q4]) (fun q q1 q2 => ?_)
    rw [gW_5]
    exact if_neg (by omega)
  · rw [← b3 e]
    refine tkl_map (by rw [q4]) (fun q q1 q2 => ?_)
    rw [gW_5]
    exact if_pos (by omega)
theorem StI_gWA {j : Nat} {sp : Int → Int} {co : Int → Int → Int} (hR : RwI S g j sp co) (hI : StI g a) (h : StC g a B) (hB : ShOK B) : StI (gWA g a 200 (tkF sp co)) a := by
  obtain ⟨r1, r2, r3, r4, r5⟩ := hI
  have q1 : gWA g a 200 (tkF sp co) (a + 1) = g (a + 1) := gWA_row (by omega)
  have q2 : gWA g a 200 (tkF sp co) (a + 2) = g (a + 2) := gWA_row (by omega)
  have q3 : gWA g a 200 (tkF sp co) (a + 3) = g (a + 3) := gWA_row (by omega)
  have q4 : gWA g a 200 (tkF sp co) (a + 4) = g (a + 4) := gWA_row (by omega)
  unfold StI rg
  rw [q1, q2, q3, q4]
  refine ⟨r1, r2, r3, r4, fun x => ?_⟩
  rw [gWA_5]
  split
  · next hh =>
    have hw := StC_okW h hB (c := x / 60) (q := x % 60) (by omega) (by omega) hh.2.2
    have ex : x / 60 * 60 + x % 60 = x := by omega
    rw [ex] at hw
    exact okW_rg (tkF_okW hR hw)
  · exact r5 x
theorem StC_gWA {f : Int → Int} (h : StC g a B) (hI : StI g a) : StC (gWA g a 200 f) a (shW B f) := fun x x1 x2 => by
  obtain ⟨⟨b1, b2, b3, b4⟩, b5⟩ := h x x1 x2
  have hb := hI.2.2.2.1 x
  have q4 : gWA g a 200 f (a + 4) = g (a + 4) := gWA_row (by omega)
  have ht : tkl (gWA g a 200 f) a x = (tkl g a x).map f := by
    refine tkl_map (by rw [q4]) (fun q q1 q2 => ?_)
    have e1 : (x * 60 + q) % 60 = q := by omega
    have e2 : (x * 60 + q) / 60 = x := by omega
    rw [gWA_5, e1, e2]
    exact if_pos ⟨by omega, by omega, q2⟩
  have r1 : gWA g a 200 f (a + 1) = g (a + 1) := gWA_row (by omega)
  have r2 : gWA g a 200 f (a + 2) = g (a + 2) := gWA_row (by omega)
  have r3 : gWA g a 200 f (a + 3) = g (a + 3) := gWA_row (by omega)
  rw [r1, r2, r3, q4, ht]
  exact ⟨⟨b1, b2, fun e => by rw [b3 e]; rfl, b4⟩, b5⟩
end
