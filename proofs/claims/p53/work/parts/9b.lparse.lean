/-! p53: a spot that is typed is read -/
section
variable {ch : Int → Int} {en a v s : Int} {m : Nat} {md : Int} {st rest : List Fr} {tk tk0 : List Int} {o q cc c : Int}
def ndg (c : Int) : Prop := ¬ (48 ≤ c ∧ c ≤ 57)
theorem TL_c {r : Int → Int} {i t : Int} {L : List Int} : TL r i (t :: L) ↔ r i = t ∧ TL r (i + 1) L := Iff.rfl
theorem TL_n {r : Int → Int} {i : Int} : TL r i [] ↔ True := Iff.rfl
/-- a spot, character by character -/
theorem spF_key {f1 f2 r u : Int} (p1 : (if true = true ∧ ch a = 36 then (1 : Int) else 0) = f1) (p2 : ch (a + f1) = 65 + u) (p3 : (if true = true ∧ ch (a + f1 + 1) = 36 then (1 : Int) else 0) = f2) (hu : 0 ≤ u ∧ u < 10) (hr : 1 ≤ r ∧ r ≤ 20)
    (p4 : r < 10 → ch (a + f1 + 1 + f2) = 48 + r ∧ ndg (ch (a + f1 + 1 + f2 + 1))) (p5 : ¬ r < 10 → ch (a + f1 + 1 + f2) = 48 + r / 10 ∧ ch (a + f1 + 1 + f2 + 1) = 48 + r % 10) :
    spF ch true a = (256 * f1 + 512 * f2 + (10 * (r - 1) + u), a + f1 + 1 + f2 + (if r < 10 then 1 else 2)) := by
  unfold spF
  dsimp only
  rw [p1, p2, if_neg (by omega), p3]
  by_cases e : r < 10
  · obtain ⟨q1, q2⟩ := p4 e
    unfold ndg at q2
    rw [q1, if_neg (by omega), if_neg (by omega), if_pos e]
    exact Prod.ext (by dsimp only; omega) rfl
  · obtain ⟨q1, q2⟩ := p5 e
    rw [q1, q2, if_neg (by omega), if_pos (by omega), if_neg e]
    exact Prod.ext (by dsimp only; omega) rfl
theorem spF_t (ho : okS s) (h : TL ch a (spT s)) (hn : ndg (ch (a + (spT s).length))) : spF ch true a = (s, a + (spT s).length) ∧ (ch a = 36 ∨ (65 ≤ ch a ∧ ch a ≤ 74 ∧ ch (a + 1) < 65)) := by
  obtain ⟨o1, o2, o3⟩ := ho
  obtain ⟨t, et⟩ : ∃ t, s % 256 = t := ⟨_, rfl⟩
  have hf : s / 256 = 0 ∨ s / 256 = 1 ∨ s / 256 = 2 ∨ s / 256 = 3 := by omega
  have hr : 1 ≤ t / 10 + 1 ∧ t / 10 + 1 ≤ 20 := by omega
  have hc : 0 ≤ t % 10 ∧ t % 10 < 10 := by omega
  have es : s = 256 * (s / 256) + t := by omega
  have e2 : s / 512 = s / 256 / 2 := by omega
  unfold spT at h hn ⊢
  rw [et, e2] at h hn ⊢
  obtain ⟨f, ef⟩ : ∃ f, s / 256 = f := ⟨_, rfl⟩
  rw [ef] at h hn hf es ⊢
  have ett : t = 10 * (t / 10 + 1 - 1) + t % 10 := by omega
  obtain ⟨u, eu⟩ : ∃ u, t % 10 = u := ⟨_, rfl⟩
  obtain ⟨r, er⟩ : ∃ r, t / 10 + 1 = r := ⟨_, rfl⟩
  rw [eu] at h hn hc ett ⊢
  rw [er] at h hn hr ett ⊢
  have n36 : ¬ 65 + u = 36 := by omega
  have hdl := dec_len (v := r) (by omega) (by omega)
  have hd1 : r < 10 → dec r = [48 + r] := fun e => dec_1 (by omega) e
  have hd2 : ¬ r < 10 → dec r = [48 + r / 10, 48 + r % 10] := fun e => dec_2 (by omega) (by omega)
  have hdc : ∃ x xs, dec r = x :: xs ∧ 48 ≤ x ∧ x ≤ 57 := by
    by_cases e : r < 10
    · exact ⟨_, _, hd1 e, by omega, by omega⟩
    · exact ⟨_, _, hd2 e, by omega, by omega⟩
  have hdn : ((dec r).length : Int) = if r < 10 then 1 else 2 := by
    by_cases e : r < 10
    · rw [if_pos e, hd1 e]; rfl
    · rw [if_neg e, hd2 e]; rfl
  have fin : ∀ b : Int, TL ch b (dec r) → ndg (ch (b + (dec r).length)) → (r < 10 → ch b = 48 + r ∧ ndg (ch (b + 1))) ∧ (¬ r < 10 → ch b = 48 + r / 10 ∧ ch (b + 1) = 48 + r % 10) := by
    intro b hb hnb
    refine ⟨fun e => ?_, fun e => ?_⟩
    · rw [hd1 e] at hb hnb; exact ⟨hb.1, hnb⟩
    · rw [hd2 e] at hb; exact ⟨hb.1, hb.2.1⟩
  obtain ⟨x, xs, hx, x1, x2⟩ := hdc
  rcases hf with rfl | rfl | rfl | rfl
  · have h' : ch (a) = 65 + u ∧ TL ch (a + 1) (dec r) := h
    obtain ⟨q0, qd⟩ := h'
    have e0 : (([] ++ ([65 + u] ++ ([] ++ dec r)) : List Int).length : Int) = 1 + (dec r).length := by simp only [List.length_append, List.length_singleton, List.length_nil]; omega
    have hn2 : ndg (ch (a + (([] ++ ([65 + u] ++ ([] ++ dec r)) : List Int).length : Int))) := hn
    rw [e0, show a + (1 + ((dec r).length : Int)) = a + 1 + (dec r).length by omega] at hn2
    have hx1 : ch (a + 1) = x := by rw [hx] at qd; exact qd.1
    obtain ⟨g1, g2⟩ := fin _ qd hn2
    have k := spF_key (ch := ch) (a := a) (f1 := 0) (f2 := 0) (r := r) (u := u) (if_neg (fun e => n36 (q0.symm.trans e.2))) (by rw [Int.add_zero]; exact q0) (if_neg (fun e => by rw [Int.add_zero] at e; rw [hx1] at e; omega)) hc hr (by simpa only [Int.add_zero] using g1) (by simpa only [Int.add_zero] using g2)
    refine ⟨k.trans (Prod.ext (by dsimp only; omega) ?_), .inr ⟨by omega, by omega, by rw [hx1]; omega⟩⟩
    show _ = a + (([] ++ ([65 + u] ++ ([] ++ dec r)) : List Int).length : Int)
    rw [e0, hdn]
    dsimp only
    generalize (if r < 10 then (1 : Int) else 2) = q
    omega
  · have h' : ch (a) = 36 ∧ ch (a + 1) = 65 + u ∧ TL ch (a + 1 + 1) (dec r) := h
    obtain ⟨q0, q1, qd⟩ := h'
    have e0 : (([36] ++ ([65 + u] ++ ([] ++ dec r)) : List Int).length : Int) = 2 + (dec r).length := by simp only [List.length_append, List.length_singleton, List.length_nil]; omega
    have hn2 : ndg (ch (a + (([36] ++ ([65 + u] ++ ([] ++ dec r)) : List Int).length : Int))) := hn
    rw [e0, show a + (2 + ((dec r).length : Int)) = a + 1 + 1 + (dec r).length by omega] at hn2
    have hx1 : ch (a + 1 + 1) = x := by rw [hx] at qd; exact qd.1
    obtain ⟨g1, g2⟩ := fin _ qd hn2
    have k := spF_key (ch := ch) (a := a) (f1 := 1) (f2 := 0) (r := r) (u := u) (if_pos ⟨rfl, q0⟩) (by exact q1) (if_neg (fun e => by rw [hx1] at e; omega)) hc hr (by simpa only [Int.add_zero] using g1) (by simpa only [Int.add_zero] using g2)
    refine ⟨k.trans (Prod.ext (by dsimp only; omega) ?_), .inl q0⟩
    show _ = a + (([36] ++ ([65 + u] ++ ([] ++ dec r)) : List Int).length : Int)
    rw [e0, hdn]
    dsimp only
    generalize (if r < 10 then (1 : Int) else 2) = q
    omega
  · have h' : ch (a) = 65 + u ∧ ch (a + 1) = 36 ∧ TL ch (a + 1 + 1) (dec r) := h
    obtain ⟨q0, q1, qd⟩ := h'
    have e0 : (([] ++ ([65 + u] ++ ([36] ++ dec r)) : List Int).length : Int) = 2 + (dec r).length := by simp only [List.length_append, List.length_singleton, List.length_nil]; omega
    have hn2 : ndg (ch (a + (([] ++ ([65 + u] ++ ([36] ++ dec r)) : List Int).length : Int))) := hn
    rw [e0, show a + (2 + ((dec r).length : Int)) = a + 1 + 1 + (dec r).length by omega] at hn2
    have hx1 : ch (a + 1 + 1) = x := by rw [hx] at qd; exact qd.1
    obtain ⟨g1, g2⟩ := fin _ qd hn2
    have k := spF_key (ch := ch) (a := a) (f1 := 0) (f2 := 1) (r := r) (u := u) (if_neg (fun e => n36 (q0.symm.trans e.2))) (by rw [Int.add_zero]; exact q0) (if_pos ⟨rfl, by rw [Int.add_zero]; exact q1⟩) hc hr (by simpa only [Int.add_zero] using g1) (by simpa only [Int.add_zero] using g2)
    refine ⟨k.trans (Prod.ext (by dsimp only; omega) ?_), .inr ⟨by omega, by omega, by omega⟩⟩
    show _ = a + (([] ++ ([65 + u] ++ ([36] ++ dec r)) : List Int).length : Int)
    rw [e0, hdn]
    dsimp only
    generalize (if r < 10 then (1 : Int) else 2) = q
    omega
  · have h' : ch (a) = 36 ∧ ch (a + 1) = 65 + u ∧ ch (a + 1 + 1) = 36 ∧ TL ch (a + 1 + 1 + 1) (dec r) := h
    obtain ⟨q0, q1, q2, qd⟩ := h'
    have e0 : (([36] ++ ([65 + u] ++ ([36] ++ dec r)) : List Int).length : Int) = 3 + (dec r).length := by simp only [List.length_append, List.length_singleton, List.length_nil]; omega
    have hn2 : ndg (ch (a + (([36] ++ ([65 + u] ++ ([36] ++ dec r)) : List Int).length : Int))) := hn
    rw [e0, show a + (3 + ((dec r).length : Int)) = a + 1 + 1 + 1 + (dec r).length by omega] at hn2
    have hx1 : ch (a + 1 + 1 + 1) = x := by rw [hx] at qd; exact qd.1
    obtain ⟨g1, g2⟩ := fin _ qd hn2
    have k := spF_key (ch := ch) (a := a) (f1 := 1) (f2 := 1) (r := r) (u := u) (if_pos ⟨rfl, q0⟩) (by exact q1) (if_pos ⟨rfl, by exact q2⟩) hc hr (by simpa only [Int.add_zero] using g1) (by simpa only [Int.add_zero] using g2)
    refine ⟨k.trans (Prod.ext (by dsimp only; omega) ?_), .inl q0⟩
    show _ = a + (([36] ++ ([65 + u] ++ ([36] ++ dec r)) : List Int).length : Int)
    rw [e0, hdn]
    dsimp only
    generalize (if r < 10 then (1 : Int) else 2) = q
    omega
end
