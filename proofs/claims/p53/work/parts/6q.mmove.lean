/-! rows of whole that the class needs (written by wip/p53/extract.py) -/
section
theorem tkF_tree {sp : Int → Int} {co : Int → Int → Int} (ok1 : ∀ s, okS s → okM (sp s)) (ok2 : ∀ s o, okS s → okS o → okM (co s o)) {L : List Int} (h : ∃ v : Ev, ∃ r n, Tr 0 r n L v) : ∃ v : Ev, ∃ r n, Tr 0 r n (L.map (tkF sp co)) v := by
  obtain ⟨v, r, n, hT⟩ := h
  have := (Tr_map (f := tkF sp co) (fun t ht => by unfold tkF; rw [if_neg (by omega), if_neg (by omega)]) (fun t ht => ?_) (fun t ht => ?_) 0 r n L v hT).1 rfl
  · obtain ⟨v', h'⟩ := this
    exact ⟨v', r, n, h'⟩
  · rcases ht with h | h | h
    · have e : tkF sp co t = t := by unfold tkF; rw [if_neg (by omega), if_neg (by omega)]
      rw [e]; exact .inl h
    · unfold tkF
      rw [if_pos h.1]
      rcases ok1 _ h.2 with e | e
      · rw [if_pos (by omega)]; exact .inr (.inr rfl)
      · have e' := e
        unfold okS at e'
        rw [if_neg (by omega)]
        exact .inr (.inl ⟨by omega, by rw [show (sp (t / 8) * 8 + 2) / 8 = sp (t / 8) by omega]; exact e⟩)
    · subst h
      exact .inr (.inr (by unfold tkF; rw [if_neg (by decide), if_neg (by decide)]))
  · have h3 := ht.1
    unfold tkF
    rw [if_neg (by omega), if_pos h3]
    split
    · exact .inr rfl
    · next hn =>
      have e10 : t / 8 / 1024 % 1024 = t / 8 / 1024 := by have := ht.2.2; unfold okS at this; omega
      rw [e10] at hn ⊢
      have o1 := (ok2 _ _ ht.2.1 ht.2.2).resolve_left (by omega)
      have o2 := (ok2 _ _ ht.2.2 ht.2.1).resolve_left (by omega)
      have o1' := o1
      have o2' := o2
      unfold okS at o1' o2'
      refine .inl ⟨by omega, ?_, ?_⟩
      · rw [show ((co (t / 8 % 1024) (t / 8 / 1024) + 1024 * co (t / 8 / 1024) (t / 8 % 1024)) * 8 + 3) / 8 % 1024 = co (t / 8 % 1024) (t / 8 / 1024) by omega]; exact o1
      · rw [show ((co (t / 8 % 1024) (t / 8 / 1024) + 1024 * co (t / 8 / 1024) (t / 8 % 1024)) * 8 + 3) / 8 / 1024 = co (t / 8 / 1024) (t / 8 % 1024) by omega]; exact o2
theorem mk1_map {sp : Int → Int} {co : Int → Int → Int} (ok1 : ∀ s, okS s → okM (sp s)) {t : Int} (h : okG t) : (mk1 (tkF sp co t)).length ≤ (mk1 t).length := by
  have id8 : ¬ t % 8 = 2 → ¬ t % 8 = 3 → tkF sp co t = t := fun a b => by unfold tkF; rw [if_neg a, if_neg b]
  rcases h with h | h | h | h | h | h
  · rw [id8 (by omega) (by omega)]; exact Nat.le_refl _
  · have e : mk1 t = [spm (t / 8)] := by unfold mk1; rw [if_neg (by omega), if_pos h.1]
    rw [e]
    unfold tkF
    rw [if_pos h.1]
    rcases ok1 _ h.2 with e | e
    · rw [if_pos (by omega), show mk1 4 = [3000000] by decide]; exact Nat.le_refl _
    · unfold okS at e
      rw [if_neg (by omega)]
      unfold mk1
      rw [if_neg (by omega), if_pos (by omega)]
      exact Nat.le_refl _
  · rw [id8 (by omega) (by omega)]; exact Nat.le_refl _
  · have e := mk1_rng h
    rw [e]
    have := (mk1_len (tkF sp co t)).1
    simp only [List.length_cons, List.length_nil]
    omega
  · rw [id8 (by omega) (by omega)]; exact Nat.le_refl _
  · rw [id8 (by omega) (by omega)]; exact Nat.le_refl _
theorem mks_map {sp : Int → Int} {co : Int → Int → Int} (ok1 : ∀ s, okS s → okM (sp s)) : ∀ (L : List Int), (∀ t ∈ L, okG t) → (mks (L.map (tkF sp co))).length ≤ (mks L).length
  | [], _ => Nat.le_refl _
  | t :: L, h => by
    rw [List.map_cons, mks_cons, mks_cons, List.length_append, List.length_append]
    have h1 := mk1_map (co := co) ok1 (h t (List.mem_cons_self ..))
    have h2 := mks_map (co := co) ok1 L (fun x hx => h x (List.mem_cons_of_mem _ hx))
    omega
theorem words_ok {sp : Int → Int} {co : Int → Int → Int} (ok1 : ∀ s, okS s → okM (sp s)) (ok2 : ∀ s o, okS s → okS o → okM (co s o)) {L : List Int} (h : (∃ v : Ev, ∃ r n, Tr 0 r n L v) ∧ (mks L).length ≤ 60) : (∃ v : Ev, ∃ r n, Tr 0 r n (L.map (tkF sp co)) v) ∧ (mks (L.map (tkF sp co))).length ≤ 60 := by
  refine ⟨tkF_tree ok1 ok2 h.1, ?_⟩
  obtain ⟨⟨v, r, n, hT⟩, hl⟩ := h
  have := mks_map (co := co) ok1 L (Tr_okG _ _ _ _ _ hT)
  omega
theorem shW_ok {sp : Int → Int} {co : Int → Int → Int} {A : Sh} (ok1 : ∀ s, okS s → okM (sp s)) (ok2 : ∀ s o, okS s → okS o → okM (co s o)) (h : ShOK A) : ShOK (shW A (tkF sp co)) := fun c c1 c2 => by
  obtain ⟨h1, h2, h3⟩ := h c c1 c2
  exact ⟨h1, fun e => words_ok ok1 ok2 (h2 e), h3⟩
variable {X : xX} {S : xLm} {g : xGm} {d m : Nat} {w : xH} {Q : xO → xH → Prop} {P : Pd} {A : Sh} {sn : Option Sh} {H : List Sh}
/-- a cell that was moved -/
def mvA (A : Sh) (f t : Int) : Sh := shP (shP A t (A.1 f) (A.2.1 f) (A.2.2.1 f)) f 0 0 []
theorem mvA_ok {f t : Int} (hf : 0 ≤ f ∧ f < 200) (h : ShOK A) : ShOK (mvA A f t) := by
  obtain ⟨h1, h2, h3⟩ := h f hf.1 hf.2
  exact ShOK_put (ShOK_put h h1 h2 h3) (.inl rfl) (fun e => absurd e (by decide)) (fun e => absurd e (by decide))
noncomputable def moS (A : Sh) (f t : Int) : Sh := shC (shW (mvA A f t) (tkF (mvS f t) (fun s _ => s))) (cnA (mvA A f t).1)
def moN (A : Sh) (f t : Int) : Int := sumf (fun x => if (mvA A f t).1 x = 2 then tcS (tcM f t) ((mvA A f t).2.2.1 x) else 0) 0 200
end
