/-! The model: the pile machine computes what a formula is worth -/
section
theorem wks_neg (b : Int) (p : List Int) : wks 210 (b :: p) = some (psh p 0 (-b)) := by cases p <;> rfl
theorem mach_tr {ms : List Int} {K Er R : Int → Int} (hE : okE Er R) (hl : ms.length ≤ 60) : ∀ s r n L v, Tr s r n L v → MaP ms K Er R s r L v := by
  refine Tr_ind ?_ ?_ ?_ ?_ ?_ ?_ ?_ ?_ ?_ ?_ ?_
  · -- a leaf
    intro t ht
    refine ⟨fun _ a p D hA ha hb hc _ => ?_, fun h => absurd rfl h⟩
    have hm : mks [t] = mk1 t := mks_1 t
    obtain ⟨x, e, hx⟩ := mk1_leaf ht
    rw [hm, e] at hA hb hc ⊢
    rw [show a + (([x] : List Int).length : Int) = a + 1 by simp] at hb hc ⊢
    have hx' := hA.1
    have hlt : a < ms.length := by omega
    unfold vLeaf
    have hO : tkO ms K Er R p D a = if isRf x = true then some ((psh p (Er (tgt x)) (if 0 < Er (tgt x) then 0 else R (tgt x))).1, D, a + 1, 0, (psh p (Er (tgt x)) (if 0 < Er (tgt x) then 0 else R (tgt x))).2) else if x = 3000000 then some (p, D, a + 1, 1, 3) else some ((psh p 0 (x - 10000)).1, D, a + 1, 0, (psh p 0 (x - 10000)).2) := by
      unfold tkO
      rw [hx', if_neg (by omega), if_neg (by omega), if_neg (by omega), if_neg (fun h => hc h.2)]
    rcases ht with h | h | h
    · have ex : x = 10000 + t / 8 := by
        have : mk1 t = [10000 + t / 8] := by unfold mk1; rw [if_pos h.1]
        rw [this] at e; injection e with e _; exact e.symm
      rw [if_pos h.1]
      rw [if_neg (isRf_n (by omega)), if_neg (by omega), psh_ok (by omega)] at hO
      rw [show x - 10000 = t / 8 by omega] at hO
      exact OuE_z (Run_O hlt hO)
    · have ex : x = spm (t / 8) := by
        have : mk1 t = [spm (t / 8)] := by unfold mk1; rw [if_neg (by omega), if_pos h.1]
        rw [this] at e; injection e with e _; exact e.symm
      rw [if_neg (by omega), if_pos h.1]
      have hr := spm_rng h.2
      have htg := tgt_spm h.2
      rw [← ex] at hr htg
      rw [if_pos (isRf_y hr), htg] at hO
      rcases hE (clp (t / 8)) with ⟨e1, e2⟩ | e1
      · rw [if_pos e1]
        rw [e1, if_neg (by decide), psh_ok e2] at hO
        exact OuE_z (Run_O hlt hO)
      · rw [if_neg (by omega)]
        rw [if_pos (by omega), psh_w (by omega)] at hO
        exact OuE_w (by omega) (Run_O hlt hO) rfl
    · subst h
      have ex : x = 3000000 := by
        have : mk1 4 = [3000000] := by decide
        rw [this] at e; injection e with e _; exact e.symm
      rw [if_neg (by decide), if_neg (by decide)]
      subst ex
      rw [if_neg (by decide), if_pos rfl] at hO
      exact OuE_w (by decide) (Run_O hlt hO) rfl
  · -- in brackets
    intro r n L v hT hP
    refine ⟨fun _ a p D hA ha hb hc _ => ?_, fun h => absurd rfl h⟩
    rw [mks_par] at hA hb hc ⊢
    simp only [List.length_cons, List.length_append, List.length_nil] at hb hc ⊢
    rw [AtM, AtM_app] at hA
    obtain ⟨h1, h2, h3, -⟩ := hA
    have hr := (Tr_len _ _ _ _ _ hT).2.2 rfl
    have hO : tkO ms K Er R p D a = some (p, (40, 0, 0) :: D, a + 1, 1, 0) := by unfold tkO; rw [h1, if_neg (by decide), if_pos rfl]
    rw [show a + (((mks L).length + (0 + 1) + 1 : Nat) : Int) = a + 1 + (mks L).length + 1 by omega]
    rcases MaP_in (s0 := (p, D, a, 1, 0)) (su := 0) (cn := 0) hE hr.1 hl ⟨n, hT⟩ hP (Run_O (by omega) hO) (by decide) h2 (by omega) (by omega) (.inr h3) with ⟨e, hg, p', D', hR, hw⟩ | ⟨e, s', hR, hw⟩
    · have hB : tkB ms p' D' (a + 1 + (mks L).length) = some ((v K Er R 0 0).2 :: p, D, a + 1 + (mks L).length + 1, 0, 0) := by
        unfold tkB
        rw [h3, if_pos (.inr rfl), hw]
        dsimp only
        rw [if_neg (by decide), if_neg (by decide), if_pos rfl, if_neg (by decide)]
      rw [show v K Er R 0 0 = (0, (v K Er R 0 0).2) from Prod.ext e rfl]
      exact OuE_z (Run_trans hR (Run_B (by omega) hB))
    · rw [show v K Er R 0 0 = ((v K Er R 0 0).1, (v K Er R 0 0).2) from rfl]
      exact OuE_w e hR hw
  · -- ABS
    intro r n L v hT hP
    refine ⟨fun _ a p D hA ha hb hc _ => ?_, fun h => absurd rfl h⟩
    rw [show (38 : Int) = 4 * 8 + 6 by decide, mks_fun, show (200 : Int) + 4 = 204 by decide] at hA hb hc ⊢
    simp only [List.length_cons, List.length_append, List.length_nil] at hb hc ⊢
    rw [AtM, AtM, AtM_app] at hA
    obtain ⟨h1, h1', h2, h3, -⟩ := hA
    have hr := (Tr_len _ _ _ _ _ hT).2.2 rfl
    have hO : tkO ms K Er R p D a = some (p, (204, 0, 0) :: D, a + 2, 1, 0) := by unfold tkO; rw [h1, if_neg (by decide), if_neg (by decide), if_pos (by decide)]
    rw [show a + (((mks L).length + (0 + 1) + 1 + 1 : Nat) : Int) = a + 2 + (mks L).length + 1 by omega]
    rw [show a + 1 + 1 = a + 2 by omega] at h2 h3
    unfold vAbs
    rcases MaP_in (s0 := (p, D, a, 1, 0)) (su := 0) (cn := 0) hE hr.1 hl ⟨n, hT⟩ hP (Run_O (by omega) hO) (by decide) h2 (by omega) (by omega) (.inr h3) with ⟨e, hg, p', D', hR, hw⟩ | ⟨e, s', hR, hw⟩
    · have hB : tkB ms p' D' (a + 2 + (mks L).length) = some ((if (v K Er R 0 0).2 < 0 then -(v K Er R 0 0).2 else (v K Er R 0 0).2) :: p, D, a + 2 + (mks L).length + 1, 0, 0) := by
        unfold tkB
        rw [h3, if_pos (.inr rfl), hw]
        dsimp only
        rw [if_neg (by decide), if_neg (by decide), if_neg (by decide)]
        rw [show enA ms (a + 2 + (mks L).length) ((v K Er R 0 0).2 :: p) ((204, 0, 0) :: D) = some ((v K Er R 0 0).2 :: p, (204, 0, 0) :: D, 0) by unfold enA; dsimp only; rw [if_neg (fun h => absurd h.1 (by decide))]]
        dsimp only
        rw [if_pos ⟨rfl, rfl⟩]
        unfold enC
        dsimp only
        rw [if_neg (by decide), if_neg (by decide), if_pos rfl, psh_ok (by split <;> omega)]
      rw [bnd_0 e]
      exact OuE_z (Run_trans hR (Run_B (by omega) hB))
    · rw [bnd_e (by omega)]
      exact OuE_w e hR hw
  · -- IF
    intro r n L v r1 n1 L1 v1 r2 n2 L2 v2 hT hT1 hT2 hP hP1 hP2
    refine ⟨fun _ a p D hA ha hb hc _ => ?_, fun h => absurd rfl h⟩
    rw [mks_if] at hA hb hc ⊢
    simp only [List.length_cons, List.length_append, List.length_nil] at hb hc ⊢
    rw [AtM, AtM, AtM_app, AtM, AtM_app, AtM, AtM_app] at hA
    obtain ⟨h1, h1', h2, h3, h4, h5, h6, h7, -⟩ := hA
    have hr := (Tr_len _ _ _ _ _ hT).2.2 rfl
    have hr1 := (Tr_len _ _ _ _ _ hT1).2.2 rfl
    have hr2 := (Tr_len _ _ _ _ _ hT2).2.2 rfl
    have hO : tkO ms K Er R p D a = some (p, (205, 0, 0) :: D, a + 2, 1, 0) := by unfold tkO; rw [h1, if_neg (by decide), if_neg (by decide), if_pos (by decide)]
    obtain ⟨b1, eb1⟩ : ∃ b1, a + 2 + ((mks L).length : Int) = b1 := ⟨_, rfl⟩
    obtain ⟨b2, eb2⟩ : ∃ b2, b1 + 1 + ((mks L1).length : Int) = b2 := ⟨_, rfl⟩
    obtain ⟨b3, eb3⟩ : ∃ b3, b2 + 1 + ((mks L2).length : Int) = b3 := ⟨_, rfl⟩
    rw [show a + (((mks L).length + ((mks L1).length + ((mks L2).length + (0 + 1) + 1) + 1) + 1 + 1 : Nat) : Int) = b3 + 1 by omega] at hb hc ⊢
    rw [show a + 1 + 1 = a + 2 by omega] at h2 h3 h4 h5 h6 h7
    rw [eb1] at h3 h4 h5 h6 h7
    rw [eb2] at h5 h6 h7
    rw [eb3] at h7
    unfold vIff
    have last : ∀ (s0 : Mc) (V : Ev) (LV : List Int) (q c' b0 cn : Int), True := fun _ _ _ _ _ _ _ => trivial
    rcases MaP_in (s0 := (p, D, a, 1, 0)) (su := 0) (cn := 0) hE hr.1 hl ⟨n, hT⟩ hP (Run_O (by omega) hO) (by decide) h2 (by omega) (by omega) (.inl (by rw [eb1]; exact h3)) with ⟨e, hg, p', D', hR, hw⟩ | ⟨e, s', hR, hw⟩
    · rw [eb1] at hR
      rw [bnd_0 e]
      have hB : tkB ms p' D' b1 = chF ms b1 ((v K Er R 0 0).2 :: p) 0 0 D := by
        unfold tkB
        rw [h3, if_pos (.inl rfl), hw]
        dsimp only
        rw [if_neg (by decide), if_pos ⟨rfl, rfl⟩]
      by_cases hx : (v K Er R 0 0).2 = 0
      · rw [if_pos hx]
        have hsk : skF ms false 61 0 (b1 + 1) = some b2 := by
          obtain ⟨k, ek⟩ : ∃ k, 61 = k + 1 + (mks L1).length := ⟨60 - (mks L1).length, by omega⟩
          rw [ek, ((skL_tr false _ _ _ _ _ hT1).1 rfl) ms 0 (b1 + 1) (k + 1) h4 (by decide), eb2, skF, h5, if_neg (by decide)]
        have hB' : tkB ms p' D' b1 = some (p, (205, 0, 2) :: D, b2 + 1, 1, 0) := by
          rw [hB]; unfold chF; rw [if_pos rfl]; dsimp only; rw [if_pos hx, hsk]
        rcases MaP_in (s0 := (p, D, a, 1, 0)) (su := 0) (cn := 2) hE hr2.1 hl ⟨n2, hT2⟩ hP2 (Run_trans hR (Run_B (by omega) hB')) (by decide) h6 (by omega) (by omega) (.inr (by rw [eb3]; exact h7)) with ⟨e', hg', p3, D3, hR3, hw3⟩ | ⟨e', s', hR3, hw3⟩
        · rw [eb3] at hR3
          have hB3 : tkB ms p3 D3 b3 = some ((v2 K Er R 0 0).2 :: p, D, b3 + 1, 0, 0) := by
            unfold tkB
            rw [h7, if_pos (.inr rfl), hw3]
            dsimp only
            rw [if_neg (by decide), if_neg (by decide), if_neg (by decide)]
            rw [show enA ms b3 ((v2 K Er R 0 0).2 :: p) ((205, 0, 2) :: D) = some ((v2 K Er R 0 0).2 :: p, (205, 0, 2) :: D, 0) by unfold enA; dsimp only; rw [if_neg (fun h => absurd h.1 (by decide))]]
            dsimp only
            rw [if_pos ⟨rfl, rfl⟩]
            unfold enC
            dsimp only
            rw [if_neg (by decide), if_neg (by decide), if_neg (by decide)]
          rw [show v2 K Er R 0 0 = (0, (v2 K Er R 0 0).2) from Prod.ext e' rfl]
          exact OuE_z (Run_trans hR3 (Run_B (by omega) hB3))
        · rw [show v2 K Er R 0 0 = ((v2 K Er R 0 0).1, (v2 K Er R 0 0).2) from rfl]
          exact OuE_w e' hR3 hw3
      · rw [if_neg hx]
        have hB' : tkB ms p' D' b1 = some (p, (205, 0, 1) :: D, b1 + 1, 1, 0) := by
          rw [hB]; unfold chF; rw [if_pos rfl]; dsimp only; rw [if_neg hx]
        rcases MaP_in (s0 := (p, D, a, 1, 0)) (su := 0) (cn := 1) hE hr1.1 hl ⟨n1, hT1⟩ hP1 (Run_trans hR (Run_B (by omega) hB')) (by decide) h4 (by omega) (by omega) (.inl (by rw [eb2]; exact h5)) with ⟨e', hg', p3, D3, hR3, hw3⟩ | ⟨e', s', hR3, hw3⟩
        · rw [eb2] at hR3
          have hsk : skF ms true 61 0 (b2 + 1) = some b3 := by
            obtain ⟨k, ek⟩ : ∃ k, 61 = k + 1 + (mks L2).length := ⟨60 - (mks L2).length, by omega⟩
            rw [ek, ((skL_tr true _ _ _ _ _ hT2).1 rfl) ms 0 (b2 + 1) (k + 1) h6 (by decide), eb3, skF, h7, if_neg (by decide)]
          have hB3 : tkB ms p3 D3 b2 = some ((v1 K Er R 0 0).2 :: p, D, b3 + 1, 0, 0) := by
            unfold tkB
            rw [h5, if_pos (.inl rfl), hw3]
            dsimp only
            rw [if_neg (by decide), if_pos ⟨rfl, rfl⟩]
            unfold chF
            rw [if_neg (by decide), hsk]
          rw [show v1 K Er R 0 0 = (0, (v1 K Er R 0 0).2) from Prod.ext e' rfl]
          exact OuE_z (Run_trans hR3 (Run_B (by omega) hB3))
        · rw [show v1 K Er R 0 0 = ((v1 K Er R 0 0).1, (v1 K Er R 0 0).2) from rfl]
          exact OuE_w e' hR3 hw3
    · rw [bnd_e (by omega)]
      exact OuE_w e hR hw
  · -- SUM and the like
    intro w r n L v w0 w3 hT hP
    refine ⟨fun _ a p D hA ha hb hc _ => ?_, fun h => absurd rfl h⟩
    rw [mks_fun] at hA hb hc ⊢
    simp only [List.length_cons, List.length_append, List.length_nil] at hb hc ⊢
    rw [AtM, AtM, AtM_app] at hA
    obtain ⟨h1, h1', h2, h3, -⟩ := hA
    have hO : tkO ms K Er R p D a = some (p, (200 + w, 0, 0) :: D, a + 2, 1, 0) := by unfold tkO; rw [h1, if_neg (by omega), if_neg (by omega), if_pos (by omega)]
    rw [show a + 1 + 1 = a + 2 by omega] at h2 h3
    obtain ⟨b, eb⟩ : ∃ b, a + 2 + ((mks L).length : Int) = b := ⟨_, rfl⟩
    rw [show a + (((mks L).length + (0 + 1) + 1 + 1 : Nat) : Int) = b + 1 by omega] at hb hc ⊢
    have hA0 : RelA w 0 0 (if w = 1 ∨ w = 2 then nothing else 0) := by
      refine ⟨by decide, by decide, fun e => by rw [if_neg (by omega)], fun e => .inl ⟨rfl, by rw [if_pos e]⟩, fun e => by rw [if_neg (by omega)]⟩
    obtain ⟨hv0, hS⟩ := hP.2 (by decide) (a + 2) p D w 0 0 _ h2 (by omega) (by omega) (by rw [h3]; decide) (by rw [show a + 2 - 1 = a + 1 by omega, h1']; decide) ⟨w0, w3⟩ hA0
    have hG := (Tr_good (K := K) hE _ _ _ _ _ hT).2 (by decide) (by have := mks_len L; omega) w 0 (if w = 1 ∨ w = 2 then nothing else 0) w0 w3 (by
      by_cases e : w = 1 ∨ w = 2
      · rw [if_pos e]; exact .inl ⟨rfl, .inr (.inl ⟨e, .inr rfl⟩)⟩
      · rw [if_neg e]
        by_cases e0 : w = 0
        · exact .inl ⟨rfl, .inl ⟨e0, by decide, by decide⟩⟩
        · exact .inl ⟨rfl, .inr (.inr ⟨by omega, by decide, by decide⟩)⟩)
    have hlen := mks_len L
    rw [eb] at h3 hS
    unfold vAgg
    obtain ⟨res, er⟩ : ∃ res, v K Er R w (if w = 1 ∨ w = 2 then nothing else 0) = res := ⟨_, rfl⟩
    rw [er] at hS hG hv0 ⊢
    have hS := OuA_run (Run_O (by omega) hO) hS
    rcases hS with ⟨e, s', k1, k2⟩ | ⟨p', D', k1, k2⟩
    · rw [bnd_e e]; exact OuE_w (by omega) k1 k2
    · rcases k2 with ⟨e, p'', D'', k3⟩ | ⟨p1, su1, cn1, p3, su3, cn3, w3', k3, k4, k5, k6⟩
      · rw [bnd_e e]; exact OuE_w (by omega) (Run_trans k1 (Run_B (by omega) (tkB_err (.inr h3) k3 (by omega)))) rfl
      · have hB : tkB ms p' D' b = if w3' = 0 then (match enC p3 ((200 + w, su3, cn3) :: D) with | none => none | some (p4, D4, w4) => some ((p4, D4, b + 1, 0, w4) : Mc)) else some ((p3, (200 + w, su3, cn3) :: D, b + 1, 0, w3') : Mc) := by
          unfold tkB
          rw [h3, if_pos (.inr rfl), k3]
          dsimp only
          rw [if_neg (by decide), if_neg (by omega), if_neg (by omega), k4]
          dsimp only
          by_cases e : w3' = 0
          · rw [if_pos ⟨rfl, e⟩, if_pos e]
            rfl
          · rw [if_neg (fun h => e h.2), if_neg e, if_neg (by decide)]
        by_cases e : res.1 = 0
        · obtain ⟨j1, j2, j3⟩ := k5 e
          rw [bnd_0 e]
          rw [if_pos j1] at hB
          subst j2
          obtain ⟨r1, r2, r3, r4, r5⟩ := j3
          unfold enC at hB
          dsimp only at hB
          by_cases ew : w = 3
          · have hz := r5 ew
            rw [if_neg (by omega), if_pos (by omega)] at hB
            unfold goodG at hG
            rw [psh_ok (by omega), ← hz] at hB
            rw [if_neg (by unfold nothing; omega)]
            exact OuE_z (Run_trans k1 (Run_B (by omega) hB))
          · rw [if_pos (by omega)] at hB
            by_cases e0 : w = 0
            · rw [if_neg (by omega), psh_ok r2, ← r3 e0] at hB
              rw [if_neg (by have := r3 e0; unfold nothing; omega)]
              exact OuE_z (Run_trans k1 (Run_B (by omega) hB))
            · rcases r4 (by omega) with ⟨c1, c2⟩ | ⟨c1, c2⟩
              · rw [if_pos ⟨by omega, c1⟩, psh_w (by decide)] at hB
                rw [if_pos c2]
                exact OuE_w (by decide) (Run_trans k1 (Run_B (by omega) hB)) rfl
              · rw [if_neg (fun h => by omega), psh_ok r2, ← c2] at hB
                rw [if_neg (by unfold nothing; omega)]
                exact OuE_z (Run_trans k1 (Run_B (by omega) hB))
        · have j1 := k6 e
          rw [if_neg (by omega)] at hB
          rw [bnd_e e]
          exact OuE_w (by omega) (Run_trans k1 (Run_B (by omega) hB)) j1
  · -- minus
    intro r n L v hT hP h4
    refine ⟨fun _ a p D hA ha hb hc _ => ?_, fun h => absurd rfl h⟩
    rw [mks_neg] at hA hb hc ⊢
    simp only [List.length_cons] at hb hc ⊢
    rw [AtM] at hA
    obtain ⟨h1, h2⟩ := hA
    have hO : tkO ms K Er R p D a = some (p, (210, 0, 0) :: D, a + 1, 1, 0) := by unfold tkO; rw [h1, if_pos rfl]
    rw [show a + (((mks L).length + 1 : Nat) : Int) = a + 1 + (mks L).length by omega] at hb hc ⊢
    have hg := (Tr_good (K := K) hE _ _ _ _ _ hT).1 rfl (by have := mks_len L; omega)
    have ho := OuE_run (Run_O (by omega) hO) (hP.1 rfl (a + 1) p ((210, 0, 0) :: D) h2 (by omega) hb hc (.inr h4))
    unfold vNeg
    rcases goodV_or hg with ⟨e, hx⟩ | e
    · obtain ⟨p', D', k1, k2⟩ := ho.1 e
      rw [bnd_0 e]
      refine ⟨fun _ => ⟨p', D', k1, fun k ka kb => ?_⟩, fun h => absurd rfl h⟩
      rw [k2 k ka (by omega), wd, if_pos ⟨rfl, by show k ≤ rnk 210; rw [show rnk 210 = 4 by decide]; exact kb⟩, wks_neg, psh_ok (by omega)]
    · rw [bnd_e (by omega)]
      rcases ho.2 (by omega) with ⟨s', k1, k2⟩ | ⟨p', D', k1, k2⟩
      · exact OuE_w e k1 k2
      · exact ⟨fun h => by have h : (v K Er R 0 0).1 = 0 := h; omega, fun _ => .inr ⟨p', D', k1, fun k ka kb => k2 k ka (by omega)⟩⟩
  · -- two operands
    intro op r n L v r1 n1 L1 v1 ho hT hT1 hP hP1 c1 c2 c3
    refine ⟨fun _ a p D hA ha hb hc hD => ?_, fun h => absurd rfl h⟩
    rw [mks_bin] at hA hb hc ⊢
    simp only [List.length_cons, List.length_append] at hb hc ⊢
    rw [AtM_app, AtM] at hA
    obtain ⟨h1, h2, h3⟩ := hA
    have hpr : 1 ≤ prc op ∧ prc op ≤ 3 := by unfold prc; split <;> (try split) <;> omega
    have hrk := rnk_op ho
    obtain ⟨b, eb⟩ : ∃ b, a + ((mks L).length : Int) = b := ⟨_, rfl⟩
    rw [show a + (((mks L).length + ((mks L1).length + 1) : Nat) : Int) = b + 1 + (mks L1).length by omega] at hb hc ⊢
    rw [eb] at h2 h3
    have hop : ¬ op = 44 ∧ ¬ op = 41 ∧ ¬ op = 58 := by unfold isO at ho; omega
    have hg := (Tr_good (K := K) hE _ _ _ _ _ hT).1 rfl (by have := mks_len L; omega)
    have hg1 := (Tr_good (K := K) hE _ _ _ _ _ hT1).1 rfl (by have := mks_len L1; omega)
    have ho1 := hP.1 rfl a p D h1 ha (by omega) (by rw [eb, h2]; exact hop.2.2) (by omega)
    rw [eb] at ho1
    have tkBe : ∀ p' D', tkB ms p' D' b = match wd (prc op) D' p' 0 with | none => none | some (p1, D1, w1) => some (p1, (op, 0, 0) :: D1, b + 1, 1, w1) := fun p' D' => by
      unfold tkB
      rw [h2, if_neg (by omega), hrk, if_neg (by omega)]
      rfl
    unfold vBin
    rcases goodV_or hg with ⟨e, hx⟩ | e
    · obtain ⟨p', D', k1, k2⟩ := ho1.1 e
      rw [bnd_0 e]
      have hB : tkB ms p' D' b = some ((v K Er R 0 0).2 :: p, (op, 0, 0) :: D, b + 1, 1, 0) := by rw [tkBe, k2 _ hpr.1 c1, wd_top (by omega)]
      have ho2 := OuE_run (Run_trans k1 (Run_B (by omega) hB)) (hP1.1 rfl (b + 1) ((v K Er R 0 0).2 :: p) ((op, 0, 0) :: D) h3 (by omega) hb hc (.inl (by show rnk op < r1; omega)))
      rcases goodV_or hg1 with ⟨e1, hy⟩ | e1
      · obtain ⟨p2, D2, k3, k4⟩ := ho2.1 e1
        rw [bnd_0 e1]
        obtain ⟨p3, w3, q1, q2, q3⟩ := wks_opv (p := p) (y := (v1 K Er R 0 0).2) ho hx
        have key : ∀ k, 1 ≤ k → k ≤ prc op → wd k D2 p2 0 = wd k D p3 w3 := fun k ka kb => by
          rw [k4 k ka (by omega), wd, if_pos ⟨rfl, by omega⟩, q1]
        refine ⟨fun he => ⟨p2, D2, k3, fun k ka kb => ?_⟩, fun he => .inr ⟨p2, D2, k3, fun k ka kb => ?_⟩⟩
        · obtain ⟨q4, q5⟩ := q2 he
          rw [key k ka kb, q4, q5]
        · have q4 := q3 he
          rw [key k ka kb, wd_w (by omega), q4]
          exact ⟨_, _, rfl⟩
      · rw [bnd_e (by omega)]
        rcases ho2.2 (by omega) with ⟨s', k3, k4⟩ | ⟨p2, D2, k3, k4⟩
        · exact OuE_w e1 k3 k4
        · exact ⟨fun h => by have h : (v1 K Er R 0 0).1 = 0 := h; omega, fun _ => .inr ⟨p2, D2, k3, fun k ka kb => k4 k ka (by omega)⟩⟩
    · rw [bnd_e (by omega)]
      rcases ho1.2 (by omega) with ⟨s', k1, k2⟩ | ⟨p', D', k1, k2⟩
      · exact OuE_w e k1 k2
      · obtain ⟨p'', D'', k3⟩ := k2 (prc op) hpr.1 c1
        have hB := tkBe p' D'
        rw [k3] at hB
        exact OuE_w e (Run_trans k1 (Run_B (by omega) hB)) rfl
  · -- an argument that is one value
    intro r n L v hT hP
    refine ⟨fun h => absurd h (by decide), fun _ a p D w su cn acc hA ha hb hc hd hw hR => ?_⟩
    have hr := (Tr_len _ _ _ _ _ hT).2.2 rfl
    have hg := (Tr_good (K := K) hE _ _ _ _ _ hT).1 rfl (by have := mks_len L; omega)
    have hf := rnk_f hw
    have ho := hP.1 rfl a p ((200 + w, su, cn) :: D) hA ha hb hc (.inl (by show rnk (200 + w) < r; omega))
    unfold vOne
    rcases goodV_or hg with ⟨e, hx⟩ | e
    · obtain ⟨p', D', k1, k2⟩ := ho.1 e
      rw [bnd_0 e]
      have hwd := k2 1 (by decide) hr.1
      rw [wd_top (D := (200 + w, su, cn) :: D) (by show rnk (200 + w) < 1; omega)] at hwd
      have hla := last_tr _ _ _ _ _ hT
      have hnr : ¬ wasR ms (a + (mks L).length) = true := fun h => by
        have h := (of_decide_eq_true h).2
        by_cases e1 : (mks L).length = 1
        · rw [show a + ((mks L).length : Int) - 2 = a - 1 by omega] at h; exact hd h
        · exact (hla.2 ms a hA).2 rfl (by omega) h
      have hA' : enA ms (a + (mks L).length) ((v K Er R 0 0).2 :: p) ((200 + w, su, cn) :: D) = some (p, (200 + w, (gvA (200 + w) su cn (v K Er R 0 0).2).1, (gvA (200 + w) su cn (v K Er R 0 0).2).2.1) :: D, (gvA (200 + w) su cn (v K Er R 0 0).2).2.2) := by
        unfold enA
        dsimp only
        rw [if_pos ⟨by omega, hnr⟩]
      have hgv := gvA_rel hw hR hx
      have hnn : 0 ≤ (jn w acc (v K Er R 0 0).2).1 := by
        by_cases h : (jn w acc (v K Er R 0 0).2).1 = 0
        · omega
        · have := jn_pos h; omega
      exact ⟨hnn, .inr ⟨p', D', k1, .inr ⟨_, _, _, _, _, _, _, hwd, hA', fun h => ⟨(hgv.1 h).1, rfl, (hgv.1 h).2⟩, hgv.2⟩⟩⟩
    · rw [bnd_e (by omega)]
      refine ⟨by show 0 ≤ (v K Er R 0 0).1; omega, ?_⟩
      rcases ho.2 (by omega) with ⟨s', k1, k2⟩ | ⟨p', D', k1, k2⟩
      · exact .inl ⟨by show ¬ (v K Er R 0 0).1 = 0; omega, s', k1, k2⟩
      · exact .inr ⟨p', D', k1, .inl ⟨by show ¬ (v K Er R 0 0).1 = 0; omega, k2 1 (by decide) hr.1⟩⟩
  · -- a range
    intro t ht
    refine ⟨fun h => absurd h (by decide), fun _ a p D w su cn acc hA ha hb hc hd hw hR => ?_⟩
    rw [mks_1, mk1_rng ht] at hA hb hc ⊢
    rw [show a + (([spm (t / 8 % 1024), 58, spm (t / 8 / 1024)] : List Int).length : Int) = a + 3 by simp] at hb hc ⊢
    obtain ⟨h1, h2, h3, -⟩ := hA
    have r1 := spm_rng ht.2.1
    have hf := rnk_f hw
    have hrel := gvR_rel (K := K) hE (a := clp (t / 8 % 1024)) (b := clp (t / 8 / 1024)) hw hR
    have hO : tkO ms K Er R p ((200 + w, su, cn) :: D) a = some (p, (200 + w, (gvR K Er R (200 + w) (clp (t / 8 % 1024)) (clp (t / 8 / 1024)) (su, cn, 0)).1, (gvR K Er R (200 + w) (clp (t / 8 % 1024)) (clp (t / 8 / 1024)) (su, cn, 0)).2.1) :: D, a + 3, 0, (gvR K Er R (200 + w) (clp (t / 8 % 1024)) (clp (t / 8 / 1024)) (su, cn, 0)).2.2) := by
      unfold tkO
      rw [h1, if_neg (by omega), if_neg (by omega), if_neg (by omega), if_pos ⟨isRf_y r1, h2⟩, show a + 2 = a + 1 + 1 by omega, h3, tgt_spm ht.2.1, tgt_spm ht.2.2]
    unfold vRng
    have hlt : t / 8 / 1024 % 1024 = t / 8 / 1024 := by have := ht.2.2; unfold okS at this; omega
    rw [hlt]
    obtain ⟨q, eq⟩ : ∃ q, gvR K Er R (200 + w) (clp (t / 8 % 1024)) (clp (t / 8 / 1024)) (su, cn, 0) = q := ⟨_, rfl⟩
    obtain ⟨z, ez⟩ : ∃ z, rngv K Er R w (clp (t / 8 % 1024)) (clp (t / 8 / 1024)) acc = z := ⟨_, rfl⟩
    rw [eq, ez] at hrel
    rw [eq] at hO
    rw [ez]
    by_cases e : z.1 = 0
    · obtain ⟨j1, j2⟩ := hrel.1 e
      rw [j1] at hO
      refine ⟨by omega, .inr ⟨_, _, Run_O (by omega) hO, .inr ⟨p, q.1, q.2.1, p, q.1, q.2.1, 0, wd_top (by show rnk (200 + w) < 1; omega), ?_, fun _ => ⟨rfl, rfl, j2⟩, fun h => absurd e h⟩⟩⟩
      unfold enA
      dsimp only
      rw [if_neg (fun h => h.2 (decide_eq_true ⟨by omega, by rw [show a + 3 - 2 = a + 1 by omega]; exact h2⟩))]
    · obtain ⟨j1, j2⟩ := hrel.2 e
      exact ⟨by omega, .inl ⟨e, _, Run_O (by omega) hO, j1⟩⟩
  · -- one argument
    intro r n L v _ hP
    exact ⟨fun h => absurd h (by decide), fun _ => hP.2 (by decide)⟩
  · -- an argument more
    intro r n L v r1 n1 L1 v1 hT hT1 hP hP1
    refine ⟨fun h => absurd h (by decide), fun _ a p D w su cn acc hA ha hb hc hd hw hR => ?_⟩
    rw [mks_more] at hA hb hc ⊢
    simp only [List.length_cons, List.length_append] at hb hc ⊢
    rw [AtM_app, AtM] at hA
    obtain ⟨h1, h2, h3⟩ := hA
    obtain ⟨b, eb⟩ : ∃ b, a + ((mks L).length : Int) = b := ⟨_, rfl⟩
    rw [show a + (((mks L).length + ((mks L1).length + 1) : Nat) : Int) = b + 1 + (mks L1).length by omega] at hb hc ⊢
    rw [eb] at h2 h3
    obtain ⟨hv0, hS⟩ := hP.2 (by decide) a p D w su cn acc h1 ha (by omega) (by rw [eb, h2]; decide) hd hw hR
    rw [eb] at hS
    unfold vMore
    obtain ⟨res, er⟩ : ∃ res, v K Er R w acc = res := ⟨_, rfl⟩
    rw [er] at hS hv0 ⊢
    rcases hS with ⟨e, s', k1, k2⟩ | ⟨p', D', k1, k2⟩
    · rw [bnd_e e]; exact ⟨hv0, .inl ⟨e, s', k1, k2⟩⟩
    · rcases k2 with ⟨e, p'', D'', k3⟩ | ⟨p1, su1, cn1, p3, su3, cn3, w3', k3, k4, k5, k6⟩
      · rw [bnd_e e]; exact ⟨hv0, .inl ⟨e, _, Run_trans k1 (Run_B (by omega) (tkB_err (.inl h2) k3 (by omega))), rfl⟩⟩
      · have hB : tkB ms p' D' b = some (p3, (200 + w, su3, cn3) :: D, b + 1, 1, w3') := by
          unfold tkB
          rw [h2, if_pos (.inl rfl), k3]
          dsimp only
          rw [if_neg (by decide), if_neg (by omega), if_neg (by omega), k4]
          dsimp only
          rw [if_neg (fun h => absurd h.1 (by decide)), if_pos rfl]
        by_cases e : res.1 = 0
        · obtain ⟨j1, j2, j3⟩ := k5 e
          rw [bnd_0 e]
          subst j1; subst j2
          obtain ⟨hv1, hS1⟩ := hP1.2 (by decide) (b + 1) p3 D w su3 cn3 res.2 h3 (by omega) hb hc (by rw [show b + 1 - 1 = b by omega, h2]; decide) hw j3
          exact ⟨hv1, OuA_run (Run_trans k1 (Run_B (by omega) hB)) hS1⟩
        · rw [bnd_e e]
          exact ⟨hv0, .inl ⟨e, _, Run_trans k1 (Run_B (by omega) hB), k6 e⟩⟩
/-- a whole formula -/
theorem mach_all {K Er R : Int → Int} {L : List Int} {v : Ev} {r : Int} {n : Nat} (hE : okE Er R) (hl : (mks L).length ≤ 60) (hT : Tr 0 r n L v) :
    ∃ s', Run (mks L) K Er R ([], [], 0, 1, 0) s' ∧ (¬ s'.2.2.2.2 = 0 ∨ s'.2.2.1 = (mks L).length) ∧ ∃ p D w, wd 1 s'.2.1 s'.1 s'.2.2.2.2 = some (p, D, w) ∧ w = (v K Er R 0 0).1 ∧ (w = 0 → p = [(v K Er R 0 0).2]) := by
  have hr := (Tr_len _ _ _ _ _ hT).2.2 rfl
  have ho := (mach_tr (ms := mks L) (K := K) hE hl _ _ _ _ _ hT).1 rfl 0 [] [] (AtM_self _) (by decide) (by omega) (by rw [mkat_end (by omega)]; decide) (.inl (by show (0 : Int) < r; omega))
  rw [Int.zero_add] at ho
  by_cases e : (v K Er R 0 0).1 = 0
  · obtain ⟨p', D', k1, k2⟩ := ho.1 e
    exact ⟨_, k1, .inr rfl, _, _, _, (k2 1 (by decide) hr.1).trans rfl, e.symm, fun _ => rfl⟩
  · rcases ho.2 e with ⟨s', k1, k2⟩ | ⟨p', D', k1, k2⟩
    · exact ⟨s', k1, .inl (by rw [k2]; exact e), _, _, _, wd_w (by rw [k2]; exact e), k2, fun h => absurd (k2.symm.trans h) e⟩
    · obtain ⟨p'', D'', k3⟩ := k2 1 (by decide) hr.1
      exact ⟨_, k1, .inr rfl, _, _, _, k3, rfl, fun h => absurd h e⟩
end
