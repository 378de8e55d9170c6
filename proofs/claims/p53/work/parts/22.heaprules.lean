/-! the steps that read and write memory, returns, calls: as equations -/
section
variable {X : xX} {d M : Nat} {cc : ByteArray} {pc pc' tg : Nat} {L : xL} {st : List Value} {w : xH} {S : xLm} {g : xGm} {Q : xO → xH → Prop}
theorem xak_inv {sh : xSh} {k : Nat} (h : xak sh = some k) : sh = .inl (k, xan sh) := by
  rcases sh with ⟨k', n⟩ | ⟨ci, fs⟩
  · cases h; rfl
  · cases h
theorem hp_arr {a k : Nat} (h : xak (S.1 a) = some k) (h1 : k ≠ 1) (h5 : k ≠ 5) : xat (hp S g) a = .inl (k, xan (S.1 a), .inl (fun j => iI (g a j))) := by
  show xem (S.1 a) (g a) = _
  rw [xak_inv h]
  simp only [xem, if_neg h1, if_neg h5]
  rfl
theorem hp_arrL {a : Nat} (h : xak (S.1 a) = some 1) : xat (hp S g) a = .inl (1, xan (S.1 a), .inr (.inl (fun j => lI (g a j)))) := by
  show xem (S.1 a) (g a) = _
  rw [xak_inv h]
  rfl
theorem hp_arrQ {a : Nat} (h : xak (S.1 a) = some 5) : xat (hp S g) a = .inl (5, xan (S.1 a), .inr (.inr (.inr (.inr (fun j => if g a j < 0 then none else some (g a j).toNat))))) := by
  show xem (S.1 a) (g a) = _
  rw [xak_inv h]
  rfl
theorem xcl_ti {i : Int} (h : 0 ≤ ti i) : ((iI i).toNatClampNeg : Int) = ti i := by
  rw [iI_clamp, if_neg (by omega)]
/-- the row is written -/
theorem hp_set {a k : Nat} {i x : Int} {f : Nat → Int32} (h : xak (S.1 a) = some k) (h1 : k ≠ 1) (h5 : k ≠ 5) (hi : 0 ≤ ti i) (hf : f = upd (fun j => iI (g a j)) (iI i).toNatClampNeg (iI x)) : xpt (hp S g) a (.inl (k, xan (S.1 a), .inl f)) = hp S (gs g a (ti i) x) := by
  have hn := xak_inv h
  generalize xan (S.1 a) = N at hn ⊢
  have hx : (.inl (k, N, .inl f) : xE) = xem (S.1 a) (fun j => if j = ti i then x else g a j) := by
    rw [hn]
    simp only [xem, if_neg h1, if_neg h5]
    rw [hf]
    refine congrArg (fun q => (Sum.inl (k, N, Sum.inl q) : xE)) ?_
    funext j
    unfold upd
    have := xcl_ti hi
    by_cases hj : j = (iI i).toNatClampNeg
    · rw [if_pos hj, if_pos (by omega)]
    · rw [if_neg hj, if_neg (by omega)]
  rw [hx, hp_pt S g a _ _ rfl, gs_fun]
theorem w_ald {k : Nat} {i : Int} {a : Nat} {ins : Instr} (hq : xMc M = cc) (hd : decode cc pc = .ok (ins, 1)) (hp' : pc + 1 = pc') (hk : xak (S.1 a) = some k) (h1 : k ≠ 1) (h5 : k ≠ 5)
    (hins : ∃ ok : Nat → Bool, ok k = true ∧ xone X M (xMo M) pc L (.int (iI i) :: .ref a :: st) (hp S g) ins 1 = (xai (hp S g) ok (.int (iI i) :: .ref a :: st)).map (fun st' => (pc + 1, L, st', hp S g)) ∧ ∀ rec, xctl rec d M (xMo M) (xMc M) pc L (.int (iI i) :: .ref a :: st) (hp S g) ins 1 = none) :
    Wx X d M pc L (.int (iI i) :: .ref a :: st) (hp S g) Q = ((0 ≤ ti i ∧ ti i < xan (S.1 a)) ∧ Wx X d M pc' L (.int (iI (g a (ti i))) :: st) (hp S g) Q) := by
  subst hp'
  obtain ⟨ok, h2, h3, h4⟩ := hins
  have hat := hp_arr (g := g) hk h1 h5
  refine w_and (fun h => ?_) (fun h => ?_)
  · refine Wx_step hq hd ?_
    rw [h3]
    simp only [xai, hat, h2, (xin_iff i _).mpr h, Bool.and_self, xk, if_true, Option.map_some]
    rw [xcl_ti h.1]
  · refine Wx_no hq hd ?_ (hq ▸ h4)
    rw [h3]
    have : xin (iI i) (xan (S.1 a)) = false := by
      cases hx : xin (iI i) (xan (S.1 a)) with
      | false => rfl
      | true => exact absurd ((xin_iff i _).mp hx) h
    simp only [xai, hat, h2, this, Bool.and_false, xk]
    rfl
theorem w_iaload {i : Int} {a : Nat} (hq : xMc M = cc) (hd : decode cc pc = .ok (.iaload, 1)) (hp' : pc + 1 = pc') (hk : xak (S.1 a) = some 0) :
    Wx X d M pc L (.int (iI i) :: .ref a :: st) (hp S g) Q = ((0 ≤ ti i ∧ ti i < xan (S.1 a)) ∧ Wx X d M pc' L (.int (iI (g a (ti i))) :: st) (hp S g) Q) :=
  w_ald hq hd hp' hk (by decide) (by decide) ⟨(· == 0), rfl, rfl, fun _ => rfl⟩
theorem w_caload {i : Int} {a : Nat} (hq : xMc M = cc) (hd : decode cc pc = .ok (.caload, 1)) (hp' : pc + 1 = pc') (hk : xak (S.1 a) = some 2) :
    Wx X d M pc L (.int (iI i) :: .ref a :: st) (hp S g) Q = ((0 ≤ ti i ∧ ti i < xan (S.1 a)) ∧ Wx X d M pc' L (.int (iI (g a (ti i))) :: st) (hp S g) Q) :=
  w_ald hq hd hp' hk (by decide) (by decide) ⟨(· == 2), rfl, rfl, fun _ => rfl⟩
theorem w_baload {i : Int} {a : Nat} (hq : xMc M = cc) (hd : decode cc pc = .ok (.baload, 1)) (hp' : pc + 1 = pc') (hk : xak (S.1 a) = some 3) :
    Wx X d M pc L (.int (iI i) :: .ref a :: st) (hp S g) Q = ((0 ≤ ti i ∧ ti i < xan (S.1 a)) ∧ Wx X d M pc' L (.int (iI (g a (ti i))) :: st) (hp S g) Q) :=
  w_ald hq hd hp' hk (by decide) (by decide) ⟨fun k => k == 3 || k == 4, rfl, rfl, fun _ => rfl⟩
theorem w_zaload {i : Int} {a : Nat} (hq : xMc M = cc) (hd : decode cc pc = .ok (.baload, 1)) (hp' : pc + 1 = pc') (hk : xak (S.1 a) = some 4) :
    Wx X d M pc L (.int (iI i) :: .ref a :: st) (hp S g) Q = ((0 ≤ ti i ∧ ti i < xan (S.1 a)) ∧ Wx X d M pc' L (.int (iI (g a (ti i))) :: st) (hp S g) Q) :=
  w_ald hq hd hp' hk (by decide) (by decide) ⟨fun k => k == 3 || k == 4, rfl, rfl, fun _ => rfl⟩
theorem w_laload {i : Int} {a : Nat} (hq : xMc M = cc) (hd : decode cc pc = .ok (.laload, 1)) (hp' : pc + 1 = pc') (hk : xak (S.1 a) = some 1) :
    Wx X d M pc L (.int (iI i) :: .ref a :: st) (hp S g) Q = ((0 ≤ ti i ∧ ti i < xan (S.1 a)) ∧ Wx X d M pc' L (.long (lI (g a (ti i))) :: st) (hp S g) Q) := by
  subst hp'
  have hat := hp_arrL (g := g) hk
  refine w_and (fun h => ?_) (fun h => ?_)
  · refine Wx_step hq hd ?_
    simp only [xone, xal1, hat, (xin_iff i _).mpr h, Bool.and_self, xk, if_true, Option.map_some, beq_self_eq_true]
    rw [xcl_ti h.1]
  · refine Wx_no hq hd ?_ (fun _ => rfl)
    have : xin (iI i) (xan (S.1 a)) = false := by
      cases hx : xin (iI i) (xan (S.1 a)) with
      | false => rfl
      | true => exact absurd ((xin_iff i _).mp hx) h
    simp only [xone, xal1, hat, this, Bool.and_false, xk]
    rfl
def xrf (z : Int) : Value := if z < 0 then .null else .ref z.toNat
theorem w_aaload {i : Int} {a : Nat} (hq : xMc M = cc) (hd : decode cc pc = .ok (.aaload, 1)) (hp' : pc + 1 = pc') (hk : xak (S.1 a) = some 5) :
    Wx X d M pc L (.int (iI i) :: .ref a :: st) (hp S g) Q = ((0 ≤ ti i ∧ ti i < xan (S.1 a)) ∧ Wx X d M pc' L (xrf (g a (ti i)) :: st) (hp S g) Q) := by
  subst hp'
  have hat := hp_arrQ (g := g) hk
  refine w_and (fun h => ?_) (fun h => ?_)
  · refine Wx_step hq hd ?_
    simp only [xone, xaa, hat, (xin_iff i _).mpr h, Bool.and_self, xk, if_true, Option.map_some, beq_self_eq_true]
    rw [xcl_ti h.1]
    unfold xrf
    split <;> rfl
  · refine Wx_no hq hd ?_ (fun _ => rfl)
    have : xin (iI i) (xan (S.1 a)) = false := by
      cases hx : xin (iI i) (xan (S.1 a)) with
      | false => rfl
      | true => exact absurd ((xin_iff i _).mp hx) h
    simp only [xone, xaa, hat, this, Bool.and_false, xk]
    rfl
theorem w_ast {k : Nat} {i x x' : Int} {a : Nat} {ins : Instr} (hq : xMc M = cc) (hd : decode cc pc = .ok (ins, 1)) (hp' : pc + 1 = pc') (hk : xak (S.1 a) = some k) (h1 : k ≠ 1) (h5 : k ≠ 5) (hx : xnr k (iI x) = iI x')
    (hins : ∃ ok : Nat → Bool, ok k = true ∧ xone X M (xMo M) pc L (.int (iI x) :: .int (iI i) :: .ref a :: st) (hp S g) ins 1 = (xsi (hp S g) ok (.int (iI x) :: .int (iI i) :: .ref a :: st)).map (fun q => (pc + 1, L, q.1, q.2)) ∧ ∀ rec, xctl rec d M (xMo M) (xMc M) pc L (.int (iI x) :: .int (iI i) :: .ref a :: st) (hp S g) ins 1 = none) :
    Wx X d M pc L (.int (iI x) :: .int (iI i) :: .ref a :: st) (hp S g) Q = ((0 ≤ ti i ∧ ti i < xan (S.1 a)) ∧ Wx X d M pc' L st (hp S (gs g a (ti i) x')) Q) := by
  subst hp'
  obtain ⟨ok, h2, h3, h4⟩ := hins
  have hat := hp_arr (g := g) hk h1 h5
  refine w_and (fun h => ?_) (fun h => ?_)
  · refine Wx_step hq hd ?_
    rw [h3]
    simp only [xsi, hat, h2, (xin_iff i _).mpr h, Bool.and_self, xk, if_true, Option.map_some]
    rw [hp_set (x := x') hk h1 h5 h.1 (by rw [hx])]
  · refine Wx_no hq hd ?_ (hq ▸ h4)
    rw [h3]
    have : xin (iI i) (xan (S.1 a)) = false := by
      cases hx : xin (iI i) (xan (S.1 a)) with
      | false => rfl
      | true => exact absurd ((xin_iff i _).mp hx) h
    simp only [xsi, hat, h2, this, Bool.and_false, xk]
    rfl
theorem w_iastore {i x : Int} {a : Nat} (hq : xMc M = cc) (hd : decode cc pc = .ok (.iastore, 1)) (hp' : pc + 1 = pc') (hk : xak (S.1 a) = some 0) :
    Wx X d M pc L (.int (iI x) :: .int (iI i) :: .ref a :: st) (hp S g) Q = ((0 ≤ ti i ∧ ti i < xan (S.1 a)) ∧ Wx X d M pc' L st (hp S (gs g a (ti i) x)) Q) :=
  w_ast hq hd hp' hk (by decide) (by decide) rfl ⟨(· == 0), rfl, rfl, fun _ => rfl⟩
theorem w_castore {i x : Int} {a : Nat} (hq : xMc M = cc) (hd : decode cc pc = .ok (.castore, 1)) (hp' : pc + 1 = pc') (hk : xak (S.1 a) = some 2) :
    Wx X d M pc L (.int (iI x) :: .int (iI i) :: .ref a :: st) (hp S g) Q = ((0 ≤ ti i ∧ ti i < xan (S.1 a)) ∧ Wx X d M pc' L st (hp S (gs g a (ti i) (xnc x))) Q) :=
  w_ast hq hd hp' hk (by decide) (by decide) (xnc_eq x) ⟨(· == 2), rfl, rfl, fun _ => rfl⟩
theorem w_bastore {i x : Int} {a : Nat} (hq : xMc M = cc) (hd : decode cc pc = .ok (.bastore, 1)) (hp' : pc + 1 = pc') (hk : xak (S.1 a) = some 3) :
    Wx X d M pc L (.int (iI x) :: .int (iI i) :: .ref a :: st) (hp S g) Q = ((0 ≤ ti i ∧ ti i < xan (S.1 a)) ∧ Wx X d M pc' L st (hp S (gs g a (ti i) (xnb x))) Q) :=
  w_ast hq hd hp' hk (by decide) (by decide) (xnb_eq x) ⟨fun k => k == 3 || k == 4, rfl, rfl, fun _ => rfl⟩
theorem w_zastore {i x : Int} {a : Nat} (hq : xMc M = cc) (hd : decode cc pc = .ok (.bastore, 1)) (hp' : pc + 1 = pc') (hk : xak (S.1 a) = some 4) :
    Wx X d M pc L (.int (iI x) :: .int (iI i) :: .ref a :: st) (hp S g) Q = ((0 ≤ ti i ∧ ti i < xan (S.1 a)) ∧ Wx X d M pc' L st (hp S (gs g a (ti i) (xnz x))) Q) :=
  w_ast hq hd hp' hk (by decide) (by decide) (xnz_eq x) ⟨fun k => k == 3 || k == 4, rfl, rfl, fun _ => rfl⟩
theorem hp_row {a : Nat} (e : xE) (r' : Int → Int) (he : e = xem (S.1 a) r') : xpt (hp S g) a e = hp S (fun h => if h = a then r' else g h) := by
  rw [he, hp_pt S g a r' _ rfl]
theorem w_lastore {i x : Int} {a : Nat} (hq : xMc M = cc) (hd : decode cc pc = .ok (.lastore, 1)) (hp' : pc + 1 = pc') (hk : xak (S.1 a) = some 1) :
    Wx X d M pc L (.long (lI x) :: .int (iI i) :: .ref a :: st) (hp S g) Q = ((0 ≤ ti i ∧ ti i < xan (S.1 a)) ∧ Wx X d M pc' L st (hp S (gs g a (ti i) x)) Q) := by
  subst hp'
  have hat := hp_arrL (g := g) hk
  refine w_and (fun h => ?_) (fun h => ?_)
  · refine Wx_step hq hd ?_
    simp only [xone, xsl, hat, (xin_iff i _).mpr h, Bool.and_self, xk, if_true, Option.map_some, beq_self_eq_true]
    rw [hp_row _ (fun j => if j = ti i then x else g a j) ?_, gs_fun]
    have hn := xak_inv hk
    generalize xan (S.1 a) = N at hn ⊢
    have := xcl_ti h.1
    rw [hn]
    refine congrArg (fun q => (Sum.inl (1, N, Sum.inr (Sum.inl q)) : xE)) ?_
    funext j
    show (if j = (iI i).toNatClampNeg then lI x else lI (g a j)) = lI (if (j : Int) = ti i then x else g a j)
    by_cases hj : j = (iI i).toNatClampNeg
    · rw [if_pos hj, if_pos (by omega)]
    · rw [if_neg hj, if_neg (by omega)]
  · refine Wx_no hq hd ?_ (fun _ => rfl)
    have : xin (iI i) (xan (S.1 a)) = false := by
      cases hx : xin (iI i) (xan (S.1 a)) with
      | false => rfl
      | true => exact absurd ((xin_iff i _).mp hx) h
    simp only [xone, xsl, hat, this, Bool.and_false, xk]
    rfl
theorem w_alen {k a : Nat} (hq : xMc M = cc) (hd : decode cc pc = .ok (.arraylength, 1)) (hp' : pc + 1 = pc') (hk : xak (S.1 a) = some k) (h6 : k = 0) :
    Wx X d M pc L (.ref a :: st) (hp S g) Q = Wx X d M pc' L (.int (iI (xan (S.1 a))) :: st) (hp S g) Q := by
  subst hp'
  subst h6
  refine Wx_step hq hd ?_
  simp only [xone, xln, hp_arr (g := g) hk (by decide) (by decide), xk]
  rfl
theorem w_slen (hq : xMc M = cc) (hd : decode cc pc = .ok (.arraylength, 1)) (hp' : pc + 1 = pc') :
    Wx X d M pc L (.retAddr 0 :: st) w Q = Wx X d M pc' L (.int (iI X.1) :: st) w Q := by
  subst hp'
  refine Wx_step hq hd ?_
  rfl
def xsc (X : xX) (i : Int) : Int := (X.2.1 i.toNat).toInt
theorem w_sld {i : Int} (hq : xMc M = cc) (hd : decode cc pc = .ok (.iaload, 1)) (hp' : pc + 1 = pc') :
    Wx X d M pc L (.int (iI i) :: .retAddr 0 :: st) w Q = ((0 ≤ ti i ∧ ti i < X.1) ∧ Wx X d M pc' L (.int (iI (xsc X (ti i))) :: st) w Q) := by
  subst hp'
  refine w_and (fun h => ?_) (fun h => ?_)
  · refine Wx_step hq hd ?_
    simp only [xone, xsld, (xin_iff i _).mpr h, xk, if_true, Option.map_some, beq_self_eq_true]
    unfold xsc
    rw [iI_of]
    rfl
  · refine Wx_no hq hd ?_ (fun _ => rfl)
    have : xin (iI i) X.1 = false := by
      cases hx : xin (iI i) X.1 with
      | false => rfl
      | true => exact absurd ((xin_iff i _).mp hx) h
    simp only [xone, xsld, this, xk]
    rfl
/-! fields -/
theorem xfk_inv {sh : xSh} {ci k : Nat} (h : xfk sh ci k < 2) : ∃ fs, sh = .inr (ci, fs) ∧ k < fs.length := by
  unfold xfk at h
  split at h
  · next cj fs =>
    split at h
    · next hc =>
      subst hc
      refine ⟨fs, rfl, ?_⟩
      by_cases hk : k < fs.length
      · exact hk
      · rw [List.getElem?_eq_none (by omega)] at h
        exact absurd h (by decide)
    · exact absurd h (by decide)
  · exact absurd h (by decide)
theorem w_getI {k ci j a : Nat} (hq : xMc M = cc) (hd : decode cc pc = .ok (.getfield k, 3)) (hp' : pc + 3 = pc') (hf : xFd (xMo M) k = some (ci, j)) (hk : xfk (S.1 a) ci j = 0) :
    Wx X d M pc L (.ref a :: st) (hp S g) Q = Wx X d M pc' L (.int (iI (g a j)) :: st) (hp S g) Q := by
  subst hp'
  obtain ⟨fs, hs, hlt⟩ := xfk_inv (sh := S.1 a) (ci := ci) (k := j) (by rw [hk]; decide)
  refine Wx_step hq hd ?_
  have hat : xat (hp S g) a = .inr (ci, xfs (g a) 0 fs) := by show xem (S.1 a) (g a) = _; rw [hs]; rfl
  have h0 : fs[j]? = some none := by
    unfold xfk at hk
    rw [hs] at hk
    simp only [if_true] at hk
    split at hk
    · assumption
    · cases hk
    · cases hk
  simp only [xone, xgf, hat, hf, xk, beq_self_eq_true, if_true, xfs_get, h0, Option.map_some, Option.getD_none]
  rw [Int.zero_add]
theorem w_getV {k ci j a : Nat} (hq : xMc M = cc) (hd : decode cc pc = .ok (.getfield k, 3)) (hp' : pc + 3 = pc') (hf : xFd (xMo M) k = some (ci, j)) (hk : xfk (S.1 a) ci j = 1) :
    Wx X d M pc L (.ref a :: st) (hp S g) Q = Wx X d M pc' L (xfv (S.1 a) j :: st) (hp S g) Q := by
  subst hp'
  obtain ⟨fs, hs, hlt⟩ := xfk_inv (sh := S.1 a) (ci := ci) (k := j) (by rw [hk]; decide)
  refine Wx_step hq hd ?_
  have hat : xat (hp S g) a = .inr (ci, xfs (g a) 0 fs) := by show xem (S.1 a) (g a) = _; rw [hs]; rfl
  obtain ⟨v, h0⟩ : ∃ v, fs[j]? = some (some v) := by
    unfold xfk at hk
    rw [hs] at hk
    simp only [if_true] at hk
    split at hk
    · cases hk
    · next v hv => exact ⟨v, hv⟩
    · cases hk
  have h9 : xfv (S.1 a) j = v := by
    rw [hs]
    show (fs.getD j none).getD .null = v
    rw [List.getD_eq_getElem?_getD, h0]
    rfl
  rw [h9]
  simp only [xone, xgf, hat, hf, xk, beq_self_eq_true, if_true, xfs_get, h0, Option.map_some, Option.getD_some]
/-- an integer into a field; T tells which -/
theorem w_put0 {k ci j a : Nat} {x : Int} {ty : FieldType} {fin : Bool} {dc : Nat} {P : Prop} (hq : xMc M = cc) (hd : decode cc pc = .ok (.putfield k, 3)) (hp' : pc + 3 = pc') (hf : xFd (xMo M) k = some (ci, j)) (hz : (xFz.getD ci [])[j]? = some (ty, fin, dc)) (hfin : (!fin || (xMini M && dc == xMo M)) = true) (hk : xfk (S.1 a) ci j = 0)
    (hP : (decide (narrow ty (.int (iI x)) = .int (iI x)) && fits ty (.int (iI x))) = true ↔ P) :
    Wx X d M pc L (.int (iI x) :: .ref a :: st) (hp S g) Q = (P ∧ Wx X d M pc' L st (hp S (gs g a j x)) Q) := by
  subst hp'
  obtain ⟨fs, hs, hlt⟩ := xfk_inv (sh := S.1 a) (ci := ci) (k := j) (by rw [hk]; decide)
  have hat : xat (hp S g) a = .inr (ci, xfs (g a) 0 fs) := by show xem (S.1 a) (g a) = _; rw [hs]; rfl
  have h0 : fs[j]? = some none := by
    unfold xfk at hk
    rw [hs] at hk
    simp only [if_true] at hk
    split at hk
    · assumption
    · cases hk
    · cases hk
  refine w_and (fun h => ?_) (fun h => ?_)
  · refine Wx_step hq hd ?_
    have hh := hP.mpr h
    rw [Bool.and_eq_true] at hh
    simp only [xone, xpf, hat, hf, hz, xk, beq_self_eq_true, Bool.true_and, hh.1, hh.2, xfs_len, hlt, decide_true, hfin, Bool.and_self, if_true, Option.map_some]
    have hr : (fun i => if i = 0 + (j : Int) then x else g a i) = fun i => if i = (j : Int) then x else g a i := by
      funext i; rw [Int.zero_add]
    rw [xfs_set (g a) x fs 0 j h0, hr, ← gs_fun]
    rw [hp_row _ (fun i => if i = (j : Int) then x else g a i) (by rw [hs]; rfl)]
  · refine Wx_no hq hd ?_ (fun _ => rfl)
    have hh : (decide (narrow ty (.int (iI x)) = .int (iI x)) && fits ty (.int (iI x))) = false := by
      cases hx : (decide (narrow ty (.int (iI x)) = .int (iI x)) && fits ty (.int (iI x))) with
      | false => rfl
      | true => exact absurd (hP.mp hx) h
    simp only [xone, xpf, hat, hf, hz, xk, beq_self_eq_true, Bool.true_and, hh, Bool.false_and]
    rfl
theorem w_putI {k ci j a : Nat} {x : Int} {fin : Bool} {dc : Nat} (hq : xMc M = cc) (hd : decode cc pc = .ok (.putfield k, 3)) (hp' : pc + 3 = pc') (hf : xFd (xMo M) k = some (ci, j)) (hz : (xFz.getD ci [])[j]? = some (.int, fin, dc)) (hfin : (!fin || (xMini M && dc == xMo M)) = true) (hk : xfk (S.1 a) ci j = 0) :
    Wx X d M pc L (.int (iI x) :: .ref a :: st) (hp S g) Q = Wx X d M pc' L st (hp S (gs g a j x)) Q := by
  rw [w_put0 hq hd hp' hf hz hfin hk (P := True) (by simp [narrow, fits]), true_and]
theorem iI_bit (x : Int) : (decide (narrow .boolean (.int (iI x)) = .int (iI x)) && fits .boolean (.int (iI x))) = true ↔ (ti x = 0 ∨ ti x = 1) := by
  have h : fits .boolean (.int (iI x)) = true ↔ (ti x = 0 ∨ ti x = 1) := by
    show (iI x == 0 || iI x == 1) = true ↔ _
    rw [Bool.or_eq_true, beq_iff_eq, beq_iff_eq, show (0 : Int32) = iI 0 from rfl, show (1 : Int32) = iI 1 from rfl, iI_eq, iI_eq, ti_eq (z := 0) (by decide) (by decide), ti_eq (z := 1) (by decide) (by decide)]
  rw [Bool.and_eq_true, h]
  constructor
  · exact fun h => h.2
  · intro h1
    refine ⟨?_, h1⟩
    rw [decide_eq_true_eq]
    have : iI x = 0 ∨ iI x = 1 := by
      rcases h1 with h1 | h1
      · exact Or.inl (by rw [show (0 : Int32) = iI 0 from rfl, iI_eq, h1]; rfl)
      · exact Or.inr (by rw [show (1 : Int32) = iI 1 from rfl, iI_eq, h1]; rfl)
    rcases this with h2 | h2 <;> rw [h2] <;> rfl
theorem w_putZ {k ci j a : Nat} {x : Int} {fin : Bool} {dc : Nat} (hq : xMc M = cc) (hd : decode cc pc = .ok (.putfield k, 3)) (hp' : pc + 3 = pc') (hf : xFd (xMo M) k = some (ci, j)) (hz : (xFz.getD ci [])[j]? = some (.boolean, fin, dc)) (hfin : (!fin || (xMini M && dc == xMo M)) = true) (hk : xfk (S.1 a) ci j = 0) :
    Wx X d M pc L (.int (iI x) :: .ref a :: st) (hp S g) Q = ((ti x = 0 ∨ ti x = 1) ∧ Wx X d M pc' L st (hp S (gs g a j x)) Q) :=
  w_put0 hq hd hp' hf hz hfin hk (iI_bit x)
def xS1 (S : xLm) (a : Nat) (sh : xSh) : xLm := (fun k => if k = a then sh else S.1 k, S.2)
theorem hp_shape {a : Nat} (e : xE) (sh : xSh) (he : e = xem sh (g a)) : xpt (hp S g) a e = hp (xS1 S a sh) g := by
  unfold xpt hp xS1
  simp only
  congr 2
  funext k
  by_cases h : k = a
  · subst h; rw [if_pos rfl, if_pos rfl, he]
  · rw [if_neg h, if_neg h]
theorem w_putV {k ci j a b : Nat} {ty : FieldType} {fin : Bool} {dc : Nat} (hq : xMc M = cc) (hd : decode cc pc = .ok (.putfield k, 3)) (hp' : pc + 3 = pc') (hf : xFd (xMo M) k = some (ci, j)) (hz : (xFz.getD ci [])[j]? = some (ty, fin, dc)) (hfin : (!fin || (xMini M && dc == xMo M)) = true) (hty : (decide (narrow ty (.ref 0) = .ref 0) && fits ty (.ref 0)) = true) (hk : xfk (S.1 a) ci j = 1) :
    Wx X d M pc L (.ref b :: .ref a :: st) (hp S g) Q = Wx X d M pc' L st (hp (xS1 S a (xsv' (S.1 a) j (.ref b))) g) Q := by
  subst hp'
  obtain ⟨fs, hs, hlt⟩ := xfk_inv (sh := S.1 a) (ci := ci) (k := j) (by rw [hk]; decide)
  have hat : xat (hp S g) a = .inr (ci, xfs (g a) 0 fs) := by show xem (S.1 a) (g a) = _; rw [hs]; rfl
  have h1 : narrow ty (.ref b) = .ref b := by cases ty <;> rfl
  have h2 : fits ty (.ref b) = true := by
    rw [Bool.and_eq_true] at hty
    cases ty <;> first | rfl | exact absurd hty.2 (by decide)
  refine Wx_step hq hd ?_
  simp only [xone, xpf, hat, hf, hz, xk, beq_self_eq_true, Bool.true_and, h1, h2, decide_true, xfs_len, hlt, hfin, Bool.and_self, if_true, Option.map_some]
  rw [xfs_setV, hp_shape (Sum.inr (ci, xfs (g a) 0 (fs.set j (some (.ref b))))) (.inr (ci, fs.set j (some (.ref b)))) rfl, hs]
  rfl
/-! new cells -/
def xSn (S : xLm) (sh : xSh) (n : Nat) : xLm := (fun k => if k = S.2.1 then sh else S.1 k, S.2.1 + 1, S.2.2.1 + 1, S.2.2.2 + n)
def gz (g : xGm) (h : Nat) (z : Int) : xGm := fun h' => if h' = h then fun _ => z else g h'
theorem hp_al (e : xE) (sh : xSh) (z : Int) (n : Nat) (he : e = xem sh (fun _ => z)) : xal (hp S g) e n = hp (xSn S sh n) (gz g S.2.1 z) := by
  unfold xal hp xSn gz
  simp only
  congr 2
  funext k
  by_cases h : k = S.2.1
  · subst h; rw [if_pos rfl, if_pos rfl, if_pos rfl, he]
  · rw [if_neg h, if_neg h, if_neg h]
def xDs (ci : Nat) : List (Option Value) := (xDf.getD ci []).map (fun v => match v with | .int _ => none | v => some v)
theorem xDs_ok : (List.range 11).all (fun ci => decide (xfs (fun _ => 0) 0 (xDs ci) = xDf.getD ci [])) = true := by decide +kernel
theorem w_new {k ci : Nat} (hq : xMc M = cc) (hd : decode cc pc = .ok (.new k, 3)) (hp' : pc + 3 = pc') (ht : xTh M pc = none) (hn : xNw (xMo M) k = some ci) (hci : ci < 11) :
    Wx X d M pc L st (hp S g) Q = Wx X d M pc' L (.ref S.2.1 :: st) (hp (xSn S (.inr (ci, xDs ci)) (xDf.getD ci []).length) (gz g S.2.1 0)) Q := by
  subst hp'
  refine Wx_step hq hd ?_
  simp only [xone, ht, hn, xk, beq_self_eq_true, if_true, Option.map_some]
  rw [hp_al _ (.inr (ci, xDs ci)) 0 _ (by
    have := of_decide_eq_true (List.all_eq_true.mp xDs_ok ci (List.mem_range.mpr hci))
    show _ = Sum.inr (ci, xfs (fun _ => 0) 0 (xDs ci))
    rw [this])]
  rfl
theorem w_newa {k : Nat} {t : Jvm.ClassFile.ArrayType} {x : Int} (hq : xMc M = cc) (hd : decode cc pc = .ok (.newarray t, 2)) (hp' : pc + 2 = pc') (hk : xkd t = some k) :
    Wx X d M pc L (.int (iI x) :: st) (hp S g) Q = ((0 ≤ ti x ∧ ti x ≤ 20000) ∧ Wx X d M pc' L (.ref S.2.1 :: st) (hp (xSn S (.inl (k, (ti x).toNat)) (ti x).toNat) (gz g S.2.1 0)) Q) := by
  subst hp'
  have h0 : (!(decide (iI x < 0)) && decide ((iI x).toNatClampNeg ≤ 20000)) = true ↔ (0 ≤ ti x ∧ ti x ≤ 20000) := by
    rw [Bool.and_eq_true, Bool.not_eq_true', decide_eq_false_iff_not, decide_eq_true_eq, show (0 : Int32) = iI 0 from rfl, iI_lt, ti_eq (z := 0) (by decide) (by decide)]
    have := iI_clamp x
    constructor
    · rintro ⟨h1, h2⟩; rw [if_neg h1] at this; omega
    · rintro ⟨h1, h2⟩; rw [if_neg (by omega)] at this; omega
  refine w_and (fun h => ?_) (fun h => ?_)
  · refine Wx_step hq hd ?_
    have hn : (iI x).toNatClampNeg = (ti x).toNat := by have := xcl_ti h.1; omega
    simp only [xone, hk, xk, beq_self_eq_true, h0.mpr h, if_true, Option.map_some]
    rw [hn, hp_al _ (.inl (k, (ti x).toNat)) 0 _ (by
      have : k = 0 ∨ k = 1 ∨ k = 2 ∨ k = 3 ∨ k = 4 := by cases t <;> simp [xkd] at hk <;> omega
      rcases this with rfl | rfl | rfl | rfl | rfl <;> rfl)]
    rfl
  · refine Wx_no hq hd ?_ (fun _ => rfl)
    have : (!(decide (iI x < 0)) && decide ((iI x).toNatClampNeg ≤ 20000)) = false := by
      cases hx : (!(decide (iI x < 0)) && decide ((iI x).toNatClampNeg ≤ 20000)) with
      | false => rfl
      | true => exact absurd (h0.mp hx) h
    simp only [xone, hk, xk, beq_self_eq_true, this, if_true]
    rfl
end
