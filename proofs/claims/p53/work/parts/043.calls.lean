/-! the calls, held against the words -/
section
theorem xpl1 : plainFor ⟨"java/lang/Math", "floorDiv", "(JJ)J"⟩ = true := by decide +kernel
theorem xpl2 : plainFor ⟨"java/lang/Math", "min", "(II)I"⟩ = true := by decide +kernel
theorem xpl3 : plainFor ⟨"java/lang/Math", "max", "(II)I"⟩ = true := by decide +kernel
theorem xpl4 : plainFor ⟨"java/lang/Math", "abs", "(J)J"⟩ = true := by decide +kernel
def xplM : List MethodName := [⟨"java/lang/Math", "floorDiv", "(JJ)J"⟩, ⟨"java/lang/Math", "min", "(II)I"⟩, ⟨"java/lang/Math", "max", "(II)I"⟩, ⟨"java/lang/Math", "abs", "(J)J"⟩]
def xck11 (M : Nat) : Bool := decide ((xMn M).cls = xClN (xMo M)) && (plainName (xMn M).cls || decide (xMn M ∈ xplM)) && decide ((xMn M).cls ≠ "java/lang/invoke/MethodHandle" ∧ (xMn M).cls ≠ "java/lang/invoke/VarHandle")
theorem xMt_ok : (List.range 417).all xck11 = true := by decide +kernel
theorem xcw_good (M : Nat) : goodWord (xcw M) = true := by
  unfold xcw; split <;> rfl
theorem xM_ok {M : Nat} (h : M < 417) : xcw M ∈ xG ∧ (xMn M).cls = xClN (xMo M) ∧ plainFor (xMn M) = true ∧ (xMn M).cls ≠ "java/lang/invoke/MethodHandle" ∧ (xMn M).cls ≠ "java/lang/invoke/VarHandle" := by
  have h1 := List.all_eq_true.mp xMt_ok M (List.mem_range.mpr h)
  unfold xck11 at h1
  simp only [Bool.and_eq_true, decide_eq_true_eq, Bool.or_eq_true] at h1
  refine ⟨xG_pos (xPw_13 M h) (xcw_good M), h1.1.1, ?_, h1.2.1, h1.2.2⟩
  rcases h1.1.2 with h2 | h2
  · exact plainFor_of_name h2
  · simp only [xplM, List.mem_cons, List.not_mem_nil, or_false] at h2
    rcases h2 with h2 | h2 | h2 | h2 <;> rw [h2]
    · exact xpl1
    · exact xpl2
    · exact xpl3
    · exact xpl4
/-- all words of a contract are good and among those that every frame knows -/
theorem xws_in {M : Nat} (h : M < 417) (ws : List Cond) (h1 : ∀ w ∈ ws, w ∈ xG) : GoodIn xG (ws ++ xws M) := by
  have hm : ∀ w ∈ ws ++ xws M, w ∈ xG := by
    intro w hw
    rcases List.mem_append.mp hw with hw | hw
    · exact h1 w hw
    · rcases List.mem_cons.mp hw with rfl | hw
      · exact (xM_ok h).1
      · exact hw
  exact goodIn_sub hm (List.all_eq_true.mpr fun w hw => List.all_eq_true.mp xG_good w (hm w hw))
def xpn (y : MethodName) : Option Nat := (parseMethodDescriptor y.desc).map (fun d => d.parameters.length)
/-- the words that a row of a call needs, by kind -/
def xcws (kind : Nat) (own : String) (i : Nat) (C : String) (y : MethodName) : List Cond := match kind with
  | 0 => [.methodLink own i y, .static y, .initialized y.cls]
  | 1 => [.methodLink own i y, .instanceMethod y, .selects C y y, .initialized y.cls]
  | 2 => [.methodLink own i y, .instanceMethod y, .initialized y.cls]
  | 5 => [.methodLink own i y, .sameMethod y.cls y.cls y.name y.desc, .selects C y y, .instanceMethod y, .initialized y.cls, .code y ⟨#[]⟩ 0 none]
  | 6 => [.methodLink own i y, .sameMethod y.cls y.cls y.name y.desc, .superclass own y.cls, .instanceMethod y, .initialized y.cls]
  | 7 => [.methodLink own i ⟨"CalculatedSheet$Rewriting", y.name, y.desc⟩, .sameMethod "CalculatedSheet$Rewriting" "CalculatedSheet$Rewriting" y.name y.desc, .selects C ⟨"CalculatedSheet$Rewriting", y.name, y.desc⟩ y, .instanceMethod y, .initialized y.cls, .declares ⟨"CalculatedSheet$Rewriting", y.name, y.desc⟩]
  | 10 => [.methodLinkNest own i y "CalculatedSheet", .static y, .initialized y.cls]
  | _ => [.methodLinkNest own i y "CalculatedSheet", .instanceMethod y, .initialized y.cls]
/-- what is asked of a row's word at its place: it stands there and is good; but a method's code (5) has its own word, and a word may be one of the moved kinds -/
def xcwk (w : Cond) (p : Nat) : Bool := match w with
  | .code _ _ _ _ => true
  | w => decide (xGat p = some w) && (goodWord w || (xbk w && decide (p < 1000000)))
def xcki (kind : Nat) (M ci : Nat) : Bool := match kind with
  | 0 => ci == 99
  | 1 => decide ((xMn M).cls = xNm ci) && decide (ci < 11)
  | 2 => ci == 98 && decide ((xMn M).name = "<init>") && decide (xMret M = none)
  | 5 => decide (ci < 11)
  | 6 => ci == 98 && decide ((xMn M).name ≠ "<init>") && decide ((xMn M).cls = "java/lang/AbstractStringBuilder")
  | 7 => decide (ci < 11)
  | 10 => ci == 99
  | 12 => ci == 98 && decide ((xMn M).name = "<init>") && decide (xMret M = none)
  | _ => false
def xck12 (r : Nat × Nat × Nat × Nat × List Nat) : Bool := decide (r.2.2.1 < 417) && decide (xpn (xMn r.2.2.1) = some r.2.2.2.1) && xcki r.2.1 r.2.2.1 (r.1 % 100) && (decide (xMh r.2.2.1 = []) || r.2.1 == 0) &&
  decide ((xcws r.2.1 (xClN (r.1 / 100 / 100000)) (r.1 / 100 % 100000) (xNm (r.1 % 100)) (xMn r.2.2.1)).length = r.2.2.2.2.length) && ((xcws r.2.1 (xClN (r.1 / 100 / 100000)) (r.1 / 100 % 100000) (xNm (r.1 % 100)) (xMn r.2.2.1)).zip r.2.2.2.2).all (fun q => xcwk q.1 q.2)
theorem xCt_ok0 : xCt0.all xck12 = true := by decide +kernel
theorem xCt_ok1 : xCt1.all xck12 = true := by decide +kernel
theorem xCt_ok2 : xCt2.all xck12 = true := by decide +kernel
theorem xCt_ok3 : xCt3.all xck12 = true := by decide +kernel
theorem xCt_ok4 : xCt4.all xck12 = true := by decide +kernel
theorem xCt_ok5 : xCt5.all xck12 = true := by decide +kernel
theorem xCt_ok : xCt.all xck12 = true := by
  unfold xCt
  simp only [List.all_append, xCt_ok0, xCt_ok1, xCt_ok2, xCt_ok3, xCt_ok4, xCt_ok5, Bool.and_self]
end
