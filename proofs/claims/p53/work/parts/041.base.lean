/-! the words that every contract has -/
section
def xU : List Cond := xSelU.map (fun y => Cond.selects "java/lang/StringBuilder" y y)
/-- the words that every contract has -/
def xG : List Cond := xU ++ lw_tbl.filter goodWord
theorem xG_pos {w : Cond} {p : Nat} (h : lw_tbl[p]? = some w) (hg : goodWord w = true) : w ∈ xG :=
  List.mem_append_right _ (List.mem_filter.mpr ⟨List.mem_of_getElem? h, hg⟩)
def xbk (w : Cond) : Bool := match w with | .methodLinkNest _ _ _ _ => true | .declares _ => true | .castable _ _ => true | _ => false
def xNm (ci : Nat) : String := ((vwCl[ci]?).map (fun q => q.1)).getD ""
end
