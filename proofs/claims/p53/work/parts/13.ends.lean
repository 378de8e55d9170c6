/-! where frames end: returns, throws -/
section
def xNames : List String := ["java/lang/RuntimeException", "java/lang/Exception"]
def xck13 (w : Cond) : Bool := decide (w ∈ lw_tbl) && (goodWord w || xbk w) && vx_ot w
theorem xat_ok : ((vx_atS "CalculatedSheet" 51 (xEn 0) xNames) ++ (vx_atS "CalculatedSheet" 62 (xEn 1) xNames)).all xck13 = true := by decide +kernel
/-- a throw's row -/
def xck14 (r : Nat × Nat × Nat × Nat × Nat × Nat × String × Nat × Nat) : Bool :=
  decide (xMh (r.1 / 100000) = []) && decide (xMo (r.1 / 100000) = 0) && decide (r.1 / 100000 < 417) && decide (r.2.1 < 2) && decide (r.2.2.2.2.1 = if r.2.1 = 0 then 51 else 62) && decide (lw_tbl[r.2.2.2.2.2.2.2.1]? = some (.classLink "CalculatedSheet" r.2.2.1 (xEn r.2.1))) && decide (lw_tbl[r.2.2.2.2.2.2.2.2]? = some (.initialized (xEn r.2.1))) &&
  decide (decode (xMc (r.1 / 100000)) (r.1 % 100000) = .ok (.new r.2.2.1, 3)) && decide (decode (xMc (r.1 / 100000)) (r.1 % 100000 + 3) = .ok (.dup, 1)) &&
  (if r.2.2.2.2.2.1 = 0 then decide (decode (xMc (r.1 / 100000)) (r.1 % 100000 + 4) = .ok (.ldc r.2.2.2.1, 2)) && decide (decode (xMc (r.1 / 100000)) (r.1 % 100000 + 6) = .ok (.invokespecial r.2.2.2.2.1, 3)) && decide (decode (xMc (r.1 / 100000)) (r.1 % 100000 + 9) = .ok (.athrow, 1))
   else decide (decode (xMc (r.1 / 100000)) (r.1 % 100000 + 4) = .ok (.ldc_w r.2.2.2.1, 3)) && decide (decode (xMc (r.1 / 100000)) (r.1 % 100000 + 7) = .ok (.invokespecial r.2.2.2.2.1, 3)) && decide (decode (xMc (r.1 / 100000)) (r.1 % 100000 + 10) = .ok (.athrow, 1)))
theorem xTt_ok : xTt.all xck14 = true := by decide +kernel
theorem xMl_ok : (List.range 417).all (fun M => decide (xMl M ≤ 45)) = true := by decide +kernel
theorem xEn_fit : ∀ ee, ee < 2 → Bundle.fit (xEn ee) = true := by decide +kernel
theorem xNames_fit : ∀ nm ∈ xNames, Bundle.fit nm = true := by decide +kernel
end
