/-! rows of whole that the class needs (written by wip/p53/extract.py) -/
section
variable {X : xX} {S : xLm} {g : xGm} {d m : Nat} {w : xH} {Q : xO → xH → Prop} {P : Pd} {A : Sh} {sn : Option Sh} {H : List Sh}
theorem div_ok {s : Int} {n : Int} (h : 1 ≤ n ∧ n ≤ 200) : FP.ddiv (FP.l2d (lI s)) (FP.i2d (iI n)) &&& 0x7fffffffffffffff ≤ 0x7ff0000000000000 := by
  have hn : ¬ iI n = 0 := fun e => by
    have e2 : ti n = 0 := by unfold ti; rw [e]; rfl
    rw [ti_eq (by omega) (by omega)] at e2
    omega
  have hz : ¬ Jvm.FP.Core.DZero (Jvm.FP.Core.i2d (iI n)) := fun e => Jvm.FP.Core.i2d_ne_zero hn ((Jvm.FP.Core.zero_bits2 _).mp e)
  have h1 := Jvm.FP.Core.ddiv_out (Jvm.FP.Core.l2d_notNaN (lI s)) (Jvm.FP.Core.i2d_fin (iI n)) hz
  have h2 : ¬ Jvm.FP.Core.dIsNaN (Jvm.FP.Core.ddiv (Jvm.FP.Core.l2d (lI s)) (Jvm.FP.Core.i2d (iI n))) = true := by rw [h1]; decide
  rw [Jvm.FP.Core.isNaN_bits] at h2
  rw [UInt64.le_iff_toNat_le, Jvm.FP.Core.mask_toNat]
  have e : (0x7ff0000000000000 : UInt64).toNat = 9218868437227405312 := by decide
  rw [e]
  exact Nat.le_of_not_lt h2
noncomputable def qMea (A : Sh) : UInt64 := if qMny A = 0 then FP.dconst0 else FP.ddiv (FP.l2d (lI (qSum A))) (FP.i2d (iI (qMny A)))
end
