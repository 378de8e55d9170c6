/-! rows of whole that the class needs (written by wip/p53/extract.py) -/
section
variable {X : xX} {S : xLm} {g : xGm} {d m : Nat} {w : xH} {Q : xO → xH → Prop} {P : Pd} {A : Sh} {sn : Option Sh} {H : List Sh}
theorem nth_congr {p q : Int → Bool} {k : Int} : ∀ (n : Nat) (a c : Int), (∀ j, c ≤ j → j < c + n → p j = q j) → nth p k a c n = nth q k a c n
  | 0, _, _, _ => rfl
  | n + 1, a, c, h => by
    rw [nth, nth, h c (by omega) (by omega), nth_congr n (a + 1) (c + 1) (fun j j1 j2 => h j (by omega) (by omega)), nth_congr n a (c + 1) (fun j j1 j2 => h j (by omega) (by omega))]
noncomputable def rcA (A : Sh) (c : Int) : Int := sumf (ind (rfQ A c)) 0 200
noncomputable def dpA (A : Sh) (c : Int) : Int := sumf (ind (fun o => rfQ A o c)) 0 200
/-- what depends on a cell -/
noncomputable def reA (A : Sh) (f c : Int) : Bool := cb (Rc (UsE (FmA A.1) (RfA A.1 A.2.2.1)) f c)
end
