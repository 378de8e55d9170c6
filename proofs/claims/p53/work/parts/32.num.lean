/-! numbers: masks and shifts over memory's integers (three rows began as the kit's pasteable ones) -/
section
theorem iI_nat (n : Nat) : iI (n : Int) = nI n := Int32.ofInt_eq_ofNat
theorem num_and (a b : Nat) : nI a &&& nI b = nI (a &&& b) := by
  apply Int32.toBitVec_inj.1
  show BitVec.ofNat 32 a &&& BitVec.ofNat 32 b = BitVec.ofNat 32 (a &&& b)
  apply BitVec.eq_of_getLsbD_eq
  intro i hi
  simp [hi]
theorem num_mask (n k : Nat) : nI n &&& nI (2 ^ k - 1) = nI (n % 2 ^ k) := by rw [num_and, Nat.and_two_pow_sub_one_eq_mod]
theorem num_sl : ∀ n, n < 32 → ((nI n &&& 31).toBitVec.smod 32).toNat = n := by decide +kernel
theorem xand_mask {x : Int} (k : Nat) (hk : k ≤ 31) (h : 0 ≤ x) (h2 : x < 2147483648) : xand x ((2 ^ k - 1 : Nat) : Int) = x % ((2 ^ k : Nat) : Int) := by
  obtain ⟨n, rfl⟩ : ∃ n : Nat, x = n := ⟨x.toNat, by omega⟩
  unfold xand
  rw [iI_nat, iI_nat, num_mask]
  have h3 : n % 2 ^ k ≤ n := Nat.mod_le _ _
  have h4 := nI_toInt (n := n % 2 ^ k) (by omega)
  rw [h4]
  rfl
theorem xshr_eq (x : Int) (n : Nat) (hn : n < 32) : xshr x (n : Int) = ti x / ((2 ^ n : Nat) : Int) := by
  unfold xshr
  rw [iI_nat]
  show ((iI x >>> (nI n &&& 31)).toBitVec).toInt = _
  rw [Int32.toBitVec_shiftRight]
  show (BitVec.sshiftRight (iI x).toBitVec ((nI n &&& 31).toBitVec.smod 32).toNat).toInt = _
  rw [num_sl n hn, BitVec.toInt_sshiftRight, Int.shiftRight_eq_div_pow]
  rfl
theorem xand_7 {x : Int} (h : 0 ≤ x) (h2 : x < 2147483648) : xand x 7 = x % 8 := xand_mask 3 (by decide) h h2
theorem xand_63 {x : Int} (h : 0 ≤ x) (h2 : x < 2147483648) : xand x 63 = x % 64 := xand_mask 6 (by decide) h h2
theorem xand_255 {x : Int} (h : 0 ≤ x) (h2 : x < 2147483648) : xand x 255 = x % 256 := xand_mask 8 (by decide) h h2
theorem xand_1023 {x : Int} (h : 0 ≤ x) (h2 : x < 2147483648) : xand x 1023 = x % 1024 := xand_mask 10 (by decide) h h2
theorem xshr_3 (x : Int) : xshr x 3 = ti x / 8 := xshr_eq x 3 (by decide)
theorem xshr_6 (x : Int) : xshr x 6 = ti x / 64 := xshr_eq x 6 (by decide)
theorem xshr_10 (x : Int) : xshr x 10 = ti x / 1024 := xshr_eq x 10 (by decide)
/-- a division of what is not negative -/
theorem xdiv_eq {x y : Int} (h : 0 ≤ x) (h2 : x < 2147483648) (hy : 0 < y) (hy2 : y < 2147483648) : xdiv x y = x / y := by
  unfold xdiv
  rw [Int32.toInt_div, show (iI x).toInt = ti x from rfl, show (iI y).toInt = ti y from rfl, ti_eq (by omega) h2, ti_eq (by omega) hy2, Int.tdiv_eq_ediv_of_nonneg h]
  have h1 : 0 ≤ x / y := Int.ediv_nonneg h (by omega)
  have h3 : x / y ≤ x := Int.ediv_le_self _ h
  rw [Int.bmod_eq_of_le (by omega) (by omega)]
theorem xrem_eq {x y : Int} (h : 0 ≤ x) (h2 : x < 2147483648) (hy : 0 < y) (hy2 : y < 2147483648) : xrem x y = x % y := by
  unfold xrem
  rw [xdiv_eq h h2 hy hy2]
  have := Int.emod_add_mul_ediv x y
  rw [Int.mul_comm]
  omega
end
