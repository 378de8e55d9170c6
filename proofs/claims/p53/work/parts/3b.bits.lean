/-! Links: bits counted -/
section
def nB : List Nat → Nat
  | [] => 0
  | b :: t => 256 * nB t + b
theorem and_split {a b p q : Nat} (hp : p < 256) (hq : q < 256) : (256 * a + p) &&& (256 * b + q) = 256 * (a &&& b) + (p &&& q) := by
  apply Nat.eq_of_testBit_eq
  intro j
  have hpq : p &&& q < 2 ^ 8 := Nat.lt_of_le_of_lt Nat.and_le_left hp
  rw [Nat.testBit_and, show (256 : Nat) = 2 ^ 8 from rfl, Nat.testBit_two_pow_mul_add a (show p < 2 ^ 8 from hp), Nat.testBit_two_pow_mul_add b (show q < 2 ^ 8 from hq), Nat.testBit_two_pow_mul_add (a &&& b) hpq, Nat.testBit_and, Nat.testBit_and]
  split <;> rfl
def alB (p : Nat → Prop) : List Nat → Prop
  | [] => True
  | b :: t => p b ∧ alB p t
theorem bym1 : ∀ r : Fin 2, ∀ b : Fin 256, (128 * r.val + b.val / 2) &&& 0x55 = (b.val / 2) &&& 0x55 := by decide +kernel
theorem bym2 : ∀ r : Fin 4, ∀ b : Fin 256, (64 * r.val + b.val / 4) &&& 0x33 = (b.val / 4) &&& 0x33 := by decide +kernel
theorem bys1 : ∀ L, alB (· < 256) L → (nB L / 2) &&& nB (L.map fun _ => 0x55) = nB (L.map fun b => (b / 2) &&& 0x55)
  | [], _ => rfl
  | b :: t, ⟨h, ht⟩ => by
    have ih := bys1 t ht
    simp only [List.map, nB]
    rw [show (256 * nB t + b) / 2 = 256 * (nB t / 2) + (128 * (nB t % 2) + b / 2) by omega, and_split (by omega) (by omega), ih]
    have := bym1 ⟨nB t % 2, by omega⟩ ⟨b, h⟩
    simp only at this
    rw [this]
theorem bys2 : ∀ L, alB (· < 256) L → (nB L / 4) &&& nB (L.map fun _ => 0x33) = nB (L.map fun b => (b / 4) &&& 0x33)
  | [], _ => rfl
  | b :: t, ⟨h, ht⟩ => by
    have ih := bys2 t ht
    simp only [List.map, nB]
    rw [show (256 * nB t + b) / 4 = 256 * (nB t / 4) + (64 * (nB t % 4) + b / 4) by omega, and_split (by omega) (by omega), ih]
    have := bym2 ⟨nB t % 4, by omega⟩ ⟨b, h⟩
    simp only at this
    rw [this]
theorem bys2' : ∀ L, alB (· < 256) L → nB L &&& nB (L.map fun _ => 0x33) = nB (L.map fun b => b &&& 0x33)
  | [], _ => rfl
  | b :: t, ⟨h, ht⟩ => by
    have ih := bys2' t ht
    simp only [List.map, nB]
    rw [and_split h (by omega), ih]
theorem and15 (x : Nat) : x &&& 0x0f = x % 16 := Nat.and_two_pow_sub_one_eq_mod x 4
theorem lo4 : ∀ L, alB (fun b => b % 16 ≤ 4 ∧ b / 16 ≤ 4) L → nB L % 16 ≤ 4
  | [], _ => by decide
  | b :: t, ⟨h, _⟩ => by rw [nB]; omega
theorem bys3 : ∀ L, alB (fun b => b % 16 ≤ 4 ∧ b / 16 ≤ 4) L → (nB L + nB L / 16) &&& nB (L.map fun _ => 0x0f) = nB (L.map fun b => (b + b / 16) % 16)
  | [], _ => rfl
  | b :: t, ⟨h, ht⟩ => by
    have ih := bys3 t ht
    have l4 := lo4 t ht
    simp only [List.map, nB]
    rw [show 256 * nB t + b + (256 * nB t + b) / 16 = 256 * (nB t + nB t / 16) + (16 * (nB t % 16) + (b + b / 16)) by omega, and_split (by omega) (by omega), ih, and15]
    omega
theorem bysub : ∀ (L : List Nat) (f : Nat → Nat), (∀ b, f b ≤ b) → nB L - nB (L.map f) = nB (L.map fun b => b - f b) ∧ nB (L.map f) ≤ nB L
  | [], f, _ => ⟨rfl, Nat.le_refl _⟩
  | b :: t, f, h => by
    obtain ⟨i1, i2⟩ := bysub t f h
    have := h b
    simp only [List.map, nB]
    omega
theorem byadd : ∀ (L : List Nat) (f f' : Nat → Nat), nB (L.map f) + nB (L.map f') = nB (L.map fun b => f b + f' b)
  | [], _, _ => rfl
  | b :: t, f, f' => by
    have := byadd t f f'
    simp only [List.map, nB]
    omega
/-- how many bits -/
def pcn : Nat → Nat → Nat
  | _, 0 => 0
  | u, m + 1 => u % 2 + pcn (u / 2) m
theorem pcn_byte (t b m : Nat) (hb : b < 256) : pcn (256 * t + b) (m + 8) = pcn b 8 + pcn t m := by
  have e : ∀ u m, pcn u (m + 8) = u % 2 + (u / 2 % 2 + (u / 2 / 2 % 2 + (u / 2 / 2 / 2 % 2 + (u / 2 / 2 / 2 / 2 % 2 + (u / 2 / 2 / 2 / 2 / 2 % 2 + (u / 2 / 2 / 2 / 2 / 2 / 2 % 2 + (u / 2 / 2 / 2 / 2 / 2 / 2 / 2 % 2 + pcn (u / 2 / 2 / 2 / 2 / 2 / 2 / 2 / 2) m))))))) := fun _ _ => rfl
  have e8 := e b 0
  rw [e, show (256 * t + b) / 2 / 2 / 2 / 2 / 2 / 2 / 2 / 2 = t by omega]
  rw [show (0 : Nat) + 8 = 8 from rfl] at e8
  rw [e8, show pcn (b / 2 / 2 / 2 / 2 / 2 / 2 / 2 / 2) 0 = 0 from rfl]
  omega
def by1 (b : Nat) : Nat := b - ((b / 2) &&& 0x55)
def by2 (b : Nat) : Nat := (b &&& 0x33) + ((b / 4) &&& 0x33)
set_option maxRecDepth 100000 in
theorem byte1 : ∀ b : Fin 256, (b.val / 2) &&& 0x55 ≤ b.val ∧ by2 (by1 b.val) % 16 ≤ 4 ∧ by2 (by1 b.val) / 16 ≤ 4 ∧ (by2 (by1 b.val) + by2 (by1 b.val) / 16) % 16 = pcn b.val 8 ∧ pcn b.val 8 ≤ 8 := by decide +kernel
theorem k0x55 : nB [0x55, 0x55, 0x55, 0x55, 0x55, 0x55, 0x55, 0x55] = 0x5555555555555555 := by decide +kernel
theorem k0x33 : nB [0x33, 0x33, 0x33, 0x33, 0x33, 0x33, 0x33, 0x33] = 0x3333333333333333 := by decide +kernel
theorem k0x0f : nB [0x0f, 0x0f, 0x0f, 0x0f, 0x0f, 0x0f, 0x0f, 0x0f] = 0x0f0f0f0f0f0f0f0f := by decide +kernel
theorem bitc (b0 b1 b2 b3 b4 b5 b6 b7 : Nat) (h0 : b0 < 256) (h1 : b1 < 256) (h2 : b2 < 256) (h3 : b3 < 256) (h4 : b4 < 256) (h5 : b5 < 256) (h6 : b6 < 256) (h7 : b7 < 256) (u v w z : Nat) (hu : u = nB [b0, b1, b2, b3, b4, b5, b6, b7])
    (hv : v = u - ((u / 2) &&& 0x5555555555555555)) (hw : w = (v &&& 0x3333333333333333) + ((v / 4) &&& 0x3333333333333333)) (hz : z = (w + w / 16) &&& 0x0f0f0f0f0f0f0f0f) :
    z = nB [pcn b0 8, pcn b1 8, pcn b2 8, pcn b3 8, pcn b4 8, pcn b5 8, pcn b6 8, pcn b7 8] ∧ (u / 2) &&& 0x5555555555555555 ≤ u ∧ w + w / 16 < 18446744073709551616 := by
  have A := fun b (h : b < 256) => byte1 ⟨b, h⟩
  simp only at A
  have l8 : ∀ b, by1 b ≤ b := fun b => Nat.sub_le _ _
  have al : alB (· < 256) [b0, b1, b2, b3, b4, b5, b6, b7] := ⟨h0, h1, h2, h3, h4, h5, h6, h7, trivial⟩
  have e1 := bys1 _ al
  rw [show nB (List.map (fun _ => 0x55) [b0, b1, b2, b3, b4, b5, b6, b7]) = 0x5555555555555555 from k0x55, ← hu] at e1
  have hv' : v = nB [by1 b0, by1 b1, by1 b2, by1 b3, by1 b4, by1 b5, by1 b6, by1 b7] ∧ (u / 2) &&& 0x5555555555555555 ≤ u := by
    rw [hv, e1, hu]
    have a0 := (A b0 h0).1
    have a1 := (A b1 h1).1
    have a2 := (A b2 h2).1
    have a3 := (A b3 h3).1
    have a4 := (A b4 h4).1
    have a5 := (A b5 h5).1
    have a6 := (A b6 h6).1
    have a7 := (A b7 h7).1
    simp only [List.map, nB]
    unfold by1
    omega
  have al2 : alB (· < 256) [by1 b0, by1 b1, by1 b2, by1 b3, by1 b4, by1 b5, by1 b6, by1 b7] := by
    have := l8 b0
    have := l8 b1
    have := l8 b2
    have := l8 b3
    have := l8 b4
    have := l8 b5
    have := l8 b6
    have := l8 b7
    refine ⟨?_, ?_, ?_, ?_, ?_, ?_, ?_, ?_, trivial⟩ <;> omega
  have e2 := bys2 _ al2
  have e3 := bys2' _ al2
  rw [show nB (List.map (fun _ => 0x33) [by1 b0, by1 b1, by1 b2, by1 b3, by1 b4, by1 b5, by1 b6, by1 b7]) = 0x3333333333333333 from k0x33, ← hv'.1] at e2 e3
  have hw' : w = nB [by2 (by1 b0), by2 (by1 b1), by2 (by1 b2), by2 (by1 b3), by2 (by1 b4), by2 (by1 b5), by2 (by1 b6), by2 (by1 b7)] := by
    rw [hw, e2, e3, byadd]
    rfl
  have al3 : alB (fun b => b % 16 ≤ 4 ∧ b / 16 ≤ 4) [by2 (by1 b0), by2 (by1 b1), by2 (by1 b2), by2 (by1 b3), by2 (by1 b4), by2 (by1 b5), by2 (by1 b6), by2 (by1 b7)] := by
    refine ⟨?_, ?_, ?_, ?_, ?_, ?_, ?_, ?_, trivial⟩
    · exact ⟨(A b0 h0).2.1, (A b0 h0).2.2.1⟩
    · exact ⟨(A b1 h1).2.1, (A b1 h1).2.2.1⟩
    · exact ⟨(A b2 h2).2.1, (A b2 h2).2.2.1⟩
    · exact ⟨(A b3 h3).2.1, (A b3 h3).2.2.1⟩
    · exact ⟨(A b4 h4).2.1, (A b4 h4).2.2.1⟩
    · exact ⟨(A b5 h5).2.1, (A b5 h5).2.2.1⟩
    · exact ⟨(A b6 h6).2.1, (A b6 h6).2.2.1⟩
    · exact ⟨(A b7 h7).2.1, (A b7 h7).2.2.1⟩
  have e4 := bys3 _ al3
  rw [show nB (List.map (fun _ => 0x0f) [by2 (by1 b0), by2 (by1 b1), by2 (by1 b2), by2 (by1 b3), by2 (by1 b4), by2 (by1 b5), by2 (by1 b6), by2 (by1 b7)]) = 0x0f0f0f0f0f0f0f0f from k0x0f, ← hw', ← hz] at e4
  refine ⟨?_, hv'.2, ?_⟩
  · rw [e4]
    simp only [List.map]
    rw [(A b0 h0).2.2.2.1, (A b1 h1).2.2.2.1, (A b2 h2).2.2.2.1, (A b3 h3).2.2.2.1, (A b4 h4).2.2.2.1, (A b5 h5).2.2.2.1, (A b6 h6).2.2.2.1, (A b7 h7).2.2.2.1]
  · rw [hw']
    obtain ⟨c0, c1, c2, c3, c4, c5, c6, c7, -⟩ := al3
    simp only [nB]
    omega
theorem bitc2 (c0 c1 c2 c3 c4 c5 c6 c7 z a b c : Nat) (h0 : c0 ≤ 8) (h1 : c1 ≤ 8) (h2 : c2 ≤ 8) (h3 : c3 ≤ 8) (h4 : c4 ≤ 8) (h5 : c5 ≤ 8) (h6 : c6 ≤ 8) (h7 : c7 ≤ 8) (hz : z = nB [c0, c1, c2, c3, c4, c5, c6, c7])
    (ha : a = z + z / 256) (hb : b = a + a / 65536) (hc : c = b + b / 4294967296) : c % 128 = c0 + c1 + c2 + c3 + c4 + c5 + c6 + c7 ∧ c < 18446744073709551616 := by
  simp only [nB] at hz
  have e1 : a = nB [c0 + c1, c1 + c2, c2 + c3, c3 + c4, c4 + c5, c5 + c6, c6 + c7, c7] := by
    have : z / 256 = nB [c1, c2, c3, c4, c5, c6, c7] := by simp only [nB]; omega
    rw [ha, this]; simp only [nB]; omega
  have e2 : b = nB [c0 + c1 + c2 + c3, c1 + c2 + c3 + c4, c2 + c3 + c4 + c5, c3 + c4 + c5 + c6, c4 + c5 + c6 + c7, c5 + c6 + c7, c6 + c7, c7] := by
    have : a / 65536 = nB [c2 + c3, c3 + c4, c4 + c5, c5 + c6, c6 + c7, c7] := by rw [e1]; simp only [nB]; omega
    rw [hb, this, e1]; simp only [nB]; omega
  have e3 : b / 4294967296 = nB [c4 + c5 + c6 + c7, c5 + c6 + c7, c6 + c7, c7] := by rw [e2]; simp only [nB]; omega
  have e4 : c = nB [c0 + c1 + c2 + c3 + c4 + c5 + c6 + c7, c1 + c2 + c3 + c4 + c5 + c6 + c7, c2 + c3 + c4 + c5 + c6 + c7, c3 + c4 + c5 + c6 + c7, c4 + c5 + c6 + c7, c5 + c6 + c7, c6 + c7, c7] := by
    rw [hc, e3, e2]; simp only [nB]; omega
  rw [e4]; simp only [nB]
  omega
def un (z : Int) : Nat := (lI z).toBitVec.toNat
theorem un_lan (x y : Int) : un (lan x y) = un x &&& un y := by
  unfold un lan; rw [lI_of, Int64.toBitVec_and, BitVec.toNat_and]
theorem un_lus (x : Int) (n : Nat) (hn : n < 64) : un (lus x n) = un x / 2 ^ n := by
  unfold un lus
  rw [lI_of, UInt64.toBitVec_toInt64, UInt64.toBitVec_shiftRight]
  show ((lI x).toBitVec >>> (((iI (n : Nat)).toInt64.toUInt64 &&& Int64.toUInt64 63).toBitVec % 64).toNat).toNat = _
  rw [num_lsu n hn, BitVec.toNat_ushiftRight, Nat.shiftRight_eq_div_pow]
theorem un_lt (x : Int) : un x < 18446744073709551616 := (lI x).toBitVec.isLt
theorem un_add {x y : Int} (h : un x + un y < 18446744073709551616) : un (x + y) = un x + un y := by
  have : un (x + y) = (un x + un y) % 2 ^ 64 := by
    unfold un; rw [← lI_add, Int64.toBitVec_add, BitVec.toNat_add]
  omega
theorem un_sub {x y : Int} (h : un y ≤ un x) : un (x - y) = un x - un y := by
  have h1 : un (x - y) = (2 ^ 64 - un y + un x) % 2 ^ 64 := by
    unfold un; rw [← lI_sub, Int64.toBitVec_sub, BitVec.toNat_sub]
  have := un_lt x
  omega
theorem xl2i_127 (x : Int) : xand (xl2i x) 127 = ((un x % 128 : Nat) : Int) := by
  unfold xand xl2i un
  rw [iI_of]
  show (((lI x).toInt32 &&& iI 127).toBitVec).toInt = _
  rw [Int32.toBitVec_and, Int64.toBitVec_toInt32, show (iI 127).toBitVec = 127#32 from rfl]
  have h1 : ((lI x).toBitVec.signExtend 32 &&& 127#32).toNat = (lI x).toBitVec.toNat % 128 := by
    rw [BitVec.toNat_and, BitVec.signExtend_eq_setWidth_of_le _ (by decide), BitVec.toNat_setWidth, show BitVec.toNat 127#32 = 2 ^ 7 - 1 from rfl, Nat.and_two_pow_sub_one_eq_mod]
    omega
  rw [BitVec.toInt_eq_toNat_of_lt, h1]
  rw [h1]; omega
theorem pcn_sum : ∀ (m : Nat) (u : Nat) (c : Int) (f : Int → Int), (∀ k : Nat, k < m → f (c + k) = if u.testBit k then 1 else 0) → sumf f c m = pcn u m
  | 0, u, c, f, _ => rfl
  | m + 1, u, c, f, h => by
    have ih := pcn_sum m (u / 2) (c + 1) f (fun k hk => by
      have := h (k + 1) (by omega)
      rw [Nat.testBit_succ] at this
      rw [← this]; congr 1; omega)
    have h0 := h 0 (by omega)
    rw [sumf, ih, pcn]
    have : f c = u % 2 := by
      have e : c + ((0 : Nat) : Int) = c := by omega
      rw [e, Nat.testBit_zero] at h0
      rw [h0]
      by_cases e2 : u % 2 = 1
      · simp [e2]; omega
      · have : u % 2 = 0 := by omega
        simp [this]; omega
    omega
theorem un_bytes (u : Nat) (h : u < 18446744073709551616) : ∃ b0 b1 b2 b3 b4 b5 b6 b7 : Nat, b0 < 256 ∧ b1 < 256 ∧ b2 < 256 ∧ b3 < 256 ∧ b4 < 256 ∧ b5 < 256 ∧ b6 < 256 ∧ b7 < 256 ∧ u = nB [b0, b1, b2, b3, b4, b5, b6, b7] := by
  refine ⟨u % 256, u / 256 % 256, u / 65536 % 256, u / 16777216 % 256, u / 4294967296 % 256, u / 1099511627776 % 256, u / 281474976710656 % 256, u / 72057594037927936, ?_, ?_, ?_, ?_, ?_, ?_, ?_, ?_, ?_⟩ <;> (try simp only [nB]) <;> omega
theorem pcn_64 (b0 b1 b2 b3 b4 b5 b6 b7 : Nat) (h0 : b0 < 256) (h1 : b1 < 256) (h2 : b2 < 256) (h3 : b3 < 256) (h4 : b4 < 256) (h5 : b5 < 256) (h6 : b6 < 256) (h7 : b7 < 256) : pcn (nB [b0, b1, b2, b3, b4, b5, b6, b7]) 64 = pcn b0 8 + pcn b1 8 + pcn b2 8 + pcn b3 8 + pcn b4 8 + pcn b5 8 + pcn b6 8 + pcn b7 8 := by
  simp only [nB]
  rw [show 64 = 56 + 8 from rfl, pcn_byte _ _ 56 h0, show 56 = 48 + 8 from rfl, pcn_byte _ _ 48 h1, show 48 = 40 + 8 from rfl, pcn_byte _ _ 40 h2, show 40 = 32 + 8 from rfl, pcn_byte _ _ 32 h3, show 32 = 24 + 8 from rfl, pcn_byte _ _ 24 h4, show 24 = 16 + 8 from rfl, pcn_byte _ _ 16 h5, show 16 = 8 + 8 from rfl, pcn_byte _ _ 8 h6, pcn_byte _ _ 0 h7, show pcn (256 * 0) 0 = 0 from rfl]
  omega
/-- bits are counted -/
theorem bitc_un (x : Int) {e : Int} (he : e = (let v := x - lan (lus x 1) 6148914691236517205; let w := lan v 3689348814741910323 + lan (lus v 2) 3689348814741910323; let z := lan (w + lus w 4) 1085102592571150095; let a := z + lus z 8; let b := a + lus a 16; b + lus b 32)) : xand (xl2i e) 127 = pcn (un x) 64 := by
  obtain ⟨v, ev⟩ : ∃ v, v = x - lan (lus x 1) 6148914691236517205 := ⟨_, rfl⟩
  obtain ⟨w, ew⟩ : ∃ w, w = lan v 3689348814741910323 + lan (lus v 2) 3689348814741910323 := ⟨_, rfl⟩
  obtain ⟨z, ez⟩ : ∃ z, z = lan (w + lus w 4) 1085102592571150095 := ⟨_, rfl⟩
  obtain ⟨a, ea⟩ : ∃ a, a = z + lus z 8 := ⟨_, rfl⟩
  obtain ⟨b, eb⟩ : ∃ b, b = a + lus a 16 := ⟨_, rfl⟩
  have he : e = b + lus b 32 := by rw [he, eb, ea, ez, ew, ev]
  obtain ⟨b0, b1, b2, b3, b4, b5, b6, b7, h0, h1, h2, h3, h4, h5, h6, h7, hu⟩ := un_bytes (un x) (un_lt x)
  have k1 : un 6148914691236517205 = 0x5555555555555555 := by decide +kernel
  have k2 : un 3689348814741910323 = 0x3333333333333333 := by decide +kernel
  have k3 : un 1085102592571150095 = 0x0f0f0f0f0f0f0f0f := by decide +kernel
  obtain ⟨e1, e2, e3⟩ := bitc b0 b1 b2 b3 b4 b5 b6 b7 h0 h1 h2 h3 h4 h5 h6 h7 (un x) _ _ _ hu rfl rfl rfl
  have s0 : un (lan (lus x 1) 6148914691236517205) = un x / 2 &&& 0x5555555555555555 := by rw [un_lan, k1]; exact congrArg (· &&& _) (un_lus x 1 (by decide))
  have sv : un v = un x - (un x / 2 &&& 0x5555555555555555) := by rw [ev, un_sub (by rw [s0]; exact e2), s0]
  rw [← sv] at e1 e3
  have s3 : un (lan v 3689348814741910323) = un v &&& 0x3333333333333333 := by rw [un_lan, k2]
  have s4 : un (lan (lus v 2) 3689348814741910323) = un v / 4 &&& 0x3333333333333333 := by rw [un_lan, k2]; exact congrArg (· &&& _) (un_lus v 2 (by decide))
  have sw : un w = (un v &&& 0x3333333333333333) + (un v / 4 &&& 0x3333333333333333) := by rw [ew, un_add (by rw [s3, s4]; omega), s3, s4]
  rw [← sw] at e1 e3
  have s5 : un (lus w 4) = un w / 16 := un_lus w 4 (by decide)
  have sz : un z = (un w + un w / 16) &&& 0x0f0f0f0f0f0f0f0f := by rw [ez, un_lan, k3, un_add (by rw [s5]; exact e3), s5]
  rw [← sz] at e1
  have P := fun b (h : b < 256) => (byte1 ⟨b, h⟩).2.2.2.2
  simp only at P
  obtain ⟨f1, f2⟩ := bitc2 _ _ _ _ _ _ _ _ (un z) _ _ _ (P b0 h0) (P b1 h1) (P b2 h2) (P b3 h3) (P b4 h4) (P b5 h5) (P b6 h6) (P b7 h7) e1 rfl rfl rfl
  have s6 : un (lus z 8) = un z / 256 := un_lus z 8 (by decide)
  have sa : un a = un z + un z / 256 := by rw [ea, un_add (by rw [s6]; omega), s6]
  rw [← sa] at f1 f2
  have s7 : un (lus a 16) = un a / 65536 := un_lus a 16 (by decide)
  have sb : un b = un a + un a / 65536 := by rw [eb, un_add (by rw [s7]; omega), s7]
  rw [← sb] at f1 f2
  have s8 : un (lus b 32) = un b / 4294967296 := un_lus b 32 (by decide)
  have se : un e = un b + un b / 4294967296 := by rw [he, un_add (by rw [s8]; exact f2), s8]
  rw [xl2i_127, se, f1, hu, pcn_64 _ _ _ _ _ _ _ _ h0 h1 h2 h3 h4 h5 h6 h7]
variable {X : xX} {d : Nat} {w : xH} {S : xLm} {g : xGm} {Q : xO → xH → Prop}
set_option maxRecDepth 100000 in
theorem q413 : xMc 413 = prog_20_method_50_code := rfl
theorem m413 : xMl 413 = 2 ∧ xMret 413 = (some FieldType.int) ∧ xMh 413 = [] := by decide +kernel
theorem e413 {X : xX} {d : Nat} {w : xH} {Q : xO → xH → Prop} (x0 : Int64) : Cw X d 413 [.long x0] w Q = Wx X d 413 0 [some (.long x0), none] [] w Q := by
  unfold Cw
  rw [m413.1]
  rfl
theorem d413_0 : decode prog_20_method_50_code 0 = .ok (.lload_n 0, 1) := by decide +kernel
theorem d413_1 : decode prog_20_method_50_code 1 = .ok (.lload_n 0, 1) := by decide +kernel
theorem d413_2 : decode prog_20_method_50_code 2 = .ok (.iconst 1, 1) := by decide +kernel
theorem d413_3 : decode prog_20_method_50_code 3 = .ok (.lushr, 1) := by decide +kernel
theorem d413_4 : decode prog_20_method_50_code 4 = .ok (.ldc2_w 314, 3) := by decide +kernel
theorem d413_7 : decode prog_20_method_50_code 7 = .ok (.land, 1) := by decide +kernel
theorem d413_8 : decode prog_20_method_50_code 8 = .ok (.lsub, 1) := by decide +kernel
theorem d413_9 : decode prog_20_method_50_code 9 = .ok (.lstore_n 0, 1) := by decide +kernel
theorem d413_10 : decode prog_20_method_50_code 10 = .ok (.lload_n 0, 1) := by decide +kernel
theorem d413_11 : decode prog_20_method_50_code 11 = .ok (.ldc2_w 316, 3) := by decide +kernel
theorem d413_14 : decode prog_20_method_50_code 14 = .ok (.land, 1) := by decide +kernel
theorem d413_15 : decode prog_20_method_50_code 15 = .ok (.lload_n 0, 1) := by decide +kernel
theorem d413_16 : decode prog_20_method_50_code 16 = .ok (.iconst 2, 1) := by decide +kernel
theorem d413_17 : decode prog_20_method_50_code 17 = .ok (.lushr, 1) := by decide +kernel
theorem d413_18 : decode prog_20_method_50_code 18 = .ok (.ldc2_w 316, 3) := by decide +kernel
theorem d413_21 : decode prog_20_method_50_code 21 = .ok (.land, 1) := by decide +kernel
theorem d413_22 : decode prog_20_method_50_code 22 = .ok (.ladd, 1) := by decide +kernel
theorem d413_23 : decode prog_20_method_50_code 23 = .ok (.lstore_n 0, 1) := by decide +kernel
theorem d413_24 : decode prog_20_method_50_code 24 = .ok (.lload_n 0, 1) := by decide +kernel
theorem d413_25 : decode prog_20_method_50_code 25 = .ok (.lload_n 0, 1) := by decide +kernel
theorem d413_26 : decode prog_20_method_50_code 26 = .ok (.iconst 4, 1) := by decide +kernel
theorem d413_27 : decode prog_20_method_50_code 27 = .ok (.lushr, 1) := by decide +kernel
theorem d413_28 : decode prog_20_method_50_code 28 = .ok (.ladd, 1) := by decide +kernel
theorem d413_29 : decode prog_20_method_50_code 29 = .ok (.ldc2_w 318, 3) := by decide +kernel
theorem d413_32 : decode prog_20_method_50_code 32 = .ok (.land, 1) := by decide +kernel
theorem d413_33 : decode prog_20_method_50_code 33 = .ok (.lstore_n 0, 1) := by decide +kernel
theorem d413_34 : decode prog_20_method_50_code 34 = .ok (.lload_n 0, 1) := by decide +kernel
theorem d413_35 : decode prog_20_method_50_code 35 = .ok (.lload_n 0, 1) := by decide +kernel
theorem d413_36 : decode prog_20_method_50_code 36 = .ok (.bipush 8, 2) := by decide +kernel
theorem d413_38 : decode prog_20_method_50_code 38 = .ok (.lushr, 1) := by decide +kernel
theorem d413_39 : decode prog_20_method_50_code 39 = .ok (.ladd, 1) := by decide +kernel
theorem d413_40 : decode prog_20_method_50_code 40 = .ok (.lstore_n 0, 1) := by decide +kernel
theorem d413_41 : decode prog_20_method_50_code 41 = .ok (.lload_n 0, 1) := by decide +kernel
theorem d413_42 : decode prog_20_method_50_code 42 = .ok (.lload_n 0, 1) := by decide +kernel
theorem d413_43 : decode prog_20_method_50_code 43 = .ok (.bipush 16, 2) := by decide +kernel
theorem d413_45 : decode prog_20_method_50_code 45 = .ok (.lushr, 1) := by decide +kernel
theorem d413_46 : decode prog_20_method_50_code 46 = .ok (.ladd, 1) := by decide +kernel
theorem d413_47 : decode prog_20_method_50_code 47 = .ok (.lstore_n 0, 1) := by decide +kernel
theorem d413_48 : decode prog_20_method_50_code 48 = .ok (.lload_n 0, 1) := by decide +kernel
theorem d413_49 : decode prog_20_method_50_code 49 = .ok (.lload_n 0, 1) := by decide +kernel
theorem d413_50 : decode prog_20_method_50_code 50 = .ok (.bipush 32, 2) := by decide +kernel
theorem d413_52 : decode prog_20_method_50_code 52 = .ok (.lushr, 1) := by decide +kernel
theorem d413_53 : decode prog_20_method_50_code 53 = .ok (.ladd, 1) := by decide +kernel
theorem d413_54 : decode prog_20_method_50_code 54 = .ok (.lstore_n 0, 1) := by decide +kernel
theorem d413_55 : decode prog_20_method_50_code 55 = .ok (.lload_n 0, 1) := by decide +kernel
theorem d413_56 : decode prog_20_method_50_code 56 = .ok (.l2i, 1) := by decide +kernel
theorem d413_57 : decode prog_20_method_50_code 57 = .ok (.bipush 127, 2) := by decide +kernel
theorem d413_59 : decode prog_20_method_50_code 59 = .ok (.iand, 1) := by decide +kernel
theorem d413_60 : decode prog_20_method_50_code 60 = .ok (.ireturn, 1) := by decide +kernel

theorem c_bitCount (x : Int) : Cw X d 413 [.long (lI x)] w Q = Q (.inl (some (.int (iI (pcn (un x) 64))))) w := by
  rw [e413]
  simp (config := { decide := true }) only [w_lload_n0 (pc' := 1) q413 d413_0 rfl, w_lload_n0 (pc' := 2) q413 d413_1 rfl, w_iconst (pc' := 3) q413 d413_2 rfl, w_lushr (pc' := 4) q413 d413_3 rfl, w_ldc2 (z := (6148914691236517205)) (pc' := 7) q413 d413_4 rfl (by decide +kernel), w_land (pc' := 8) q413 d413_7 rfl, w_lsub (pc' := 9) q413 d413_8 rfl, w_lstore_n0 (pc' := 10) q413 d413_9 rfl, w_lload_n0 (pc' := 11) q413 d413_10 rfl, w_ldc2 (z := (3689348814741910323)) (pc' := 14) q413 d413_11 rfl (by decide +kernel), w_land (pc' := 15) q413 d413_14 rfl, w_lload_n0 (pc' := 16) q413 d413_15 rfl, w_iconst (pc' := 17) q413 d413_16 rfl, w_lushr (pc' := 18) q413 d413_17 rfl, w_ldc2 (z := (3689348814741910323)) (pc' := 21) q413 d413_18 rfl (by decide +kernel), w_land (pc' := 22) q413 d413_21 rfl, w_ladd (pc' := 23) q413 d413_22 rfl, w_lstore_n0 (pc' := 24) q413 d413_23 rfl, w_lload_n0 (pc' := 25) q413 d413_24 rfl, w_lload_n0 (pc' := 26) q413 d413_25 rfl, w_iconst (pc' := 27) q413 d413_26 rfl, w_lushr (pc' := 28) q413 d413_27 rfl, w_ladd (pc' := 29) q413 d413_28 rfl, w_ldc2 (z := (1085102592571150095)) (pc' := 32) q413 d413_29 rfl (by decide +kernel), w_land (pc' := 33) q413 d413_32 rfl, w_lstore_n0 (pc' := 34) q413 d413_33 rfl, w_lload_n0 (pc' := 35) q413 d413_34 rfl, w_lload_n0 (pc' := 36) q413 d413_35 rfl, w_bipush (z' := (8)) (pc' := 38) q413 d413_36 rfl (by decide), w_lushr (pc' := 39) q413 d413_38 rfl, w_ladd (pc' := 40) q413 d413_39 rfl, w_lstore_n0 (pc' := 41) q413 d413_40 rfl, w_lload_n0 (pc' := 42) q413 d413_41 rfl, w_lload_n0 (pc' := 43) q413 d413_42 rfl, w_bipush (z' := (16)) (pc' := 45) q413 d413_43 rfl (by decide), w_lushr (pc' := 46) q413 d413_45 rfl, w_ladd (pc' := 47) q413 d413_46 rfl, w_lstore_n0 (pc' := 48) q413 d413_47 rfl, w_lload_n0 (pc' := 49) q413 d413_48 rfl, w_lload_n0 (pc' := 50) q413 d413_49 rfl, w_bipush (z' := (32)) (pc' := 52) q413 d413_50 rfl (by decide), w_lushr (pc' := 53) q413 d413_52 rfl, w_ladd (pc' := 54) q413 d413_53 rfl, w_lstore_n0 (pc' := 55) q413 d413_54 rfl, w_lload_n0 (pc' := 56) q413 d413_55 rfl, w_l2i (pc' := 57) q413 d413_56 rfl, w_bipush (z' := (127)) (pc' := 59) q413 d413_57 rfl (by decide), w_iand (pc' := 60) q413 d413_59 rfl, w_ireturn q413 d413_60 m413.2.1, gs_off, gs_off0, gs_0off, gs_2, xN_0, xN_2, xN_3, xN_6, xN_7, xN_8, xN_9, xN_10, xN_11, xN_12, xN_13, xN_14, xN_15, xN_16, xN_17, xN_18, xN_19, xN_20, xN_21, xN_22, xN_23, xN_24, xN_25, xN_26, xN_27, xN_28, xN_29, xN_30, xN_31, xN_32, xN_33, xN_34, xN_35, xN_36, xN_37, xN_38, xN_39, xN_40, xN_41, xN_42, xN_43, xN_44, xN_45, xN_46, xN_47, xN_48, xN_49, xN_50, xN_51, xN_52, xN_53, xN_54, xN_55, ti_0, ti_1, ti_2, ti_3, ti_4, ti_5, ti_6, ti_7, ti_8, ti_9, ti_10, ti_16, ti_19, ti_20, ti_29, ti_30, ti_31, ti_32, ti_35, ti_36, ti_38, ti_39, ti_40, ti_41, ti_42, ti_43, ti_44, ti_45, ti_46, ti_47, ti_48, ti_49, ti_50, ti_51, ti_52, ti_53, ti_54, ti_55, ti_56, ti_57, ti_58, ti_59, ti_60, ti_61, ti_62, ti_63, ti_64, ti_65, ti_74, ti_77, ti_126, ti_200, ti_201, ti_202, ti_203, ti_204, ti_205, ti_210, ti_255, ti_256, ti_400, ti_512, ti_600, ti_601, ti_602, ti_1000, ti_1023, ti_1024, ti_2000, ti_10000, ti_12602, ti_999999, ti_m999999, ti_m1, ti_2000000, ti_3000000, xN_1, xN_4, xN_5, xN_60, xN_61, xN_64, xN_200, xN_800, xN_12000, xN_12602, eq_self, and_self, and_true, true_and, if_true, if_false, decide_true, Nat.reduceLeDiff, xc2_int, xc2_ref, xc2_ra, xc2_null, xc2_long, xc2_none, xisaT_ref, xisaT_ra, xisaT_null, xc1T_int, xc1T_ref, xc1T_ra, xc1T_null, xsum_nil, xsum_int, xsum_ref, xsum_ra, xsum_long, xsum_double, xsum_null, xfl_nil, xfl_int, xfl_ref, xfl_ra, xfl_null, xfl_long, xfl_double, List.length_cons, List.length_nil, bitc_un x rfl, xfk, xfv, xak, xan, xcls, xsv', List.getElem?_cons_zero, List.getElem?_cons_succ, List.getD_cons_zero, List.getD_cons_succ, Option.getD_some, Option.isSome_some, if_true, if_pos, xcont, Option.toList_none, Option.toList_some, List.nil_append, List.cons_append]
theorem sumf_add (f : Int → Int) : ∀ (m n : Nat) (c : Int), sumf f c (m + n) = sumf f c m + sumf f (c + m) n
  | 0, n, c => by simp [sumf]
  | m + 1, n, c => by
    rw [show m + 1 + n = (m + n) + 1 by omega, sumf, sumf, sumf_add f m n (c + 1), show c + 1 + (m : Int) = c + ((m + 1 : Nat) : Int) by omega]
    omega
theorem bt_long (r : Int → Int) (c p : Int) : (pcn (un (r (c * 4 + p))) 64 : Int) = sumf (ind (bt r c)) (p * 64) 64 := by
  refine (pcn_sum 64 (un (r (c * 4 + p))) (p * 64) (ind (bt r c)) (fun k hk => ?_)).symm
  unfold ind bt tb un
  rw [show (p * 64 + (k : Int)) / 64 = p by omega, show ((p * 64 + (k : Int)) % 64).toNat = k by omega, BitVec.testBit_toNat]
theorem l_countOfReferred {l : Nat} {c : Int} (hS : LkS S l) (hc : 0 ≤ c) (hc2 : c < 200) : ∀ (m : Nat) (p z : Int), p + m = 4 → 0 ≤ p →
    Wx X (d + 1) 114 4 [some (.ref l), some (.int (iI c)), some (.int (iI z)), some (.int (iI p))] [] (hp S g) Q = Q (.inl (some (.int (iI (z + sumf (ind (bt (g (l + 1)) c)) (p * 64) (m * 64)))))) (hp S g) := by
  have hS' := hS
  obtain ⟨h0, h1, h2, h3, h4, h5, h6, h7, h8⟩ := hS'
  intro m
  induction m with
  | zero =>
    intro p z hp0 h
    obtain rfl : p = 4 := by omega
    rw [w_iload_n3 (pc' := 5) q114 d114_4 rfl]
    simp (config := { decide := true }) only [w_iconst (pc' := 6) q114 d114_5 rfl, w_icmp_ge (tg := 31) (pc' := 9) q114 d114_6 (by decide) rfl, w_iload_n2 (pc' := 10) q114 d114_9 rfl, w_aload_n0 (pc' := 11) q114 d114_10 rfl, w_getV (pc' := 14) q114 d114_11 rfl f114_11, w_iload_n1 (pc' := 15) q114 d114_14 rfl, w_iconst (pc' := 16) q114 d114_15 rfl, w_imul (pc' := 17) q114 d114_16 rfl, w_iload_n3 (pc' := 18) q114 d114_17 rfl, w_iadd (pc' := 19) q114 d114_18 rfl, w_laload (pc' := 20) q114 d114_19 rfl, w_invs1 (pc' := 23) q114 d114_20 rfl (by decide +kernel) k114_109_99 m413.1, w_iadd (pc' := 24) q114 d114_23 rfl, w_istore_n2 (pc' := 25) q114 d114_24 rfl, w_iinc3 (z := (1)) (pc' := 28) q114 d114_25 rfl, w_goto (tg := 4) q114 d114_28 (by decide), w_iload_n2 (pc' := 32) q114 d114_31 rfl, w_ireturn q114 d114_32 m114.2.1, gs_off, gs_off0, gs_0off, gs_2, xN_0, xN_2, xN_3, xN_6, xN_7, xN_8, xN_9, xN_10, xN_11, xN_12, xN_13, xN_14, xN_15, xN_16, xN_17, xN_18, xN_19, xN_20, xN_21, xN_22, xN_23, xN_24, xN_25, xN_26, xN_27, xN_28, xN_29, xN_30, xN_31, xN_32, xN_33, xN_34, xN_35, xN_36, xN_37, xN_38, xN_39, xN_40, xN_41, xN_42, xN_43, xN_44, xN_45, xN_46, xN_47, xN_48, xN_49, xN_50, xN_51, xN_52, xN_53, xN_54, xN_55, ti_0, ti_1, ti_2, ti_3, ti_4, ti_5, ti_6, ti_7, ti_8, ti_9, ti_10, ti_16, ti_19, ti_20, ti_29, ti_30, ti_31, ti_32, ti_35, ti_36, ti_38, ti_39, ti_40, ti_41, ti_42, ti_43, ti_44, ti_45, ti_46, ti_47, ti_48, ti_49, ti_50, ti_51, ti_52, ti_53, ti_54, ti_55, ti_56, ti_57, ti_58, ti_59, ti_60, ti_61, ti_62, ti_63, ti_64, ti_65, ti_74, ti_77, ti_126, ti_200, ti_201, ti_202, ti_203, ti_204, ti_205, ti_210, ti_255, ti_256, ti_400, ti_512, ti_600, ti_601, ti_602, ti_1000, ti_1023, ti_1024, ti_2000, ti_10000, ti_12602, ti_999999, ti_m999999, ti_m1, ti_2000000, ti_3000000, xN_1, xN_4, xN_5, xN_60, xN_61, xN_64, xN_200, xN_800, xN_12000, xN_12602, eq_self, and_self, and_true, true_and, if_true, if_false, decide_true, Nat.reduceLeDiff, xc2_int, xc2_ref, xc2_ra, xc2_null, xc2_long, xc2_none, xisaT_ref, xisaT_ra, xisaT_null, xc1T_int, xc1T_ref, xc1T_ra, xc1T_null, xsum_nil, xsum_int, xsum_ref, xsum_ra, xsum_long, xsum_double, xsum_null, xfl_nil, xfl_int, xfl_ref, xfl_ra, xfl_null, xfl_long, xfl_double, List.length_cons, List.length_nil, sumf, Nat.zero_mul, Int.add_zero, xfk, xfv, xak, xan, xcls, xsv', List.getElem?_cons_zero, List.getElem?_cons_succ, List.getD_cons_zero, List.getD_cons_succ, Option.getD_some, Option.isSome_some, if_true, if_pos, xcont, Option.toList_none, Option.toList_some, List.nil_append, List.cons_append]
  | succ m ih =>
    intro p z hp0 h
    have tp : ti p = p := ti_eq (by omega) (by omega)
    have hlt : ¬ 4 ≤ p := by omega
    have t1 : ti (c * 4 + p) = c * 4 + p := ti_eq (by omega) (by omega)
    have b1 : 0 ≤ c * 4 + p := by omega
    have b2 : c * 4 + p < 800 := by omega
    rw [w_iload_n3 (pc' := 5) q114 d114_4 rfl]
    simp (config := { decide := true }) only [w_iconst (pc' := 6) q114 d114_5 rfl, w_icmp_ge (tg := 31) (pc' := 9) q114 d114_6 (by decide) rfl, w_iload_n2 (pc' := 10) q114 d114_9 rfl, w_aload_n0 (pc' := 11) q114 d114_10 rfl, w_getV (pc' := 14) q114 d114_11 rfl f114_11, w_iload_n1 (pc' := 15) q114 d114_14 rfl, w_iconst (pc' := 16) q114 d114_15 rfl, w_imul (pc' := 17) q114 d114_16 rfl, w_iload_n3 (pc' := 18) q114 d114_17 rfl, w_iadd (pc' := 19) q114 d114_18 rfl, w_laload (pc' := 20) q114 d114_19 rfl, w_invs1 (pc' := 23) q114 d114_20 rfl (by decide +kernel) k114_109_99 m413.1, w_iadd (pc' := 24) q114 d114_23 rfl, w_istore_n2 (pc' := 25) q114 d114_24 rfl, w_iinc3 (z := (1)) (pc' := 28) q114 d114_25 rfl, w_goto (tg := 4) q114 d114_28 (by decide), gs_off, gs_off0, gs_0off, gs_2, xN_0, xN_2, xN_3, xN_6, xN_7, xN_8, xN_9, xN_10, xN_11, xN_12, xN_13, xN_14, xN_15, xN_16, xN_17, xN_18, xN_19, xN_20, xN_21, xN_22, xN_23, xN_24, xN_25, xN_26, xN_27, xN_28, xN_29, xN_30, xN_31, xN_32, xN_33, xN_34, xN_35, xN_36, xN_37, xN_38, xN_39, xN_40, xN_41, xN_42, xN_43, xN_44, xN_45, xN_46, xN_47, xN_48, xN_49, xN_50, xN_51, xN_52, xN_53, xN_54, xN_55, ti_0, ti_1, ti_2, ti_3, ti_4, ti_5, ti_6, ti_7, ti_8, ti_9, ti_10, ti_16, ti_19, ti_20, ti_29, ti_30, ti_31, ti_32, ti_35, ti_36, ti_38, ti_39, ti_40, ti_41, ti_42, ti_43, ti_44, ti_45, ti_46, ti_47, ti_48, ti_49, ti_50, ti_51, ti_52, ti_53, ti_54, ti_55, ti_56, ti_57, ti_58, ti_59, ti_60, ti_61, ti_62, ti_63, ti_64, ti_65, ti_74, ti_77, ti_126, ti_200, ti_201, ti_202, ti_203, ti_204, ti_205, ti_210, ti_255, ti_256, ti_400, ti_512, ti_600, ti_601, ti_602, ti_1000, ti_1023, ti_1024, ti_2000, ti_10000, ti_12602, ti_999999, ti_m999999, ti_m1, ti_2000000, ti_3000000, xN_1, xN_4, xN_5, xN_60, xN_61, xN_64, xN_200, xN_800, xN_12000, xN_12602, eq_self, and_self, and_true, true_and, if_true, if_false, decide_true, Nat.reduceLeDiff, xc2_int, xc2_ref, xc2_ra, xc2_null, xc2_long, xc2_none, xisaT_ref, xisaT_ra, xisaT_null, xc1T_int, xc1T_ref, xc1T_ra, xc1T_null, xsum_nil, xsum_int, xsum_ref, xsum_ra, xsum_long, xsum_double, xsum_null, xfl_nil, xfl_int, xfl_ref, xfl_ra, xfl_null, xfl_long, xfl_double, List.length_cons, List.length_nil, h0, h1, tp, hlt, t1, b1, b2, c_bitCount, xfk, xfv, xak, xan, xcls, xsv', List.getElem?_cons_zero, List.getElem?_cons_succ, List.getD_cons_zero, List.getD_cons_succ, Option.getD_some, Option.isSome_some, if_true, if_pos, xcont, Option.toList_none, Option.toList_some, List.nil_append, List.cons_append]
    rw [ih (p + 1) _ (by omega) (by omega), show (m + 1) * 64 = 64 + m * 64 by omega, sumf_add, bt_long, Int.add_assoc, show (p + 1) * 64 = p * 64 + ((64 : Nat) : Int) by omega]
theorem c_countOfReferred {l : Nat} {c : Int} (hS : LkS S l) (hc : 0 ≤ c) (hc2 : c < 200) :
    Cw X (d + 1) 114 [.ref l, .int (iI c)] (hp S g) Q = Q (.inl (some (.int (iI (sumf (ind (bt (g (l + 1)) c)) 0 256))))) (hp S g) := by
  rw [e114]
  simp (config := { decide := true }) only [w_iconst (pc' := 1) q114 d114_0 rfl, w_istore_n2 (pc' := 2) q114 d114_1 rfl, w_iconst (pc' := 3) q114 d114_2 rfl, w_istore_n3 (pc' := 4) q114 d114_3 rfl, gs_off, gs_off0, gs_0off, gs_2, xN_0, xN_2, xN_3, xN_6, xN_7, xN_8, xN_9, xN_10, xN_11, xN_12, xN_13, xN_14, xN_15, xN_16, xN_17, xN_18, xN_19, xN_20, xN_21, xN_22, xN_23, xN_24, xN_25, xN_26, xN_27, xN_28, xN_29, xN_30, xN_31, xN_32, xN_33, xN_34, xN_35, xN_36, xN_37, xN_38, xN_39, xN_40, xN_41, xN_42, xN_43, xN_44, xN_45, xN_46, xN_47, xN_48, xN_49, xN_50, xN_51, xN_52, xN_53, xN_54, xN_55, ti_0, ti_1, ti_2, ti_3, ti_4, ti_5, ti_6, ti_7, ti_8, ti_9, ti_10, ti_16, ti_19, ti_20, ti_29, ti_30, ti_31, ti_32, ti_35, ti_36, ti_38, ti_39, ti_40, ti_41, ti_42, ti_43, ti_44, ti_45, ti_46, ti_47, ti_48, ti_49, ti_50, ti_51, ti_52, ti_53, ti_54, ti_55, ti_56, ti_57, ti_58, ti_59, ti_60, ti_61, ti_62, ti_63, ti_64, ti_65, ti_74, ti_77, ti_126, ti_200, ti_201, ti_202, ti_203, ti_204, ti_205, ti_210, ti_255, ti_256, ti_400, ti_512, ti_600, ti_601, ti_602, ti_1000, ti_1023, ti_1024, ti_2000, ti_10000, ti_12602, ti_999999, ti_m999999, ti_m1, ti_2000000, ti_3000000, xN_1, xN_4, xN_5, xN_60, xN_61, xN_64, xN_200, xN_800, xN_12000, xN_12602, eq_self, and_self, and_true, true_and, if_true, if_false, decide_true, Nat.reduceLeDiff, xc2_int, xc2_ref, xc2_ra, xc2_null, xc2_long, xc2_none, xisaT_ref, xisaT_ra, xisaT_null, xc1T_int, xc1T_ref, xc1T_ra, xc1T_null, xsum_nil, xsum_int, xsum_ref, xsum_ra, xsum_long, xsum_double, xsum_null, xfl_nil, xfl_int, xfl_ref, xfl_ra, xfl_null, xfl_long, xfl_double, List.length_cons, List.length_nil, xfk, xfv, xak, xan, xcls, xsv', List.getElem?_cons_zero, List.getElem?_cons_succ, List.getD_cons_zero, List.getD_cons_succ, Option.getD_some, Option.isSome_some, if_true, if_pos, xcont, Option.toList_none, Option.toList_some, List.nil_append, List.cons_append]
  rw [l_countOfReferred hS hc hc2 4 0 0 (by omega) (by omega), Int.zero_add]
  rfl
end
