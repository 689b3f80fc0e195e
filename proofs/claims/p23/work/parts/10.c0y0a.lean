/-- how many of the first n bits are set -/
def CB (x : Nat) : Nat → Nat
  | 0 => 0
  | n + 1 => CB x n + x / 2 ^ n % 2
theorem cb_split (x m : Nat) : ∀ n, CB x (m + n) = CB x m + CB (x / 2 ^ m) n
  | 0 => rfl
  | n + 1 => by
    have e : CB x (m + (n + 1)) = CB x (m + n) + x / 2 ^ (m + n) % 2 := rfl
    rw [e, cb_split x m n, CB, Nat.pow_add, ← Nat.div_div_eq_div_mul]; omega
theorem cb_8 (x : Nat) : CB x 8 = CB (x % 256) 8 := by
  simp only [CB, Nat.reducePow]; omega
def SW1 (m n : Nat) : Nat := n - ((n / 2) &&& m)
def SW2 (m n : Nat) : Nat := (n &&& m) + ((n / 4) &&& m)
def SW3 (m n : Nat) : Nat := (n + n / 16) &&& m
theorem and_by {a b c d : Nat} (ha : a < 256) (hc : c < 256) : (a + 256 * b) &&& (c + 256 * d) = (a &&& c) + 256 * (b &&& d) := by
  have h1 : a + 256 * b = 2 ^ 8 * b + a := by omega
  have h2 : c + 256 * d = 2 ^ 8 * d + c := by omega
  have h3 : (a &&& c) + 256 * (b &&& d) = 2 ^ 8 * (b &&& d) + (a &&& c) := by omega
  have h4 : a &&& c < 2 ^ 8 := Nat.lt_of_le_of_lt Nat.and_le_left ha
  rw [h1, h2, h3]
  apply Nat.eq_of_testBit_eq
  intro i
  rw [Nat.testBit_and, Nat.testBit_two_pow_mul_add _ ha, Nat.testBit_two_pow_mul_add _ hc, Nat.testBit_two_pow_mul_add _ h4]
  by_cases q : i < 8
  · rw [if_pos q, if_pos q, if_pos q, Nat.testBit_and]
  · rw [if_neg q, if_neg q, if_neg q, Nat.testBit_and]
theorem sw_d1 : ∀ a, a < 256 → ∀ e, e < 2 → (a / 2 + 128 * e) &&& 85 = (a / 2) &&& 85 := by decide +kernel
theorem sw_d2 : ∀ a, a < 256 → ∀ e, e < 4 → (a / 4 + 64 * e) &&& 51 = (a / 4) &&& 51 := by decide +kernel
theorem sw_d3 : ∀ a, a < 256 → SW1 85 a < 256 ∧ SW2 51 (SW1 85 a) ≤ 68 ∧ SW3 15 (SW2 51 (SW1 85 a)) = CB a 8 ∧ CB a 8 ≤ 8 := by decide +kernel
theorem sw1_b {a b m : Nat} (ha : a < 256) : SW1 (85 + 256 * m) (a + 256 * b) = SW1 85 a + 256 * SW1 m b := by
  have e : (a + 256 * b) / 2 = (a / 2 + 128 * (b % 2)) + 256 * (b / 2) := by omega
  have h1 : (a / 2) &&& 85 ≤ a / 2 := Nat.and_le_left
  have h2 : (b / 2) &&& m ≤ b / 2 := Nat.and_le_left
  unfold SW1
  rw [e, and_by (by omega) (by omega), sw_d1 a ha _ (by omega)]; omega
theorem sw2_b {a b m : Nat} (ha : a < 256) : SW2 (51 + 256 * m) (a + 256 * b) = SW2 51 a + 256 * SW2 m b := by
  have e : (a + 256 * b) / 4 = (a / 4 + 64 * (b % 4)) + 256 * (b / 4) := by omega
  unfold SW2
  rw [e, and_by ha (by omega), and_by (by omega) (by omega), sw_d2 a ha _ (by omega)]; omega
theorem sw2_lo {m n : Nat} (hm : m % 16 = 3) : SW2 m n % 16 ≤ 6 := by
  have h (x : Nat) : (x &&& m) % 16 ≤ 3 := by
    have e : (x &&& m) % 2 ^ 4 = (x % 2 ^ 4) &&& (m % 2 ^ 4) := Nat.and_mod_two_pow
    have e2 : (x &&& m) % 16 = (x % 16) &&& 3 := by rw [← hm]; exact e
    rw [e2]; exact Nat.and_le_right
  have h1 := h n
  have h2 := h (n / 4)
  unfold SW2; omega
theorem sw3_b {a b m : Nat} (ha : a ≤ 68) (hb : b % 16 ≤ 6) : SW3 (15 + 256 * m) (a + 256 * b) = SW3 15 a + 256 * SW3 m b := by
  have e : (a + 256 * b) + (a + 256 * b) / 16 = (a + a / 16 + 16 * (b % 16)) + 256 * (b + b / 16) := by omega
  have f (x : Nat) : x &&& 15 = x % 16 := Nat.and_two_pow_sub_one_eq_mod x 4
  unfold SW3
  rw [e, and_by (by omega) (by omega), f, f]; omega
def SWA (m1 m2 m3 n : Nat) : Nat := SW3 m3 (SW2 m2 (SW1 m1 n))
theorem swa_b {a b m1 m2 m3 : Nat} (ha : a < 256) (h2 : m2 % 16 = 3) : SWA (85 + 256 * m1) (51 + 256 * m2) (15 + 256 * m3) (a + 256 * b) = CB a 8 + 256 * SWA m1 m2 m3 b := by
  obtain ⟨d1, d2, d3, -⟩ := sw_d3 a ha
  unfold SWA
  rw [sw1_b ha, sw2_b d1, sw3_b d2 (sw2_lo h2), d3]
theorem swa_8 {a : Nat} (ha : a < 256) : SWA 85 51 15 a = CB a 8 := (sw_d3 a ha).2.2.1
/-- the bytes' counts, one byte each -/
def BYS (n : Nat) : Nat → Nat
  | 0 => 0
  | k + 1 => CB (n % 256) 8 + 256 * BYS (n / 256) k
theorem swa_32 {n : Nat} (h : n < 2 ^ 32) : SWA 1431655765 858993459 252645135 n = BYS n 4 := by
  have e : n = n % 256 + 256 * (n / 256 % 256 + 256 * (n / 256 / 256 % 256 + 256 * (n / 256 / 256 / 256))) := by omega
  have m1 : (1431655765 : Nat) = 85 + 256 * (85 + 256 * (85 + 256 * 85)) := by decide
  have m2 : (858993459 : Nat) = 51 + 256 * (51 + 256 * (51 + 256 * 51)) := by decide
  have m3 : (252645135 : Nat) = 15 + 256 * (15 + 256 * (15 + 256 * 15)) := by decide
  rw [m1, m2, m3, BYS, BYS, BYS, BYS, BYS]
  conv => lhs; rw [e]
  rw [swa_b (by omega) (by decide), swa_b (by omega) (by decide), swa_b (by omega) (by decide), swa_8 (by omega), Nat.mod_eq_of_lt (show n / 256 / 256 / 256 < 256 by omega), Nat.mul_zero, Nat.add_zero]
theorem swa_64 {n : Nat} (h : n < 2 ^ 64) : SWA 6148914691236517205 3689348814741910323 1085102592571150095 n = BYS n 8 := by
  have e : n = n % 256 + 256 * (n / 256 % 256 + 256 * (n / 256 / 256 % 256 + 256 * (n / 256 / 256 / 256 % 256 + 256 * (n / 256 / 256 / 256 / 256 % 256 + 256 * (n / 256 / 256 / 256 / 256 / 256 % 256 + 256 * (n / 256 / 256 / 256 / 256 / 256 / 256 % 256 + 256 * (n / 256 / 256 / 256 / 256 / 256 / 256 / 256))))))) := by omega
  have m1 : (6148914691236517205 : Nat) = 85 + 256 * (85 + 256 * (85 + 256 * (85 + 256 * (85 + 256 * (85 + 256 * (85 + 256 * 85)))))) := by decide
  have m2 : (3689348814741910323 : Nat) = 51 + 256 * (51 + 256 * (51 + 256 * (51 + 256 * (51 + 256 * (51 + 256 * (51 + 256 * 51)))))) := by decide
  have m3 : (1085102592571150095 : Nat) = 15 + 256 * (15 + 256 * (15 + 256 * (15 + 256 * (15 + 256 * (15 + 256 * (15 + 256 * 15)))))) := by decide
  rw [m1, m2, m3, BYS, BYS, BYS, BYS, BYS, BYS, BYS, BYS, BYS]
  conv => lhs; rw [e]
  rw [swa_b (by omega) (by decide), swa_b (by omega) (by decide), swa_b (by omega) (by decide), swa_b (by omega) (by decide), swa_b (by omega) (by decide), swa_b (by omega) (by decide), swa_b (by omega) (by decide), swa_8 (by omega), Nat.mod_eq_of_lt (show n / 256 / 256 / 256 / 256 / 256 / 256 / 256 < 256 by omega), Nat.mul_zero, Nat.add_zero]
theorem cb8_le (x : Nat) : CB (x % 256) 8 ≤ 8 := (sw_d3 _ (Nat.mod_lt _ (by decide))).2.2.2
theorem cb_32 (n : Nat) : CB n 32 = CB (n % 256) 8 + CB (n / 256 % 256) 8 + CB (n / 256 / 256 % 256) 8 + CB (n / 256 / 256 / 256 % 256) 8 := by
  have e (x k : Nat) : CB x (8 + k) = CB (x % 256) 8 + CB (x / 256) k := by rw [cb_split, ← cb_8]
  rw [show (32 : Nat) = 8 + (8 + (8 + 8)) from rfl, e, e, e, cb_8 (n / 256 / 256 / 256)]; omega
theorem cb_64 (n : Nat) : CB n 64 = CB n 32 + CB (n / 256 / 256 / 256 / 256) 32 := by
  have e : n / 256 / 256 / 256 / 256 = n / 2 ^ 32 := by omega
  rw [show (64 : Nat) = 32 + 32 from rfl, cb_split, e]
theorem dv1 {z a q : Nat} (ha : a < 256) (hz : z = a + 256 * q) : z / 256 = q := by omega
theorem dv2 {z a b q : Nat} (ha : a < 256) (hb : b < 256) (hz : z = a + 256 * (b + 256 * q)) : z / 65536 = q := by omega
theorem dv4 {z a b c d q : Nat} (ha : a < 256) (hb : b < 256) (hc : c < 256) (hd : d < 256) (hz : z = a + 256 * (b + 256 * (c + 256 * (d + 256 * q)))) : z / 4294967296 = q := by
  have h1 : z / 65536 = c + 256 * (d + 256 * q) := dv2 ha hb hz
  have h2 : z / 65536 / 65536 = q := dv2 hc hd h1
  have h3 : z / 65536 / 65536 = z / 4294967296 := by rw [Nat.div_div_eq_div_mul]
  rw [← h3, h2]
theorem sum_4 {z a b c d : Nat} (ha : a ≤ 8) (hb : b ≤ 8) (hc : c ≤ 8) (hd : d ≤ 8) (hz : z = a + 256 * (b + 256 * (c + 256 * d))) : ((z + z / 256) + (z + z / 256) / 65536) % 64 = a + b + c + d := by
  have e1 := dv1 (by omega) hz
  have hw : z + z / 256 = (a + b) + 256 * ((b + c) + 256 * ((c + d) + 256 * d)) := by rw [e1, hz]; omega
  have e2 := dv2 (by omega) (by omega) hw
  have h3 : (z + z / 256) + (z + z / 256) / 65536 = (a + b + c + d) + 64 * (4 * ((b + c + d) + 256 * ((c + d) + 256 * d))) := by rw [e2, hw]; omega
  rw [h3, Nat.add_mul_mod_self_left, Nat.mod_eq_of_lt (by omega)]
theorem pr_ (a b x y : Nat) : (a + 256 * x) + (b + 256 * y) = (a + b) + 256 * (x + y) := by omega
theorem pe_ (x y z : Nat) : (x + 256 * y) + z = (x + z) + 256 * y := by omega
theorem md_ {p q : Nat} (h : p < 128) : (p + 256 * q) % 128 = p := by omega
theorem le8 {a : Nat} (h : a ≤ 8) : a < 256 := by omega
theorem le82 {a b : Nat} (h : a ≤ 8) (h2 : b ≤ 8) : a + b < 256 := by omega
theorem le84 {a b c d : Nat} (h : a ≤ 8) (h2 : b ≤ 8) (h3 : c ≤ 8) (h4 : d ≤ 8) : a + b + (c + d) < 256 := by omega
theorem le88 {a b c d e f g h : Nat} (ha : a ≤ 8) (hb : b ≤ 8) (hc : c ≤ 8) (hd : d ≤ 8) (he : e ≤ 8) (hf : f ≤ 8) (hg : g ≤ 8) (hh : h ≤ 8) : a + b + (c + d) + (e + f + (g + h)) < 128 := by omega
theorem sum_8 {z a b c d e f g h : Nat} (ha : a ≤ 8) (hb : b ≤ 8) (hc : c ≤ 8) (hd : d ≤ 8) (he : e ≤ 8) (hf : f ≤ 8) (hg : g ≤ 8) (hh : h ≤ 8) (hz : z = a + 256 * (b + 256 * (c + 256 * (d + 256 * (e + 256 * (f + 256 * (g + 256 * h))))))) : (((z + z / 256) + (z + z / 256) / 65536) + ((z + z / 256) + (z + z / 256) / 65536) / 4294967296) % 128 = a + b + c + d + e + f + g + h := by
  have e1 := dv1 (le8 ha) hz
  obtain ⟨w, hw0⟩ : ∃ w, w = z + z / 256 := ⟨_, rfl⟩
  have hw : w = (a + b) + 256 * ((b + c) + 256 * ((c + d) + 256 * ((d + e) + 256 * ((e + f) + 256 * ((f + g) + 256 * ((g + h) + 256 * h)))))) := by rw [hw0, e1, hz, pr_, pr_, pr_, pr_, pr_, pr_, pe_]
  have e2 := dv2 (le82 ha hb) (le82 hb hc) hw
  obtain ⟨v, hv0⟩ : ∃ v, v = w + w / 65536 := ⟨_, rfl⟩
  have hv : v = (a + b + (c + d)) + 256 * ((b + c + (d + e)) + 256 * ((c + d + (e + f)) + 256 * ((d + e + (f + g)) + 256 * ((e + f + (g + h)) + 256 * ((f + g + h) + 256 * ((g + h) + 256 * h)))))) := by rw [hv0, e2, hw, pr_, pr_, pr_, pr_, pr_, pe_]
  have e3 := dv4 (le84 ha hb hc hd) (le84 hb hc hd he) (le84 hc hd he hf) (le84 hd he hf hg) hv
  rw [← hw0, ← hv0, e3, hv, pr_, md_ (le88 ha hb hc hd he hf hg hh)]
  simp only [Nat.add_assoc]
theorem bys_32 (n : Nat) : ((BYS n 4 + BYS n 4 / 256) + (BYS n 4 + BYS n 4 / 256) / 65536) % 64 = CB n 32 ∧ BYS n 4 < 150994945 := by
  have h0 := cb8_le n
  have h1 := cb8_le (n / 256)
  have h2 := cb8_le (n / 256 / 256)
  have h3 := cb8_le (n / 256 / 256 / 256)
  have hz : BYS n 4 = CB (n % 256) 8 + 256 * (CB (n / 256 % 256) 8 + 256 * (CB (n / 256 / 256 % 256) 8 + 256 * CB (n / 256 / 256 / 256 % 256) 8)) := by simp only [BYS, Nat.mul_zero, Nat.add_zero]
  rw [cb_32]
  exact ⟨sum_4 h0 h1 h2 h3 hz, by omega⟩
theorem bys_b {z a b c d e f g h : Nat} (ha : a ≤ 8) (hb : b ≤ 8) (hc : c ≤ 8) (hd : d ≤ 8) (he : e ≤ 8) (hf : f ≤ 8) (hg : g ≤ 8) (hh : h ≤ 8) (hz : z = a + 256 * (b + 256 * (c + 256 * (d + 256 * (e + 256 * (f + 256 * (g + 256 * h))))))) : z < 648518346341351425 := by omega
theorem bys_64 (n : Nat) : (((BYS n 8 + BYS n 8 / 256) + (BYS n 8 + BYS n 8 / 256) / 65536) + ((BYS n 8 + BYS n 8 / 256) + (BYS n 8 + BYS n 8 / 256) / 65536) / 4294967296) % 128 = CB n 64 ∧ BYS n 8 < 648518346341351425 := by
  have h0 := cb8_le n
  have h1 := cb8_le (n / 256)
  have h2 := cb8_le (n / 256 / 256)
  have h3 := cb8_le (n / 256 / 256 / 256)
  have h4 := cb8_le (n / 256 / 256 / 256 / 256)
  have h5 := cb8_le (n / 256 / 256 / 256 / 256 / 256)
  have h6 := cb8_le (n / 256 / 256 / 256 / 256 / 256 / 256)
  have h7 := cb8_le (n / 256 / 256 / 256 / 256 / 256 / 256 / 256)
  have hz : BYS n 8 = CB (n % 256) 8 + 256 * (CB (n / 256 % 256) 8 + 256 * (CB (n / 256 / 256 % 256) 8 + 256 * (CB (n / 256 / 256 / 256 % 256) 8 + 256 * (CB (n / 256 / 256 / 256 / 256 % 256) 8 + 256 * (CB (n / 256 / 256 / 256 / 256 / 256 % 256) 8 + 256 * (CB (n / 256 / 256 / 256 / 256 / 256 / 256 % 256) 8 + 256 * (CB (n / 256 / 256 / 256 / 256 / 256 / 256 / 256 % 256) 8))))))) := by simp only [BYS, Nat.mul_zero, Nat.add_zero]
  rw [cb_64, cb_32, cb_32]
  refine ⟨(sum_8 h0 h1 h2 h3 h4 h5 h6 h7 hz).trans (by simp only [Nat.add_assoc]), by clear h0 h1 h2 h3 h4 h5 h6 h7; have h0 := cb8_le n; have h1 := cb8_le (n / 256); have h2 := cb8_le (n / 256 / 256); have h3 := cb8_le (n / 256 / 256 / 256); have h4 := cb8_le (n / 256 / 256 / 256 / 256); have h5 := cb8_le (n / 256 / 256 / 256 / 256 / 256); have h6 := cb8_le (n / 256 / 256 / 256 / 256 / 256 / 256); have h7 := cb8_le (n / 256 / 256 / 256 / 256 / 256 / 256 / 256); exact bys_b h0 h1 h2 h3 h4 h5 h6 h7 hz⟩
/-- an int as its bits -/
abbrev tN (x : Int32) : Nat := x.toBitVec.toNat
abbrev tM (x : Int64) : Nat := x.toBitVec.toNat
theorem tN_lt (x : Int32) : tN x < 2 ^ 32 := x.toBitVec.isLt
theorem tM_lt (x : Int64) : tM x < 2 ^ 64 := x.toBitVec.isLt
theorem tN_and (x y : Int32) : tN (x &&& y) = tN x &&& tN y := BitVec.toNat_and ..
theorem tM_and (x y : Int64) : tM (x &&& y) = tM x &&& tM y := BitVec.toNat_and ..
theorem tN_add {x y : Int32} (h : tN x + tN y < 2 ^ 32) : tN (x + y) = tN x + tN y := (BitVec.toNat_add ..).trans (Nat.mod_eq_of_lt h)
theorem tM_add {x y : Int64} (h : tM x + tM y < 2 ^ 64) : tM (x + y) = tM x + tM y := (BitVec.toNat_add ..).trans (Nat.mod_eq_of_lt h)
theorem tN_sub {x y : Int32} (h : tN y ≤ tN x) : tN (x - y) = tN x - tN y := by
  have h1 := tN_lt x
  have h2 : tN (x - y) = (2 ^ 32 - tN y + tN x) % 2 ^ 32 := BitVec.toNat_sub ..
  rw [h2]; omega
theorem tM_sub {x y : Int64} (h : tM y ≤ tM x) : tM (x - y) = tM x - tM y := by
  have h1 := tM_lt x
  have h2 : tM (x - y) = (2 ^ 64 - tM y + tM x) % 2 ^ 64 := BitVec.toNat_sub ..
  rw [h2]; omega
theorem tN_shr {x c : Int32} {k : Nat} (hc : ((c.toUInt32 &&& Int32.toUInt32 31).toBitVec % 32#32).toNat = k) : tN ((x.toUInt32 >>> (c.toUInt32 &&& Int32.toUInt32 31)).toInt32) = tN x / 2 ^ k := by
  show (x.toBitVec >>> ((c.toUInt32 &&& Int32.toUInt32 31).toBitVec % 32#32)).toNat = _
  rw [BitVec.ushiftRight_eq', hc, BitVec.toNat_ushiftRight, Nat.shiftRight_eq_div_pow]
theorem tM_shr {x : Int64} {c : Int64} {k : Nat} (hc : ((c.toUInt64 &&& Int64.toUInt64 63).toBitVec % 64#64).toNat = k) : tM ((x.toUInt64 >>> (c.toUInt64 &&& Int64.toUInt64 63)).toInt64) = tM x / 2 ^ k := by
  show (x.toBitVec >>> ((c.toUInt64 &&& Int64.toUInt64 63).toBitVec % 64#64)).toNat = _
  rw [BitVec.ushiftRight_eq', hc, BitVec.toNat_ushiftRight, Nat.shiftRight_eq_div_pow]
theorem tN_int {x : Int32} (h : tN x < 2 ^ 31) : x.toInt = (tN x : Int) := by
  have h2 : x.toBitVec.toNat < 2 ^ 31 := h
  show x.toBitVec.toInt = (x.toBitVec.toNat : Int)
  rw [BitVec.toInt_eq_toNat_cond]
  split <;> omega
theorem tM_32 (x : Int64) : tN x.toInt32 = tM x % 2 ^ 32 := by
  show (x.toBitVec.signExtend 32).toNat = _
  rw [BitVec.signExtend_eq_setWidth_of_le _ (by decide), BitVec.toNat_setWidth]
theorem bc32 {a x1 x2 x3 x4 x5 x6 x7 x8 x9 x10 x11 x12 x13 x14 x15 : Int32} (e1 : x1 = (a.toUInt32 >>> ((1 : Int32).toUInt32 &&& Int32.toUInt32 31)).toInt32) (e2 : x2 = x1 &&& 1431655765) (e3 : x3 = a - x2) (e4 : x4 = x3 &&& 858993459) (e5 : x5 = (x3.toUInt32 >>> ((2 : Int32).toUInt32 &&& Int32.toUInt32 31)).toInt32) (e6 : x6 = x5 &&& 858993459) (e7 : x7 = x4 + x6) (e8 : x8 = (x7.toUInt32 >>> ((4 : Int32).toUInt32 &&& Int32.toUInt32 31)).toInt32) (e9 : x9 = x7 + x8) (e10 : x10 = x9 &&& 252645135) (e11 : x11 = (x10.toUInt32 >>> ((8 : Int32).toUInt32 &&& Int32.toUInt32 31)).toInt32) (e12 : x12 = x10 + x11) (e13 : x13 = (x12.toUInt32 >>> ((16 : Int32).toUInt32 &&& Int32.toUInt32 31)).toInt32) (e14 : x14 = x12 + x13) (e15 : x15 = x14 &&& 63) : x15.toInt = (CB (tN a) 32 : Nat) := by
  have k1 : tN (1431655765 : Int32) = 1431655765 := by decide
  have k2 : tN (858993459 : Int32) = 858993459 := by decide
  have k3 : tN (252645135 : Int32) = 252645135 := by decide
  have k4 : tN (63 : Int32) = 63 := by decide
  have h1 : tN x1 = tN a / 2 := by rw [e1, tN_shr (k := 1) (by decide)]
  have h2 : tN x2 = (tN a / 2) &&& 1431655765 := by rw [e2, tN_and, h1, k1]
  have h2b : tN x2 ≤ tN a / 2 := by rw [h2]; exact Nat.and_le_left
  have h3 : tN x3 = SW1 1431655765 (tN a) := by rw [e3, tN_sub (by omega), h2]; rfl
  have h5 : tN x5 = tN x3 / 4 := by rw [e5, tN_shr (k := 2) (by decide)]
  have h4 : tN x4 = tN x3 &&& 858993459 := by rw [e4, tN_and, k2]
  have h6 : tN x6 = (tN x3 / 4) &&& 858993459 := by rw [e6, tN_and, h5, k2]
  have h4b : tN x4 ≤ 858993459 := by rw [h4]; exact Nat.and_le_right
  have h6b : tN x6 ≤ 858993459 := by rw [h6]; exact Nat.and_le_right
  have h7 : tN x7 = SW2 858993459 (SW1 1431655765 (tN a)) := by rw [e7, tN_add (by omega), h4, h6, h3]; rfl
  have h7b : tN x7 ≤ 1717986918 := by rw [e7, tN_add (by omega)]; omega
  have h8 : tN x8 = tN x7 / 16 := by rw [e8, tN_shr (k := 4) (by decide)]
  have h9 : tN x9 = tN x7 + tN x7 / 16 := by rw [e9, tN_add (by omega), h8]
  have hz : tN x10 = BYS (tN a) 4 := by
    rw [e10, tN_and, h9, k3, h7]; exact swa_32 (tN_lt a)
  obtain ⟨b1, b2⟩ := bys_32 (tN a)
  rw [← hz] at b1 b2
  have h11 : tN x11 = tN x10 / 256 := by rw [e11, tN_shr (k := 8) (by decide)]
  have h12 : tN x12 = tN x10 + tN x10 / 256 := by rw [e12, tN_add (by omega), h11]
  have h13 : tN x13 = tN x12 / 65536 := by rw [e13, tN_shr (k := 16) (by decide)]
  have h14 : tN x14 = tN x12 + tN x12 / 65536 := by rw [e14, tN_add (by omega), h13]
  have h15 : tN x15 = tN x14 % 64 := by rw [e15, tN_and, k4]; exact Nat.and_two_pow_sub_one_eq_mod _ 6
  rw [tN_int (by omega), h15, h14, h12, b1]
theorem bc64 {a x1 x2 x3 x4 x5 x6 x7 x8 x9 x10 x11 x12 x13 x14 x15 x16 : Int64} {y1 y2 : Int32} (e1 : x1 = (a.toUInt64 >>> ((1 : Int32).toInt64.toUInt64 &&& Int64.toUInt64 63)).toInt64) (e2 : x2 = x1 &&& 6148914691236517205) (e3 : x3 = a - x2) (e4 : x4 = x3 &&& 3689348814741910323) (e5 : x5 = (x3.toUInt64 >>> ((2 : Int32).toInt64.toUInt64 &&& Int64.toUInt64 63)).toInt64) (e6 : x6 = x5 &&& 3689348814741910323) (e7 : x7 = x4 + x6) (e8 : x8 = (x7.toUInt64 >>> ((4 : Int32).toInt64.toUInt64 &&& Int64.toUInt64 63)).toInt64) (e9 : x9 = x7 + x8) (e10 : x10 = x9 &&& 1085102592571150095) (e11 : x11 = (x10.toUInt64 >>> ((8 : Int32).toInt64.toUInt64 &&& Int64.toUInt64 63)).toInt64) (e12 : x12 = x10 + x11) (e13 : x13 = (x12.toUInt64 >>> ((16 : Int32).toInt64.toUInt64 &&& Int64.toUInt64 63)).toInt64) (e14 : x14 = x12 + x13) (e15 : x15 = (x14.toUInt64 >>> ((32 : Int32).toInt64.toUInt64 &&& Int64.toUInt64 63)).toInt64) (e16 : x16 = x14 + x15) (f1 : y1 = x16.toInt32) (f2 : y2 = y1 &&& 127) : y2.toInt = (CB (tM a) 64 : Nat) := by
  have k1 : tM (6148914691236517205 : Int64) = 6148914691236517205 := by decide
  have k2 : tM (3689348814741910323 : Int64) = 3689348814741910323 := by decide
  have k3 : tM (1085102592571150095 : Int64) = 1085102592571150095 := by decide
  have k4 : tN (127 : Int32) = 127 := by decide
  have h1 : tM x1 = tM a / 2 := by rw [e1, tM_shr (k := 1) (by decide)]
  have h2 : tM x2 = (tM a / 2) &&& 6148914691236517205 := by rw [e2, tM_and, h1, k1]
  have h2b : tM x2 ≤ tM a / 2 := by rw [h2]; exact Nat.and_le_left
  have h3 : tM x3 = SW1 6148914691236517205 (tM a) := by rw [e3, tM_sub (by omega), h2]; rfl
  have h5 : tM x5 = tM x3 / 4 := by rw [e5, tM_shr (k := 2) (by decide)]
  have h4 : tM x4 = tM x3 &&& 3689348814741910323 := by rw [e4, tM_and, k2]
  have h6 : tM x6 = (tM x3 / 4) &&& 3689348814741910323 := by rw [e6, tM_and, h5, k2]
  have h4b : tM x4 ≤ 3689348814741910323 := by rw [h4]; exact Nat.and_le_right
  have h6b : tM x6 ≤ 3689348814741910323 := by rw [h6]; exact Nat.and_le_right
  have h7 : tM x7 = SW2 3689348814741910323 (SW1 6148914691236517205 (tM a)) := by rw [e7, tM_add (by omega), h4, h6, h3]; rfl
  have h7b : tM x7 ≤ 7378697629483820646 := by rw [e7, tM_add (by omega)]; omega
  have h8 : tM x8 = tM x7 / 16 := by rw [e8, tM_shr (k := 4) (by decide)]
  have h9 : tM x9 = tM x7 + tM x7 / 16 := by rw [e9, tM_add (by omega), h8]
  have hz : tM x10 = BYS (tM a) 8 := by
    rw [e10, tM_and, h9, k3, h7]; exact swa_64 (tM_lt a)
  obtain ⟨b1, b2⟩ := bys_64 (tM a)
  rw [← hz] at b1 b2
  have h11 : tM x11 = tM x10 / 256 := by rw [e11, tM_shr (k := 8) (by decide)]
  have h12 : tM x12 = tM x10 + tM x10 / 256 := by rw [e12, tM_add (by omega), h11]
  have h13 : tM x13 = tM x12 / 65536 := by rw [e13, tM_shr (k := 16) (by decide)]
  have h14 : tM x14 = tM x12 + tM x12 / 65536 := by rw [e14, tM_add (by omega), h13]
  have h15 : tM x15 = tM x14 / 4294967296 := by rw [e15, tM_shr (k := 32) (by decide)]
  have h16 : tM x16 = tM x14 + tM x14 / 4294967296 := by rw [e16, tM_add (by omega), h15]
  have hy : tN y2 = tM x16 % 128 := by
    rw [f2, tN_and, k4, show tN y1 &&& 127 = tN y1 % 128 from Nat.and_two_pow_sub_one_eq_mod _ 7, f1, tM_32]; omega
  rw [tN_int (by omega), hy, h16, h14, h12, b1]
