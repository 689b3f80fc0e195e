abbrev LB (x : Int64) (h : Nat) : Bool := x.toBitVec.getLsbD h
abbrev IB (x : Int32) (h : Nat) : Bool := x.toBitVec.getLsbD h
/-- how many of the first n -/
noncomputable def CNT (p : Nat → Prop) : Nat → Nat
  | 0 => 0
  | n + 1 => CNT p n + @ite Nat (p n) (Classical.propDecidable (p n)) 1 0
section CNTS
variable {p q : Nat → Prop} {n m : Nat}
theorem cnt_c (h : ∀ k, k < n → (p k ↔ q k)) : CNT p n = CNT q n := by
  induction n with
  | zero => rfl
  | succ n ih =>
    have e : p n = q n := propext (h n (Nat.lt_succ_self n))
    rw [CNT, CNT, ih (fun k hk => h k (Nat.lt_succ_of_lt hk)), e]
theorem cnt_y (h : p n) : CNT p (n + 1) = CNT p n + 1 := by rw [CNT, if_pos h]
theorem cnt_n (h : ¬ p n) : CNT p (n + 1) = CNT p n := by rw [CNT, if_neg h, Nat.add_zero]
theorem cnt_le : CNT p n ≤ n := by
  induction n with
  | zero => exact Nat.le_refl _
  | succ n ih =>
    by_cases h : p n
    · rw [cnt_y h]; omega
    · rw [cnt_n h]; omega
theorem cnt_m (h : n ≤ m) (h2 : ∀ k, n ≤ k → k < m → ¬ p k) : CNT p m = CNT p n := by
  induction m with
  | zero => rw [show n = 0 by omega]
  | succ m ih =>
    by_cases e : n = m + 1
    · rw [e]
    · rw [cnt_n (h2 m (by omega) (by omega)), ih (by omega) (fun k h3 h4 => h2 k h3 (by omega))]
theorem tb_dec (x n : Nat) : x / 2 ^ n % 2 = if x.testBit n = true then 1 else 0 := by
  have h := Nat.testBit_eq_decide_div_mod_eq (x := x) (i := n)
  rw [h]
  by_cases e : x / 2 ^ n % 2 = 1
  · rw [e]; rfl
  · have e2 : x / 2 ^ n % 2 = 0 := by omega
    rw [e2]; rfl
theorem cb_cnt {x : Nat} (h : ∀ k, k < n → (x.testBit k = true ↔ p k)) : CB x n = CNT p n := by
  induction n with
  | zero => rfl
  | succ n ih =>
    rw [CB, tb_dec, ih (fun k hk => h k (Nat.lt_succ_of_lt hk))]
    have e := h n (Nat.lt_succ_self n)
    by_cases q : p n
    · rw [cnt_y q, if_pos (e.mpr q)]
    · rw [cnt_n q, if_neg (fun z => q (e.mp z))]; rfl
end CNTS
theorem lb_or (x y : Int64) (h : Nat) : LB (x ||| y) h = (LB x h || LB y h) := BitVec.getLsbD_or
theorem lb_0 (h : Nat) : LB 0 h = false := BitVec.getLsbD_zero
theorem sm_k : ∀ k, k < 64 → (((Int32.ofNat k).toInt64 &&& 63).toBitVec.smod 64#64).toNat = k := by decide +kernel
theorem i_ofn {h : Int32} (h0 : 0 ≤ h.toInt) : h = Int32.ofNat h.toInt.toNat := by
  have h1 : h.toInt < 2147483648 := Int32.toInt_lt h
  exact Int32.toInt_inj.mp (by rw [Int32.toInt_ofNat_of_lt (by omega)]; omega)
theorem lb_shl {i : Int32} (h0 : 0 ≤ i.toInt) (h1 : i.toInt < 64) (k : Nat) (hk : k < 64) : LB ((1 : Int64) <<< (i.toInt64 &&& 63)) k = decide (k = i.toInt.toNat) := by
  have e : ((i.toInt64 &&& 63).toBitVec.smod 64#64).toNat = i.toInt.toNat := by
    have h2 := sm_k i.toInt.toNat (by omega)
    rw [← i_ofn h0] at h2; exact h2
  show ((1#64) <<< ((i.toInt64 &&& 63).toBitVec.smod 64#64)).getLsbD k = _
  rw [BitVec.shiftLeft_eq', e, BitVec.getLsbD_shiftLeft, BitVec.getLsbD_one]
  have hn : i.toInt.toNat < 64 := by omega
  generalize i.toInt.toNat = n at hn ⊢
  by_cases q : k = n
  · subst q; simp [hk]
  · by_cases q2 : k < n
    · simp [hk, q2, q]
    · have q3 : ¬ k - n = 0 := by omega
      simp [hk, q2, q3, q]
theorem lb_shr {x y z : Int64} {i c : Int32} (h0 : 0 ≤ i.toInt) (h1 : i.toInt < 64) (ey : y = x >>> (i.toInt64 &&& 63)) (ez : z = y &&& 1) (ec : c = lg_cmp z 0) : c.toInt = 0 ↔ ¬ LB x i.toInt.toNat = true := by
  have e : ((i.toInt64 &&& 63).toBitVec.smod 64#64).toNat = i.toInt.toNat := by
    have h2 := sm_k i.toInt.toNat (by omega)
    rw [← i_ofn h0] at h2; exact h2
  have e2 : z.toBitVec = if x.toBitVec.getLsbD i.toInt.toNat then 1#64 else 0#64 := by
    rw [ez, ey]
    show (x.toBitVec.sshiftRight' ((i.toInt64 &&& 63).toBitVec.smod 64#64)) &&& 1#64 = _
    rw [BitVec.sshiftRight_eq', e, show (1#64) = BitVec.twoPow 64 0 from rfl, BitVec.and_twoPow, BitVec.getLsbD_sshiftRight]
    have hn : i.toInt.toNat < 64 := by omega
    generalize i.toInt.toNat = n at hn ⊢
    simp [hn]
  rw [lgi_eq ec]
  cases q : x.toBitVec.getLsbD i.toInt.toNat with
  | false =>
    rw [q] at e2
    exact iff_of_true (Int64.toBitVec_inj.mp e2) (fun z9 => by rw [show LB x i.toInt.toNat = x.toBitVec.getLsbD i.toInt.toNat from rfl, q] at z9; cases z9)
  | true =>
    rw [q] at e2
    exact iff_of_false (fun z9 => by rw [z9] at e2; exact absurd e2 (by decide)) (fun z9 => z9 q)
theorem ib_shr {s x y h : Int32} (h0 : 0 ≤ h.toInt) (h1 : h.toInt < 24) (ex : x = s >>> (h &&& 31)) (ey : y = x &&& 1) : (y.toInt = 1 ∧ IB s h.toInt.toNat = true) ∨ (y.toInt = 0 ∧ ¬ IB s h.toInt.toNat = true) := by
  have hlt : h.toInt.toNat < 32 := by omega
  have e : y.toBitVec = if s.toBitVec.getLsbD h.toInt.toNat then 1#32 else 0#32 := by
    rw [ey, ex]
    show (s.toBitVec.sshiftRight' ((h &&& 31).toBitVec.smod 32#32)) &&& 1#32 = _
    rw [BitVec.sshiftRight_eq', shr_k h h0 h1]
    exact bt_m0 _ _ hlt
  cases q : s.toBitVec.getLsbD h.toInt.toNat with
  | false =>
    rw [q] at e
    exact Or.inr ⟨by rw [show y = 0 from Int32.toBitVec_inj.mp e]; decide, fun z9 => by rw [show IB s h.toInt.toNat = s.toBitVec.getLsbD h.toInt.toNat from rfl, q] at z9; cases z9⟩
  | true =>
    rw [q] at e
    exact Or.inl ⟨by rw [show y = 1 from Int32.toBitVec_inj.mp e]; decide, q⟩
/-- a listener's bit is laid in all hours in which it listens surely -/
def ADDL (l l' : Nat → Int64) (s : Int32) (b : Int64) (n : Int) : Prop := ∀ k : Nat, ((k : Int) < n → ((IB s k = true → l' k = l k ||| b) ∧ (¬ IB s k = true → l' k = l k ||| 0))) ∧ (n ≤ (k : Int) → l' k = l k)
section ADDS
variable {l l' z : Nat → Int64} {s : Int32} {b v : Int64} {n n' : Int} {i : Nat} {G : Nat → Nat → Int64} {r : Nat}
theorem addl_0 (h : n = 0) : ADDL l l s b n := fun k => ⟨fun q => by omega, fun _ => rfl⟩
theorem addl_s (h : ADDL l (G r) s b n) (hz : z = up2 G r i v r) (hi : (i : Int) = n) (hn : n' = n + 1) (hv : ∀ w : Int64, w = G r i → ((IB s i = true → v = w ||| b) ∧ (¬ IB s i = true → v = w ||| 0))) : ADDL l z s b n' := by
  intro k
  subst hz
  by_cases e : k = i
  · subst e
    rw [up2_s, ← (h k).2 (by omega)]
    exact ⟨fun _ => hv _ rfl, fun q => by omega⟩
  · rw [up2_f _ _ _ e]
    exact ⟨fun q => (h k).1 (by omega), fun q => (h k).2 (by omega)⟩
/-- the listeners after the first homes -/
def LSTN (l : Nat → Int64) (su : Nat → Int32) (p : Nat → Prop) (n : Int) : Prop := ∀ k : Nat, k < 24 → ∀ h : Nat, h < 64 → (LB (l k) h = true ↔ ((h : Int) < n ∧ p h ∧ IB (su h) k = true))
theorem ls_0 {su : Nat → Int32} {p : Nat → Prop} (h0 : n = 0) (h : ∀ k : Nat, k < 24 → l k = 0) : LSTN l su p n := fun k hk h9 _ => by
  rw [h k hk, lb_0]
  exact ⟨fun q => by simp at q, fun q => by omega⟩
theorem ls_no {su : Nat → Int32} {p : Nat → Prop} (h : LSTN l su p n) (hi : (i : Int) = n) (hn : n' = n + 1) (hp : ¬ p i) : LSTN l su p n' := fun k hk h9 h8 => by
  rw [h k hk h9 h8]
  constructor
  · rintro ⟨a, b, c⟩; exact ⟨by omega, b, c⟩
  · rintro ⟨a, b, c⟩
    refine ⟨?_, b, c⟩
    by_cases e : h9 = i
    · subst e; exact absurd b hp
    · omega
theorem ls_yes {su : Nat → Int32} {p : Nat → Prop} {m : Int32} {s9 : Int32} (h : LSTN l su p n) (hi : (i : Int) = n) (hm : m.toInt = n) (hm2 : m.toInt < 64) (hn : n' = n + 1) (hp : p i) (hs : s9 = su i) (hA : ADDL l l' s9 ((1 : Int64) <<< (m.toInt64 &&& 63)) 24) (h0 : 0 ≤ n) : LSTN l' su p n' := fun k hk h9 h8 => by
  have e1 : m.toInt.toNat = i := by omega
  subst hs
  have hb : LB (l' k) h9 = (LB (l k) h9 || (decide (h9 = i) && IB (su i) k)) := by
    by_cases q : IB (su i) k = true
    · rw [((hA k).1 (by omega)).1 q, lb_or, lb_shl (by omega) hm2 _ h8, e1, q, Bool.and_true]
    · rw [((hA k).1 (by omega)).2 q, lb_or, lb_0, Bool.not_eq_true _ |>.mp q, Bool.and_false]
  rw [hb, Bool.or_eq_true, Bool.and_eq_true, decide_eq_true_eq, h k hk h9 h8]
  constructor
  · rintro (⟨a, b, c⟩ | ⟨a, b⟩)
    · exact ⟨by omega, b, c⟩
    · subst a; exact ⟨by omega, hp, b⟩
  · rintro ⟨a, b, c⟩
    by_cases e : h9 = i
    · subst e; exact Or.inr ⟨rfl, c⟩
    · exact Or.inl ⟨by omega, b, c⟩
/-- the homes that heard it, as bits -/
def HBB (x : Int64) (p : Nat → Prop) (n : Int) : Prop := ∀ h : Nat, h < 64 → (LB x h = true ↔ ((h : Int) < n ∧ p h))
theorem hb_0 {p : Nat → Prop} (h : n = 0) : HBB 0 p n := fun k _ => by
  rw [lb_0]
  exact ⟨fun q => by simp at q, fun q => by omega⟩
theorem hb_y {p : Nat → Prop} {x y w : Int64} {m : Int32} (h : HBB x p n) (hm : m.toInt = n) (hm2 : m.toInt < 64) (h0 : 0 ≤ n) (hn : n' = n + 1) (ew : w = (1 : Int64) <<< (m.toInt64 &&& 63)) (ey : y = x ||| w) (hp : p m.toInt.toNat) : HBB y p n' := fun k hk => by
  rw [ey, ew, lb_or, lb_shl (by omega) hm2 _ hk, Bool.or_eq_true, decide_eq_true_eq, h k hk]
  constructor
  · rintro (⟨a, b⟩ | a)
    · exact ⟨by omega, b⟩
    · subst a; exact ⟨by omega, hp⟩
  · rintro ⟨a, b⟩
    by_cases e : k = m.toInt.toNat
    · exact Or.inr e
    · exact Or.inl ⟨by omega, b⟩
theorem hb_n {p : Nat → Prop} {x y : Int64} {m : Int32} (h : HBB x p n) (hm : m.toInt = n) (h0 : 0 ≤ n) (hn : n' = n + 1) (ey : y = x ||| 0) (hp : ¬ p m.toInt.toNat) : HBB y p n' := fun k hk => by
  rw [ey, lb_or, lb_0, Bool.or_false, h k hk]
  constructor
  · rintro ⟨a, b⟩; exact ⟨by omega, b⟩
  · rintro ⟨a, b⟩
    by_cases e : k = m.toInt.toNat
    · subst e; exact absurd b hp
    · exact ⟨by omega, b⟩
end ADDS
/-- bits of an int that stand in another one -/
def CVR (l : Nat → Int64) (s : Int32) (h : Nat) : Prop := ∃ k : Nat, k < 24 ∧ IB s k = true ∧ LB (l k) h = true
/-- the lowest bit -/
theorem low_bit {x : Nat} (h : 0 < x) : ∃ p q : Nat, x = 2 ^ p * (2 * q + 1) := by
  induction x using Nat.strongRecOn with
  | ind x ih =>
    by_cases e : x % 2 = 1
    · exact ⟨0, x / 2, by omega⟩
    · obtain ⟨p, q, hq⟩ := ih (x / 2) (by omega) (by omega)
      exact ⟨p + 1, q, by rw [Nat.pow_succ, Nat.mul_assoc, Nat.mul_left_comm, ← hq]; omega⟩
theorem and_at {a b c d p : Nat} (hb : b < 2 ^ p) (hd : d < 2 ^ p) : (2 ^ p * a + b) &&& (2 ^ p * c + d) = 2 ^ p * (a &&& c) + (b &&& d) := by
  have h4 : b &&& d < 2 ^ p := Nat.lt_of_le_of_lt Nat.and_le_left hb
  apply Nat.eq_of_testBit_eq
  intro i
  rw [Nat.testBit_and, Nat.testBit_two_pow_mul_add _ hb, Nat.testBit_two_pow_mul_add _ hd, Nat.testBit_two_pow_mul_add _ h4]
  by_cases q : i < p
  · rw [if_pos q, if_pos q, if_pos q, Nat.testBit_and]
  · rw [if_neg q, if_neg q, if_neg q, Nat.testBit_and]
theorem and_2 {a b c d : Nat} (hb : b < 2) (hd : d < 2) : (2 * a + b) &&& (2 * c + d) = 2 * (a &&& c) + (b &&& d) := and_at (p := 1) hb hd
theorem and_self (a : Nat) : a &&& a = a := Nat.and_self a
theorem low_clr {p q : Nat} : (2 ^ p * (2 * q + 1)) &&& (2 ^ p * (2 * q + 1) - 1) = 2 ^ p * (2 * q) := by
  have h0 : 0 < 2 ^ p := Nat.pow_pos (by decide)
  have e1 : 2 ^ p * (2 * q + 1) - 1 = 2 ^ p * (2 * q) + (2 ^ p - 1) := by rw [Nat.mul_add, Nat.mul_one]; omega
  have e2 : 2 ^ p * (2 * q + 1) = 2 ^ p * (2 * q + 1) + 0 := rfl
  have e3 : (2 * q + 1) &&& (2 * q) = 2 * q := by
    have h := and_2 (a := q) (b := 1) (c := q) (d := 0) (by decide) (by decide)
    rw [and_self] at h; exact h
  rw [e1]
  conv => lhs; rw [e2]
  rw [and_at h0 (by omega), e3, Nat.zero_and]; rfl
theorem and_comp {q k : Nat} (h : q < 2 ^ k) : q &&& (2 ^ k - 1 - q) = 0 := by
  apply Nat.eq_of_testBit_eq
  intro i
  have e : 2 ^ k - 1 - q = 2 ^ k - (q + 1) := by omega
  rw [Nat.testBit_and, e, Nat.testBit_two_pow_sub_succ h, Nat.zero_testBit]
  cases q.testBit i <;> simp
theorem low_neg {p q : Nat} (h : 2 ^ p * (2 * q + 1) < 2 ^ 32) : (2 ^ p * (2 * q + 1)) &&& (2 ^ 32 - 2 ^ p * (2 * q + 1)) = 2 ^ p := by
  have h0 : 0 < 2 ^ p := Nat.pow_pos (by decide)
  have hp : p < 32 := by
    refine Nat.lt_of_not_le (fun z => ?_)
    have h1 : 2 ^ 32 ≤ 2 ^ p := Nat.pow_le_pow_right (by decide) z
    have h2 : 2 ^ p * 1 ≤ 2 ^ p * (2 * q + 1) := Nat.mul_le_mul_left _ (by omega)
    omega
  have e32 : 2 ^ 32 = 2 ^ p * (2 * 2 ^ (31 - p)) := by
    rw [← Nat.pow_succ', ← Nat.pow_add]; congr 1; omega
  have hq : q < 2 ^ (31 - p) := by
    rw [e32] at h
    have := Nat.lt_of_mul_lt_mul_left h
    omega
  have e1 : 2 ^ 32 - 2 ^ p * (2 * q + 1) = 2 ^ p * (2 * (2 ^ (31 - p) - 1 - q) + 1) + 0 := by
    rw [e32, ← Nat.mul_sub]; congr 1; omega
  have e2 : 2 ^ p * (2 * q + 1) = 2 ^ p * (2 * q + 1) + 0 := rfl
  rw [e1]
  conv => lhs; rw [e2]
  rw [and_at h0 h0, and_2 (by decide) (by decide), and_comp hq]; simp
theorem cb_ones : ∀ p, p < 24 → CB (2 ^ p - 1) 32 = p := by decide +kernel
theorem tb_low {p q i : Nat} : (2 ^ p * (2 * q)).testBit i = ((2 ^ p * (2 * q + 1)).testBit i && !decide (i = p)) := by
  have h0 : 0 < 2 ^ p := Nat.pow_pos (by decide)
  have e1 := Nat.testBit_two_pow_mul_add (2 * q) h0 i
  have e2 := Nat.testBit_two_pow_mul_add (2 * q + 1) h0 i
  rw [Nat.add_zero] at e1 e2
  rw [e1, e2]
  by_cases z : i < p
  · rw [if_pos z, if_pos z]; simp
  · rw [if_neg z, if_neg z]
    by_cases z2 : i = p
    · subst z2; rw [Nat.sub_self]; simp
    · obtain ⟨j, hj⟩ : ∃ j, i - p = j + 1 := ⟨i - p - 1, by omega⟩
      rw [hj, Nat.testBit_succ, Nat.testBit_succ]
      have a1 : 2 * q / 2 = q := by omega
      have a2 : (2 * q + 1) / 2 = q := by omega
      rw [a1, a2]; simp [z2]
theorem tb_lowp {p q : Nat} : (2 ^ p * (2 * q + 1)).testBit p = true := by
  have h0 : 0 < 2 ^ p := Nat.pow_pos (by decide)
  have e2 := Nat.testBit_two_pow_mul_add (2 * q + 1) h0 p
  rw [Nat.add_zero, if_neg (Nat.lt_irrefl p), Nat.sub_self] at e2
  rw [e2]; simp
theorem cb_pow {x n : Nat} (h : x < 2 ^ n) : ∀ m, n ≤ m → CB x m = CB x n := fun m hm => by
  obtain ⟨k, rfl⟩ : ∃ k, m = n + k := ⟨m - n, by omega⟩
  rw [cb_split, Nat.div_eq_of_lt h]
  have e : ∀ k, CB 0 k = 0 := fun k => by
    induction k with
    | zero => rfl
    | succ k ih => rw [CB, ih, Nat.zero_div]
  rw [e]; rfl
theorem tN_neg {x : Int32} (h : 0 < tN x) : tN (-x) = 2 ^ 32 - tN x := by
  have h1 := tN_lt x
  have h2 : tN (-x) = (2 ^ 32 - tN x) % 2 ^ 32 := BitVec.toNat_neg ..
  rw [h2]; exact Nat.mod_eq_of_lt (by omega)
/-- what is left of the hours in a turn -/
def LEFT (s m : Int32) (l : Nat → Int64) (z : Int64) (t : Int) : Prop := tN m < 2 ^ 24 ∧ (CB (tN m) 24 : Int) + t ≤ 24 ∧ (∀ k : Nat, k < 24 → IB m k = true → IB s k = true) ∧ ∀ h : Nat, h < 64 → (LB z h = true ↔ ∃ k : Nat, k < 24 ∧ IB s k = true ∧ ¬ IB m k = true ∧ LB (l k) h = true)
theorem left_0 {s : Int32} {l : Nat → Int64} {t : Int} (h : tN s < 2 ^ 24) (ht : t = 0) : LEFT s s l 0 t := by
  subst ht
  refine ⟨h, ?_, fun _ _ q => q, fun k _ => ?_⟩
  · have e : CB (tN s) 24 = CNT (fun k => (tN s).testBit k = true) 24 := cb_cnt (fun k _ => Iff.rfl)
    have := cnt_le (p := fun k => (tN s).testBit k = true) (n := 24)
    omega
  · rw [lb_0]
    exact ⟨fun q => by simp at q, fun ⟨k, _, a, b, _⟩ => absurd a b⟩
theorem tN_0 {m : Int32} (h : m.toInt = 0) : tN m = 0 := by
  rw [show m = 0 from ext_i (h.trans (by decide))]; decide
theorem cb_zero {x n : Nat} (h : CB x n = 0) : ∀ k, k < n → x.testBit k = false := by
  induction n with
  | zero => exact fun k hk => by omega
  | succ n ih =>
    intro k hk
    rw [CB, tb_dec] at h
    by_cases e : k = n
    · subst e
      by_cases q : x.testBit k = true
      · rw [if_pos q] at h; omega
      · exact Bool.not_eq_true _ |>.mp q
    · exact ih (by omega) k (by omega)
theorem left_end {s m : Int32} {l : Nat → Int64} {z : Int64} {t : Int} (h : LEFT s m l z t) (ht : 24 ≤ t ∨ m.toInt = 0) : ∀ k : Nat, k < 64 → (LB z k = true ↔ CVR l s k) := fun k hk => by
  obtain ⟨h1, h2, h3, h4⟩ := h
  have hz : ∀ j : Nat, j < 24 → ¬ IB m j = true := by
    rcases ht with ht | ht
    · have h5 : CB (tN m) 24 = 0 := by omega
      intro j hj q
      have := cb_zero h5 j hj
      rw [show IB m j = (tN m).testBit j from rfl, this] at q; cases q
    · intro j hj q
      rw [show IB m j = (tN m).testBit j from rfl, tN_0 ht, Nat.zero_testBit] at q; cases q
  rw [h4 k hk]
  exact ⟨fun ⟨j, a, b, _, d⟩ => ⟨j, a, b, d⟩, fun ⟨j, a, b, d⟩ => ⟨j, a, b, hz j a, d⟩⟩
theorem tN_sub1 {m x : Int32} (h : 0 < tN m) (e : x = m - 1) : tN x = tN m - 1 := by
  have k1 : tN (1 : Int32) = 1 := by decide
  rw [e, tN_sub (by omega), k1]
/-- the lowest hour that is left, what is left without it -/
theorem left_low {m n a b c d : Int32} (h24 : tN m < 2 ^ 24) (hm : ¬ m.toInt = 0) (en : n = -m) (ea : a = m &&& n) (eb : b = a - 1) (ec : c.toInt = ((CB (tN b) 32 : Nat) : Int)) (ed : d = m - 1) : ∃ p : Nat, p < 24 ∧ c.toInt = p ∧ IB m p = true ∧ tN (m &&& d) < 2 ^ 24 ∧ (CB (tN (m &&& d)) 24 : Int) + 1 = CB (tN m) 24 ∧ ∀ k : Nat, IB (m &&& d) k = (IB m k && !decide (k = p)) := by
  have h0 : 0 < tN m := by
    refine Nat.pos_of_ne_zero (fun z => hm ?_)
    rw [show m = 0 from Int32.toBitVec_inj.mp (BitVec.eq_of_toNat_eq z)]; decide
  obtain ⟨p, q, hq⟩ := low_bit h0
  have hp0 : 0 < 2 ^ p := Nat.pow_pos (by decide)
  have hp : p < 24 := by
    refine Nat.lt_of_not_le (fun z => ?_)
    have h1 : 2 ^ 24 ≤ 2 ^ p := Nat.pow_le_pow_right (by decide) z
    have h2 : 2 ^ p * 1 ≤ 2 ^ p * (2 * q + 1) := Nat.mul_le_mul_left _ (by omega)
    omega
  have ha : tN a = 2 ^ p := by
    rw [ea, tN_and, en, tN_neg h0, hq]; exact low_neg (by rw [← hq]; omega)
  have hb : tN b = 2 ^ p - 1 := by rw [eb]; exact (tN_sub1 (by omega) rfl).trans (by rw [ha])
  have hd : tN (m &&& d) = 2 ^ p * (2 * q) := by
    rw [tN_and, tN_sub1 h0 ed, hq]; exact low_clr
  have hle : tN (m &&& d) ≤ tN m := by rw [tN_and]; exact Nat.and_le_left
  have hbit : ∀ k : Nat, IB (m &&& d) k = (IB m k && !decide (k = p)) := fun k => by
    show (tN (m &&& d)).testBit k = ((tN m).testBit k && !decide (k = p))
    rw [hd, hq]; exact tb_low
  have hmp : IB m p = true := by
    show (tN m).testBit p = true
    rw [hq]; exact tb_lowp
  refine ⟨p, hp, ?_, hmp, by omega, ?_, hbit⟩
  · rw [ec, hb, cb_ones p hp]
  · have e1 : CB (tN m) 24 = CNT (fun k => IB m k = true) 24 := cb_cnt (fun k _ => Iff.rfl)
    have e2 : CB (tN (m &&& d)) 24 = CNT (fun k => IB (m &&& d) k = true) 24 := cb_cnt (fun k _ => Iff.rfl)
    have e3 : ∀ n, n ≤ p → CNT (fun k => IB (m &&& d) k = true) n = CNT (fun k => IB m k = true) n := fun n hn => cnt_c (fun k hk => by rw [hbit k]; simp [show ¬ k = p by omega])
    have e4 : ∀ n, CNT (fun k => IB (m &&& d) k = true) (p + 1 + n) + 1 = CNT (fun k => IB m k = true) (p + 1 + n) := fun n => by
      induction n with
      | zero =>
        rw [Nat.add_zero, cnt_y (p := fun k => IB m k = true) hmp, cnt_n (p := fun k => IB (m &&& d) k = true) (by rw [hbit p]; simp), e3 p (Nat.le_refl _)]
      | succ n ih =>
        have e5 : IB (m &&& d) (p + 1 + n) = IB m (p + 1 + n) := by rw [hbit]; simp [show ¬ p + 1 + n = p by omega]
        have e6 : p + 1 + (n + 1) = (p + 1 + n) + 1 := by omega
        rw [e6]
        by_cases z : IB m (p + 1 + n) = true
        · rw [cnt_y (p := fun k => IB m k = true) z, cnt_y (p := fun k => IB (m &&& d) k = true) (e5.trans z)]; omega
        · rw [cnt_n (p := fun k => IB m k = true) z, cnt_n (p := fun k => IB (m &&& d) k = true) (fun y => z (e5.symm.trans y))]; omega
    have e7 := e4 (23 - p)
    rw [show p + 1 + (23 - p) = 24 by omega] at e7
    rw [e1, e2]; omega
theorem left_s {s m d c m' : Int32} {l : Nat → Int64} {z z' w : Int64} {t t' : Int} (h : LEFT s m l z t) (hL : ∃ p : Nat, p < 24 ∧ c.toInt = p ∧ IB m p = true ∧ tN (m &&& d) < 2 ^ 24 ∧ (CB (tN (m &&& d)) 24 : Int) + 1 = CB (tN m) 24 ∧ ∀ k : Nat, IB (m &&& d) k = (IB m k && !decide (k = p))) (em : m' = m &&& d) (ew : w = l c.toNatClampNeg) (ez : z' = z ||| w) (ht : t' = t + 1) : LEFT s m' l z' t' := by
  obtain ⟨h1, h2, h3, h4⟩ := h
  obtain ⟨p, p1, p2, p3, p4, p5, p6⟩ := hL
  have h8 := tcl c
  have ec : c.toNatClampNeg = p := by omega
  subst em ez ht
  rw [ec] at ew
  refine ⟨p4, by omega, fun k hk q => ?_, fun k hk => ?_⟩
  · rw [p6 k, Bool.and_eq_true] at q; exact h3 k hk q.1
  · rw [lb_or, Bool.or_eq_true, h4 k hk, ew]
    constructor
    · rintro (⟨j, a, b, cc, dd⟩ | q)
      · refine ⟨j, a, b, fun y => cc ?_, dd⟩
        rw [p6 j, Bool.and_eq_true] at y; exact y.1
      · refine ⟨p, p1, h3 p p1 p3, fun y => ?_, q⟩
        rw [p6 p, Bool.and_eq_true] at y
        simp at y
    · rintro ⟨j, a, b, cc, dd⟩
      by_cases e : j = p
      · subst e; exact Or.inr dd
      · refine Or.inl ⟨j, a, b, fun y => cc ?_, dd⟩
        rw [p6 j, y]; simp [e]
/-- a home that heard it maybe and would hear the correction -/
def LSP (kd : Int32) (su ma : Nat → Int32) (m : Int) (le : Int32) (ea hn x x2 : Nat → Int32) (h : Nat) : Prop := 0 < HF kd su ma m le ea hn x h ∧ (le * ea h).toInt ≤ (x2 (hn h).toNatClampNeg).toInt
/-- hours that both hold -/
def HIT (a b : Int32) : Prop := ∃ k : Nat, k < 24 ∧ IB b k = true ∧ IB a k = true
theorem tN_i {a : Int32} (h : 0 ≤ a.toInt) : (tN a : Int) = a.toInt := by
  have h1 : a.toBitVec.toInt = a.toInt := rfl
  have h2 := BitVec.toInt_eq_toNat_cond a.toBitVec
  have h3 : a.toBitVec.toNat < 2 ^ 32 := a.toBitVec.isLt
  show (a.toBitVec.toNat : Int) = _
  rw [h1] at h2
  by_cases q : 2 * a.toBitVec.toNat < 2 ^ 32
  · rw [if_pos q] at h2; omega
  · rw [if_neg q] at h2; omega
/-- the count by listeners' bits is the count by homes -/
theorem cv_cnt {l : Nat → Int64} {su : Nat → Int32} {p : Nat → Prop} {n : Int} (h : LSTN l su p n) (hn : n ≤ 64) (s : Int32) : CNT (fun h => CVR l s h) 64 = CNT (fun h => p h ∧ HIT (su h) s) n.toNat := by
  have e1 : CNT (fun h => CVR l s h) 64 = CNT (fun h => (h : Int) < n ∧ p h ∧ HIT (su h) s) 64 := cnt_c (fun k hk => by
    constructor
    · rintro ⟨j, a, b, c⟩
      obtain ⟨c1, c2, c3⟩ := (h j a k hk).mp c
      exact ⟨c1, c2, j, a, b, c3⟩
    · rintro ⟨a, b, j, c, d, e⟩
      exact ⟨j, c, d, (h j c k hk).mpr ⟨a, b, e⟩⟩)
  rw [e1, cnt_m (n := n.toNat) (by omega) (fun k h1 h2 q => by have := q.1; omega)]
  exact cnt_c (fun k hk => ⟨fun q => q.2, fun q => ⟨by omega, q⟩⟩)
