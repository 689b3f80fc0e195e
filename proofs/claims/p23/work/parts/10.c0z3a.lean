theorem pd_mono : ∀ (n h t t' : Nat), t < t' → t' < 2 ^ CB h n → PD n h t < PD n h t'
  | 0, h, t, t', h1, h2 => by
    have e : 2 ^ CB h 0 = 1 := rfl
    omega
  | n + 1, h, t, t', h1, h2 => by
    rw [cb_2] at h2
    rw [PD, PD]
    by_cases e : h % 2 = 1
    · rw [e, Nat.add_comm 1, Nat.pow_succ'] at h2
      rw [if_pos e, if_pos e]
      by_cases q : t / 2 < t' / 2
      · have := pd_mono n (h / 2) (t / 2) (t' / 2) q (by omega)
        omega
      · have e2 : t / 2 = t' / 2 := by omega
        rw [e2]; omega
    · have e2 : h % 2 = 0 := by omega
      rw [e2, Nat.zero_add] at h2
      rw [if_neg e, if_neg e]
      have := pd_mono n (h / 2) t t' h1 h2
      omega
theorem pd_surj : ∀ (n h v : Nat), v < 2 ^ n → v &&& h = v → ∃ t, t < 2 ^ CB h n ∧ PD n h t = v
  | 0, h, v, h1, _ => ⟨0, by show 0 < 1; decide, by rw [Nat.pow_zero] at h1; show 0 = v; omega⟩
  | n + 1, h, v, h1, h2 => by
    have hp : 2 ^ (n + 1) = 2 * 2 ^ n := Nat.pow_succ'
    have e1 : v = 2 * (v / 2) + v % 2 := by omega
    have e2 : h = 2 * (h / 2) + h % 2 := by omega
    have h3 : 2 * (v / 2 &&& h / 2) + (v % 2 &&& h % 2) = v := by
      rw [← and_2 (show v % 2 < 2 by omega) (show h % 2 < 2 by omega), ← e1, ← e2]; exact h2
    have h4 : v % 2 &&& h % 2 ≤ v % 2 := Nat.and_le_left
    have h5 : v / 2 &&& h / 2 = v / 2 := by omega
    have h6 : v % 2 &&& h % 2 = v % 2 := by omega
    obtain ⟨t, t1, t2⟩ := pd_surj n (h / 2) (v / 2) (by omega) h5
    rw [cb_2]
    by_cases e : h % 2 = 1
    · refine ⟨v % 2 + 2 * t, ?_, ?_⟩
      · rw [e, Nat.add_comm 1, Nat.pow_succ']; omega
      · rw [PD, if_pos e, show (v % 2 + 2 * t) / 2 = t by omega, t2]; omega
    · have e3 : h % 2 = 0 := by omega
      rw [e3, Nat.and_zero] at h6
      refine ⟨t, ?_, ?_⟩
      · rw [e3, Nat.zero_add]; exact t1
      · rw [PD, if_neg e, t2]; omega
/-- the best of the sets, its size, how many are as few -/
abbrev BRS := Int × Nat × Nat
noncomputable def BRI (ok : Prop) (sz : Nat) (v : Int) (p : BRS) : BRS := @ite BRS (ok ∧ sz ≤ p.2.1) (Classical.propDecidable _) (if sz < p.2.1 then (v, sz, 1) else (p.1, p.2.1, p.2.2 + 1)) p
noncomputable def BRF (ok : Nat → Prop) (sz : Nat → Nat) (v : Nat → Int) : Nat → BRS
  | 0 => (-9, 25, 0)
  | t + 1 => BRI (ok t) (sz t) (v t) (BRF ok sz v t)
section BRK
variable {ok ok' : Nat → Prop} {sz sz' : Nat → Nat} {v v' : Nat → Int} {t n a b : Nat} {p : BRS}
theorem bri_n {o : Prop} {s : Nat} {w : Int} (h : ¬ o ∨ p.2.1 < s) : BRI o s w p = p := by
  rw [BRI, if_neg (fun q => h.elim (fun y => y q.1) (fun y => by have := q.2; omega))]
theorem bri_l {o : Prop} {s : Nat} {w : Int} (h : o) (h2 : s < p.2.1) : BRI o s w p = (w, s, 1) := by
  rw [BRI, if_pos ⟨h, by omega⟩, if_pos h2]
theorem bri_e {o : Prop} {s : Nat} {w : Int} (h : o) (h2 : s = p.2.1) : BRI o s w p = (p.1, p.2.1, p.2.2 + 1) := by
  rw [BRI, if_pos ⟨h, by omega⟩, if_neg (by omega)]
theorem brf_gap : ∀ (b a : Nat), a ≤ b → (∀ k, a ≤ k → k < b → ¬ ok k) → BRF ok sz v b = BRF ok sz v a
  | 0, a, h, _ => by rw [show a = 0 by omega]
  | b + 1, a, h, h2 => by
    by_cases e : a = b + 1
    · rw [e]
    · rw [BRF, bri_n (Or.inl (h2 b (by omega) (by omega)))]
      exact brf_gap b a (by omega) (fun k h3 h4 => h2 k h3 (by omega))
theorem brf_c : ∀ n : Nat, (∀ k, k < n → (ok k ↔ ok' k) ∧ sz k = sz' k ∧ v k = v' k) → BRF ok sz v n = BRF ok' sz' v' n
  | 0, _ => rfl
  | n + 1, h => by
    obtain ⟨e1, e2, e3⟩ := h n (Nat.lt_succ_self n)
    rw [BRF, BRF, brf_c n (fun k hk => h k (Nat.lt_succ_of_lt hk)), e2, e3, propext e1]
/-- even sets alone -/
theorem brf_even : ∀ n : Nat, (∀ k, ok k → k % 2 = 0) → BRF ok sz v (2 * n) = BRF (fun t => ok (2 * t)) (fun t => sz (2 * t)) (fun t => v (2 * t)) n
  | 0, _ => rfl
  | n + 1, h => by
    have e : 2 * (n + 1) = 2 * n + 1 + 1 := by omega
    rw [e, BRF, bri_n (Or.inl (fun q => by have := h _ q; omega)), BRF, BRF, brf_even n h]
/-- the subsets of h in their order -/
theorem brf_sub {h : Nat} (hh : h < 2 ^ 24) (hs : ∀ k, ok k → k &&& h = k ∧ k < 2 ^ 24) : ∀ t : Nat, t < 2 ^ CB h 24 → BRF ok sz v (PD 24 h t) = BRF (fun t => ok (PD 24 h t)) (fun t => sz (PD 24 h t)) (fun t => v (PD 24 h t)) t
  | 0, _ => by rw [pd_0]; rfl
  | t + 1, ht => by
    have ih := brf_sub hh hs t (by omega)
    have hm := pd_mono 24 h t (t + 1) (by omega) ht
    rw [brf_gap (PD 24 h (t + 1)) (PD 24 h t + 1) (by omega) (fun k h1 h2 q => by
      obtain ⟨q1, q2⟩ := hs k q
      obtain ⟨t', t1, t2⟩ := pd_surj 24 h k q2 q1
      rcases Nat.lt_or_ge t' (t + 1) with z | z
      · rcases Nat.lt_or_ge t' t with y | y
        · have := pd_mono 24 h t' t y (by omega)
          omega
        · rw [show t' = t by omega] at t2; omega
      · rcases Nat.lt_or_ge (t + 1) t' with y | y
        · have := pd_mono 24 h (t + 1) t' y t1
          omega
        · rw [show t' = t + 1 by omega] at t2; omega), BRF, BRF, ih]
theorem brf_all {h N : Nat} (hh : h < 2 ^ 24) (hs : ∀ k, ok k → k &&& h = k ∧ k < 2 ^ 24) (hN : h < N) : BRF ok sz v N = BRF (fun t => ok (PD 24 h t)) (fun t => sz (PD 24 h t)) (fun t => v (PD 24 h t)) (2 ^ CB h 24) := by
  have hc : 0 < 2 ^ CB h 24 := Nat.pow_pos (by decide)
  obtain ⟨c, hc2⟩ : ∃ c, 2 ^ CB h 24 = c + 1 := ⟨2 ^ CB h 24 - 1, by omega⟩
  have hf := pd_full 24 h hh
  rw [hc2, Nat.add_sub_cancel] at hf
  have h1 := brf_sub (sz := sz) (v := v) hh hs c (by omega)
  rw [hf] at h1
  rw [brf_gap N (h + 1) (by omega) (fun k h2 h3 q => by
    have e : k &&& h ≤ h := Nat.and_le_right
    rw [(hs k q).1] at e; omega), hc2]
  show BRI (ok h) (sz h) (v h) (BRF ok sz v h) = BRI (ok (PD 24 h c)) (sz (PD 24 h c)) (v (PD 24 h c)) _
  rw [hf, h1]
end BRK
section BKST
variable {ok : Prop} {sz : Nat} {v w : Int} {p : BRS} {b f r s z r' : Int32}
/-- the class's best set, its size, how many are as few; the reference's -/
def BKS (b f r : Int32) (p : BRS) : Prop := (b.toInt = -9 ∧ f.toInt = 20 ∧ p = (-9, 25, 0)) ∨ (0 ≤ b.toInt ∧ p = (b.toInt, f.toInt.toNat, r.toInt.toNat) ∧ 0 ≤ f.toInt ∧ 1 ≤ r.toInt)
def RKS (b r : Int32) (p : BRS) : Prop := (b.toInt = -9 ∧ p = (-9, 25, 0)) ∨ (0 ≤ b.toInt ∧ p = (b.toInt, CB (tN b) 32, r.toInt.toNat) ∧ 1 ≤ r.toInt)
def BKR (p : BRS) (w : Int) (r : Int) : Prop := (p.1 = -9 ∧ r = -9) ∨ (0 ≤ p.1 ∧ (w = 0 → r = (p.2.1 : Int)) ∧ (w = 1 → r = (p.2.2 : Int)) ∧ (w = 2 → r = p.1))
theorem bks_l (hb : BKS b f r p) (h1 : z.toInt = (sz : Int)) (h2 : z.toInt < f.toInt) (h20 : sz < 20) (hok : ok) (hv : v = s.toInt) (h0 : 0 ≤ s.toInt) (hr : r'.toInt = 1) : BKS s z r' (BRI ok sz v p) := by
  have hlt : sz < p.2.1 := by
    rcases hb with ⟨-, -, e⟩ | ⟨-, e, -⟩
    · rw [e]; show sz < 25; omega
    · rw [e]; show sz < f.toInt.toNat; omega
  rw [bri_l hok hlt, hv]
  refine Or.inr ⟨h0, ?_, by omega, by omega⟩
  rw [show sz = z.toInt.toNat by omega, show 1 = r'.toInt.toNat by omega]
theorem bks_e (hb : BKS b f r p) (h1 : z.toInt = (sz : Int)) (h2 : z.toInt = f.toInt) (h20 : sz < 20) (hok : ok) (hr : r'.toInt = r.toInt + 1) : BKS b z r' (BRI ok sz v p) := by
  rcases hb with ⟨-, e2, e⟩ | ⟨q, e, q1, q2⟩
  · omega
  · rw [bri_e hok (by rw [e]; show sz = f.toInt.toNat; omega), e]
    refine Or.inr ⟨q, ?_, by omega, by omega⟩
    show (b.toInt, f.toInt.toNat, r.toInt.toNat + 1) = _
    rw [show f.toInt.toNat = z.toInt.toNat by omega, show r.toInt.toNat + 1 = r'.toInt.toNat by omega]
theorem bks_n (hb : BKS b f r p) (h1 : z.toInt = (sz : Int)) (h20 : sz < 20) (hn : ¬ ok ∨ f.toInt < z.toInt) : BKS b f r (BRI ok sz v p) := by
  rw [bri_n (hn.imp id (fun y => by
    rcases hb with ⟨-, e2, e⟩ | ⟨-, e, q1, -⟩
    · omega
    · rw [e]; show f.toInt.toNat < sz; omega))]
  exact hb
theorem bks_r (hb : BKS b f r p) (h0 : b.toInt = -9 → w = -9) (h1 : ¬ b.toInt = -9 → (v = 0 → w = f.toInt) ∧ (v = 1 → w = r.toInt) ∧ (v = 2 → w = b.toInt)) : BKR p v w := by
  rcases hb with ⟨q, -, e⟩ | ⟨q, e, q1, q2⟩
  · exact Or.inl ⟨by rw [e], h0 q⟩
  · obtain ⟨a0, a1, a2⟩ := h1 (by omega)
    rw [e]
    refine Or.inr ⟨q, fun y => ?_, fun y => ?_, fun y => a2 y⟩
    · show w = ((f.toInt.toNat : Nat) : Int); rw [a0 y]; omega
    · show w = ((r.toInt.toNat : Nat) : Int); rw [a1 y]; omega
theorem rks_l (hb : RKS b r p) (h1 : sz = CB (tN s) 32) (h25 : sz < 25) (h2 : b.toInt < 0 ∨ (CB (tN s) 32 : Int) < CB (tN b) 32) (hok : ok) (hv : v = s.toInt) (h0 : 0 ≤ s.toInt) (hr : r'.toInt = 1) : RKS s r' (BRI ok sz v p) := by
  have hlt : sz < p.2.1 := by
    rcases hb with ⟨-, e⟩ | ⟨q, e, -⟩
    · rw [e]; exact h25
    · rw [e]; show sz < CB (tN b) 32; omega
  rw [bri_l hok hlt, hv]
  refine Or.inr ⟨h0, ?_, by omega⟩
  rw [h1, show 1 = r'.toInt.toNat by omega]
theorem rks_e (hb : RKS b r p) (h1 : sz = CB (tN s) 32) (h2 : 0 ≤ b.toInt) (h3 : (CB (tN s) 32 : Int) = CB (tN b) 32) (hok : ok) (hr : r'.toInt = r.toInt + 1) : RKS b r' (BRI ok sz v p) := by
  rcases hb with ⟨q, -⟩ | ⟨q, e, q1⟩
  · omega
  · rw [bri_e hok (by rw [e]; show sz = CB (tN b) 32; omega), e]
    refine Or.inr ⟨q, ?_, by omega⟩
    show (b.toInt, CB (tN b) 32, r.toInt.toNat + 1) = _
    rw [show r.toInt.toNat + 1 = r'.toInt.toNat by omega]
theorem rks_n (hb : RKS b r p) (h1 : sz = CB (tN s) 32) (hn : ¬ ok ∨ (0 ≤ b.toInt ∧ (CB (tN b) 32 : Int) < CB (tN s) 32)) : RKS b r (BRI ok sz v p) := by
  rw [bri_n (hn.imp id (fun y => by
    rcases hb with ⟨q, -⟩ | ⟨-, e, -⟩
    · omega
    · rw [e]; show CB (tN b) 32 < sz; omega))]
  exact hb
theorem rks_r (hb : RKS b r p) (h0 : b.toInt < 0 → w = -9) (h1 : 0 ≤ b.toInt → (v = 0 → w = (CB (tN b) 32 : Int)) ∧ (v = 1 → w = r.toInt) ∧ (v = 2 → w = b.toInt)) : BKR p v w := by
  rcases hb with ⟨q, e⟩ | ⟨q, e, q2⟩
  · exact Or.inl ⟨by rw [e], h0 (by omega)⟩
  · obtain ⟨a0, a1, a2⟩ := h1 q
    rw [e]
    refine Or.inr ⟨q, fun y => a0 y, fun y => ?_, fun y => a2 y⟩
    show w = ((r.toInt.toNat : Nat) : Int); rw [a1 y]; omega
theorem bkr_det {w' : Int} (h : BKR p v w) (h2 : BKR p v w') (hv : v = 0 ∨ v = 1 ∨ v = 2) : w = w' := by
  rcases h with ⟨a1, a2⟩ | ⟨a1, a2, a3, a4⟩ <;> rcases h2 with ⟨b1, b2⟩ | ⟨b1, b2, b3, b4⟩
  · omega
  · omega
  · omega
  · rcases hv with q | q | q
    · rw [a2 q, b2 q]
    · rw [a3 q, b3 q]
    · rw [a4 q, b4 q]
end BKST
/-- the nodes on the way from a node to the house -/
def WAY (on : Nat → Int32) : Nat → Nat → Nat → Prop
  | 0, _, _ => False
  | f + 1, k, i => 1 ≤ k ∧ (i = k ∨ WAY on f (on k).toNatClampNeg i)
section WAYS
variable {on on' : Nat → Int32} {n : Int} {i : Nat}
theorem way_f (hon : ∀ k : Nat, 1 ≤ k → (k : Int) < n → 0 ≤ (on k).toInt ∧ (on k).toInt < k) : ∀ (f g k : Nat), k < f → k < g → (k : Int) < n → (WAY on f k i ↔ WAY on g k i)
  | 0, _, k, h, _, _ => by omega
  | _ + 1, 0, k, _, h, _ => by omega
  | f + 1, g + 1, k, h1, h2, hk => by
    show (1 ≤ k ∧ (i = k ∨ WAY on f (on k).toNatClampNeg i)) ↔ (1 ≤ k ∧ (i = k ∨ WAY on g (on k).toNatClampNeg i))
    by_cases e : 1 ≤ k
    · obtain ⟨o1, o2⟩ := hon k e hk
      have h8 := tcl (on k)
      rw [way_f hon f g (on k).toNatClampNeg (by omega) (by omega) (by omega)]
    · exact ⟨fun q => absurd q.1 e, fun q => absurd q.1 e⟩
theorem way_1 (hon : ∀ k : Nat, 1 ≤ k → (k : Int) < n → 0 ≤ (on k).toInt ∧ (on k).toInt < k) (hn : n ≤ 20) {k : Nat} (h1 : 1 ≤ k) (hk : (k : Int) < n) : WAY on 20 k i ↔ i = k ∨ WAY on 20 (on k).toNatClampNeg i := by
  obtain ⟨o1, o2⟩ := hon k h1 hk
  have h8 := tcl (on k)
  show (1 ≤ k ∧ (i = k ∨ WAY on 19 (on k).toNatClampNeg i)) ↔ _
  rw [way_f hon 19 20 (on k).toNatClampNeg (by omega) (by omega) (by omega)]
  exact ⟨fun q => q.2, fun q => ⟨h1, q⟩⟩
theorem way_0 {f : Nat} : ¬ WAY on f 0 i := fun q => by
  cases f with
  | zero => exact q
  | succ f => exact absurd q.1 (by decide)
theorem way_c (hon : ∀ k : Nat, 1 ≤ k → (k : Int) < n → 0 ≤ (on k).toInt ∧ (on k).toInt < k) (he : ∀ k : Nat, (k : Int) < n → on' k = on k) : ∀ (f k : Nat), (k : Int) < n → (WAY on' f k i ↔ WAY on f k i)
  | 0, _, _ => Iff.rfl
  | f + 1, k, hk => by
    show (1 ≤ k ∧ (i = k ∨ WAY on' f (on' k).toNatClampNeg i)) ↔ (1 ≤ k ∧ (i = k ∨ WAY on f (on k).toNatClampNeg i))
    by_cases e : 1 ≤ k
    · obtain ⟨o1, o2⟩ := hon k e hk
      have h8 := tcl (on k)
      rw [he k hk, way_c hon he f _ (by omega)]
    · exact ⟨fun q => absurd q.1 e, fun q => absurd q.1 e⟩
end WAYS
theorem ib_and (a b : Int32) (i : Nat) : IB (a &&& b) i = (IB a i && IB b i) := BitVec.getLsbD_and
theorem ib_or (a b : Int32) (i : Nat) : IB (a ||| b) i = (IB a i || IB b i) := BitVec.getLsbD_or
theorem ib_not (a : Int32) {i : Nat} (h : i < 32) : IB (a ^^^ (-1)) i = !IB a i := by
  show (a.toBitVec ^^^ (-1 : Int32).toBitVec).getLsbD i = _
  rw [BitVec.getLsbD_xor]
  have e : (-1 : Int32).toBitVec = BitVec.allOnes 32 := by decide
  rw [e, BitVec.getLsbD_allOnes]
  simp [h]
theorem ib_0 (i : Nat) : IB 0 i = false := BitVec.getLsbD_zero
theorem ib_ne {a b : Int32} : ¬ (a &&& b).toInt = 0 ↔ ∃ i : Nat, i < 32 ∧ IB a i = true ∧ IB b i = true := by
  have e0 : (a &&& b).toInt = 0 ↔ (a &&& b) = 0 := ⟨fun q => ext_i (q.trans (by decide)), fun q => by rw [q]; decide⟩
  rw [e0]
  constructor
  · intro q
    refine Decidable.of_not_not (fun z => q (Int32.toBitVec_inj.mp ?_)) |> fun h => h
    apply BitVec.eq_of_getLsbD_eq
    intro i hi
    have e1 : IB (a &&& b) i = false := by
      rw [ib_and]
      cases q1 : IB a i with
      | false => rfl
      | true =>
        cases q2 : IB b i with
        | false => rfl
        | true => exact absurd ⟨i, hi, q1, q2⟩ z
    exact e1.trans (ib_0 i).symm
  · rintro ⟨i, h1, h2, h3⟩ q
    have e1 : IB (a &&& b) i = false := by rw [q]; exact ib_0 i
    rw [ib_and, h2, h3] at e1
    cases e1
theorem ib_shl_ : ∀ k, k < 12 → ∀ i, i < 32 → IB ((1 : Int32) <<< (Int32.ofNat k &&& 31)) i = decide (i = k) := by decide +kernel
theorem ib_shl {m x : Int32} (h0 : 0 ≤ m.toInt) (h1 : m.toInt < 12) (e : x = (1 : Int32) <<< (m &&& 31)) {i : Nat} (hi : i < 32) : IB x i = true ↔ i = m.toInt.toNat := by
  have h2 := ib_shl_ m.toInt.toNat (by omega) i hi
  rw [← i_ofn h0] at h2
  rw [e, h2]; exact decide_eq_true_iff
theorem tN_ib {a b : Int32} (h : ∀ i : Nat, i < 32 → (IB a i = true → IB b i = true)) : tN a &&& tN b = tN a := by
  rw [← tN_and]
  have e : a &&& b = a := Int32.toBitVec_inj.mp (BitVec.eq_of_getLsbD_eq (fun i hi => by
    have h1 : IB (a &&& b) i = IB a i := by
      rw [ib_and]
      cases q : IB a i with
      | false => rfl
      | true => rw [h i hi q]; rfl
    exact h1))
  rw [e]
theorem tN_top {a : Int32} {n : Nat} (hn : n ≤ 32) (h : ∀ i : Nat, n ≤ i → i < 32 → ¬ IB a i = true) : tN a < 2 ^ n := by
  apply Nat.lt_pow_two_of_testBit
  intro i hi
  by_cases q : i < 32
  · have h1 : IB a i = (tN a).testBit i := rfl
    have h2 := h i hi q
    rw [h1] at h2
    exact Bool.eq_false_iff.mpr h2
  · exact Nat.testBit_lt_two_pow (Nat.lt_of_lt_of_le (tN_lt a) (Nat.pow_le_pow_right (by decide) (by omega)))
theorem cb_11 {x : Nat} (h : x < 2 ^ 12) (h0 : x % 2 = 0) : CB x 24 ≤ 11 := by
  rw [cb_pow h 24 (by decide), cb_2]
  have e : CB (x / 2) 11 = CNT (fun k => (x / 2).testBit k = true) 11 := cb_cnt (fun _ _ => Iff.rfl)
  have := cnt_le (p := fun k => (x / 2).testBit k = true) (n := 11)
  omega
theorem tN_even {a : Int32} (h : ¬ IB a 0 = true) : tN a % 2 = 0 := by
  have h1 : IB a 0 = (tN a).testBit 0 := rfl
  rw [h1, Nat.testBit_zero] at h
  have h2 : ¬ tN a % 2 = 1 := fun q => h (decide_eq_true q)
  omega
/-- a set goes through every complaint -/
def HIT2 (s : Int32) (cm hn : Nat → Int32) (pa : Nat → Int32) (nh : Int) : Prop := ∀ h : Nat, (h : Int) < nh → ¬ (cm h).toInt = 0 → ¬ (pa (hn h).toNatClampNeg &&& s).toInt = 0
/-- what can be broken -/
def OPN (o : Int32) (cm hn : Nat → Int32) (pa : Nat → Int32) (nh n : Int) : Prop := ∀ i : Nat, i < 32 → (IB o i = true ↔ 1 ≤ i ∧ i ≤ 11 ∧ (i : Int) < n ∧ ∀ h : Nat, (h : Int) < nh → (cm h).toInt = 0 → ¬ IB (pa (hn h).toNatClampNeg) i = true)
theorem opn_0 {o : Int32} {m : Int} (h : o.toInt = 0) (hm : m = 1) : ∀ i : Nat, i < 32 → (IB o i = true ↔ 1 ≤ i ∧ (i : Int) < m) := fun i hi => by
  have e : o = 0 := ext_i (h.trans (by decide))
  rw [e, ib_0]
  exact ⟨fun q => (by cases q), fun q => (by omega)⟩
theorem opn_1 {o o' x v : Int32} {m' : Int} (h : ∀ i : Nat, i < 32 → (IB o i = true ↔ 1 ≤ i ∧ (i : Int) < v.toInt)) (ex : x = (1 : Int32) <<< (v &&& 31)) (eo : o' = o ||| x) (h1 : 1 ≤ v.toInt) (h2 : v.toInt ≤ 11) (hm : m' = v.toInt + 1) : ∀ i : Nat, i < 32 → (IB o' i = true ↔ 1 ≤ i ∧ (i : Int) < m') := fun i hi => by
  rw [eo, ib_or, Bool.or_eq_true, h i hi, ib_shl (by omega) (by omega) ex hi]; omega
theorem opn_a {o : Int32} {cm hn pa : Nat → Int32} {m n : Int} (h : ∀ i : Nat, i < 32 → (IB o i = true ↔ 1 ≤ i ∧ (i : Int) < m)) (hm : m ≤ 12) (hmn : m ≤ n) (he : n ≤ m ∨ m = 12) {z : Int} (hz : z = 0) : OPN o cm hn pa z n := fun i hi => by
  rw [h i hi]
  exact ⟨fun q => ⟨q.1, by omega, by omega, fun j hj => by omega⟩, fun q => ⟨q.1, by omega⟩⟩
theorem opn_y {o o' : Int32} {cm hn pa : Nat → Int32} {z z' n : Int} (h : OPN o cm hn pa z n) (h0 : 0 ≤ z) (hz : z' = z + 1) (hc : ¬ (cm z.toNat).toInt = 0) (eo : o' = o &&& o) : OPN o' cm hn pa z' n := fun i hi => by
  have e : o' = o := by
    rw [eo]
    exact Int32.toBitVec_inj.mp (BitVec.and_self ..)
  rw [e, h i hi]
  refine and_congr Iff.rfl (and_congr Iff.rfl (and_congr Iff.rfl ⟨fun q j hj hc2 => ?_, fun q j hj => q j (by omega)⟩))
  by_cases e2 : j = z.toNat
  · rw [e2] at hc2; exact absurd hc2 hc
  · exact q j (by omega) hc2
theorem opn_n {o o' x p : Int32} {cm hn pa : Nat → Int32} {z z' n : Int} (h : OPN o cm hn pa z n) (h0 : 0 ≤ z) (hz : z' = z + 1) (hc : (cm z.toNat).toInt = 0) (ep : p = pa (hn z.toNat).toNatClampNeg) (ex : x = p ^^^ (-1)) (eo : o' = o &&& x) : OPN o' cm hn pa z' n := fun i hi => by
  rw [eo, ib_and, Bool.and_eq_true, h i hi, ex, ib_not p hi]
  constructor
  · rintro ⟨⟨a, b, c, d⟩, e⟩
    refine ⟨a, b, c, fun j hj hc2 => ?_⟩
    by_cases e2 : j = z.toNat
    · rw [e2, ← ep]; intro q; rw [q] at e; cases e
    · exact d j (by omega) hc2
  · rintro ⟨a, b, c, d⟩
    refine ⟨⟨a, b, c, fun j hj => d j (by omega)⟩, ?_⟩
    have := d z.toNat (by omega) hc
    rw [← ep] at this
    cases q : IB p i with
    | false => rfl
    | true => exact absurd q this
theorem opn_12 {o : Int32} {cm hn pa : Nat → Int32} {nh n : Int} (h : OPN o cm hn pa nh n) : tN o < 2 ^ 12 ∧ tN o % 2 = 0 :=
  ⟨tN_top (by decide) (fun i h1 h2 q => by have := ((h i h2).mp q).2.1; omega), tN_even (fun q => by have := ((h 0 (by decide)).mp q).1; omega)⟩
theorem i_tN {a b : Int32} (h : tN a = tN b) : a = b := Int32.toBitVec_inj.mp (BitVec.eq_of_toNat_eq h)
theorem pth_n {p a y : Int32} (h : p = a ||| 0) (h2 : 11 < y.toInt) : ∀ i : Nat, i < 32 → (IB p i = true ↔ IB a i = true ∨ (y.toInt ≤ 11 ∧ i = y.toInt.toNat)) := fun i hi => by
  rw [h, ib_or, ib_0, Bool.or_false]
  exact ⟨Or.inl, fun q => q.elim id (fun z => by omega)⟩
theorem pth_y {p a x y : Int32} (h : p = a ||| x) (h2 : x = (1 : Int32) <<< (y &&& 31) ∧ 0 ≤ y.toInt ∧ y.toInt ≤ 11) (_ : 0 ≤ y.toInt) : ∀ i : Nat, i < 32 → (IB p i = true ↔ IB a i = true ∨ (y.toInt ≤ 11 ∧ i = y.toInt.toNat)) := fun i hi => by
  obtain ⟨e, h3, h4⟩ := h2
  rw [h, ib_or, Bool.or_eq_true, ib_shl h3 (by omega) e hi]
  exact ⟨fun q => q.imp id (fun z => ⟨h4, z⟩), fun q => q.imp id (fun z => z.2)⟩
def PTR (I : Nat → Nat → Nat → Int32) (E : Nat → Option Nat) (P : Nat → Nat → Nat → Option Nat) (on : Nat → Int32) (n : Int) : Prop := ∀ k : Nat, (k : Int) < n → ∀ i : Nat, i < 32 → (IB (I 6 2 (elt E P 20 k)) i = true ↔ i < 12 ∧ WAY on 20 k i)
section PTRS
variable {I I' : Nat → Nat → Nat → Int32} {E E' : Nat → Option Nat} {P P' : Nat → Nat → Nat → Option Nat} {on on' : Nat → Int32} {n n' : Int} {dy : List (Nat × Nat)}
theorem ptr_keep (h : PTR I E P on n) (hn : n' = n) (he : ∀ k : Nat, (k : Int) < n → elt E' P' 20 k = elt E P 20 k) (hI : I' 6 2 = I 6 2) (ho : on' = on) : PTR I' E' P' on' n' := by
  subst hn ho
  intro k hk i hi
  rw [he k hk, hI]; exact h k hk i hi
theorem ptr_new {G : Nat → Nat → Int32} {r a : Nat} {w z : Int32} (h : PTR I E P (G r) n) (hN : NOBJ I I' E E' P P' 20 6 n dy) (hp : ∀ j9 : Nat, (j9 : Int) = n → ∀ i : Nat, i < 32 → (IB (I' 6 2 (elt E' P' 20 j9)) i = true ↔ IB (I 6 2 (elt E P 20 a)) i = true ∨ (n ≤ 11 ∧ i = n.toNat))) (hd : ∀ k : Nat, (k : Int) < n → (6, elt E P 20 k) ∈ dy) (hn : n' = n + 1) (hz : z.toInt = (a : Int)) (ha : (a : Int) < n) (hw : n = w.toInt) (e1 : on' = up2 G r w.toNatClampNeg z r) (hon : ∀ k : Nat, 1 ≤ k → (k : Int) < n → 0 ≤ (G r k).toInt ∧ (G r k).toInt < k) (h19 : n ≤ 19) : PTR I' E' P' on' n' := by
  subst hn
  have h8 := tcl w
  have h9 := tcl z
  have hs : ∀ k : Nat, (k : Int) < n → on' k = G r k := fun k hk => by rw [e1, up2_f _ _ _ (by omega)]
  have hon' : ∀ k : Nat, 1 ≤ k → (k : Int) < n + 1 → 0 ≤ (on' k).toInt ∧ (on' k).toInt < k := fun k h1 h2 => by
    by_cases q : (k : Int) < n
    · rw [hs k q]; exact hon k h1 q
    · have ek : k = w.toNatClampNeg := by omega
      rw [e1, ek, up2_s]; omega
  intro k hk i hi
  by_cases q : (k : Int) < n
  · rw [hN.1 k q, hN.2.1 _ (hd k q) 2, h k q i hi, way_c hon hs 20 k q]
  · have ek : k = w.toNatClampNeg := by omega
    have eo : on' k = z := by rw [e1, ek, up2_s]
    rw [hp k (by omega) i hi, way_1 hon' (by omega) (show 1 ≤ k by omega) hk, eo, show z.toNatClampNeg = a by omega, h a ha i hi, way_c hon hs 20 a ha]
    constructor
    · rintro (⟨q1, q2⟩ | ⟨q1, q2⟩)
      · exact ⟨q1, Or.inr q2⟩
      · exact ⟨by omega, Or.inl (by omega)⟩
    · rintro ⟨q1, q2 | q2⟩
      · exact Or.inr ⟨by omega, by omega⟩
      · exact Or.inl ⟨q1, q2⟩
end PTRS
theorem c01_J {x x' : Nat → Int32} (h : ∀ k : Nat, (x k).toInt = 0 ∨ (x k).toInt = 1) (e : x' = x) : ∀ k : Nat, (x' k).toInt = 0 ∨ (x' k).toInt = 1 := by subst e; exact h
theorem c01_s {G : Nat → Nat → Int32} {r a : Nat} {x' : Nat → Int32} {v : Int32} (h : ∀ k : Nat, (G r k).toInt = 0 ∨ (G r k).toInt = 1) (e : x' = up2 G r a v r) (hv : v = 0 ∨ v = 1) : ∀ k : Nat, (x' k).toInt = 0 ∨ (x' k).toInt = 1 := fun k => by
  subst e
  by_cases q : k = a
  · rw [q, up2_s]; rcases hv with e | e <;> rw [e] <;> decide
  · rw [up2_f _ _ _ q]; exact h k
theorem sq_12 {h : Int32} (hh : tN h < 2 ^ 12) (t : Nat) : CB (tN (SQ h t)) 32 ≤ 12 := by
  have e : tN (SQ h t) = tN (SQ h t) &&& tN h := by rw [← tN_and, sq_sub]
  have hl : tN (SQ h t) < 2 ^ 12 := by rw [e]; exact Nat.lt_of_le_of_lt Nat.and_le_right hh
  rw [cb_pow hl 32 (by decide), cb_cnt (p := fun k => (tN (SQ h t)).testBit k = true) (fun _ _ => Iff.rfl)]
  exact cnt_le
