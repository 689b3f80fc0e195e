/-- the same by the reference -/
def LSM (kd : Int32) (su ma : Nat → Int32) (m : Int) (le : Int32) (ea hn y y2 : Nat → Int32) (h : Nat) : Prop := 0 < HFM kd su ma m le ea hn y h ∧ le.toInt ≤ (y2 (hn h).toNatClampNeg / ea h).toInt
theorem rowp_s {G : Nat → Nat → Int32} {r i : Nat} {z : Nat → Int32} {v : Int32} {p : Nat → Prop} {n n' : Int} (h : ∀ k : Nat, (k : Int) < n → (¬ (G r k).toInt = 0 ↔ p k)) (hz : z = up2 G r i v r) (hi : (i : Int) = n) (hn : n' = n + 1) (hv : ¬ v.toInt = 0 ↔ p i) : ∀ k : Nat, (k : Int) < n' → (¬ (z k).toInt = 0 ↔ p k) := fun k hk => by
  subst hz
  by_cases e : k = i
  · subst e; rw [up2_s]; exact hv
  · rw [up2_f _ _ _ e]; exact h k (by omega)
theorem hm_no {v : Int32} {x : Int} (hv : v.toInt = 0) (hx : (0 : Int) = x) : ¬ v.toInt = 0 ↔ 0 < x := by omega
theorem hm_no2 {v : Int32} {x r : Int} (hv : v.toInt = 0) (hx : r = x) (hr : r ≤ 0) : ¬ v.toInt = 0 ↔ 0 < x := by omega
theorem hm_yes {v : Int32} {x r : Int} (hv : v.toInt = 1) (hx : r = x) (hr : 0 < r) : ¬ v.toInt = 0 ↔ 0 < x := by omega
theorem cn_y {p : Nat → Prop} {s v i i' : Int} (h : s = ((CNT p i.toNat : Nat) : Int)) (h0 : 0 ≤ i) (e : i' = i + 1) (hp : p i.toNat) (hv : v = s + 1) : v = ((CNT p i'.toNat : Nat) : Int) := by
  subst e
  have e2 : (i + 1).toNat = i.toNat + 1 := by omega
  rw [e2, cnt_y hp, hv, h]; omega
theorem cn_n {p : Nat → Prop} {s v i i' : Int} (h : s = ((CNT p i.toNat : Nat) : Int)) (h0 : 0 ≤ i) (e : i' = i + 1) (hp : ¬ p i.toNat) (hv : v = s) : v = ((CNT p i'.toNat : Nat) : Int) := by
  subst e
  have e2 : (i + 1).toNat = i.toNat + 1 := by omega
  rw [e2, cnt_n hp, hv, h]
theorem hit_and {a b : Int32} (h0 : 0 ≤ b.toInt) (h1 : b.toInt ≤ 16777215) : HIT a b ↔ ¬ (a &&& b).toInt = 0 := by
  have e0 : (a &&& b).toInt = 0 ↔ (a &&& b).toBitVec = 0#32 := ⟨fun q => congrArg Int32.toBitVec (ext_i (q.trans (by decide) : (a &&& b).toInt = (0 : Int32).toInt)), fun q => by rw [show a &&& b = 0 from Int32.toBitVec_inj.mp q]; decide⟩
  have eb : ∀ k, (a &&& b).toBitVec.getLsbD k = (IB a k && IB b k) := fun k => BitVec.getLsbD_and
  rw [e0]
  constructor
  · rintro ⟨k, h2, h3, h4⟩ q
    have h5 := eb k
    rw [q, h3, h4] at h5
    simp at h5
  · intro q
    refine Classical.byContradiction (fun z => q ?_)
    apply BitVec.eq_of_getLsbD_eq
    intro k hk
    rw [eb k, BitVec.getLsbD_zero]
    cases q1 : IB b k with
    | false => simp
    | true =>
      cases q2 : IB a k with
      | false => rfl
      | true =>
        exfalso
        refine z ⟨k, ?_, q1, q2⟩
        refine Nat.lt_of_not_le (fun y => ?_)
        have h2 := tN_i h0
        have h3 : tN b < 2 ^ k := Nat.lt_of_lt_of_le (show tN b < 2 ^ 24 by omega) (Nat.pow_le_pow_right (by decide) y)
        have h4 : (tN b).testBit k = false := Nat.testBit_lt_two_pow h3
        rw [show IB b k = (tN b).testBit k from rfl, h4] at q1
        cases q1
theorem cov_eq {kd le le' : Int32} {su ma ea hn x y x2 y2 : Nat → Int32} {m m' n nn : Int} (hl : 1 ≤ le.toInt ∧ le.toInt ≤ 99) (e : le = le') (em : m = m') (hb : ∀ j : Nat, (j : Int) < n → 0 ≤ (hn j).toInt ∧ (hn j).toInt < nn ∧ 1 ≤ (ea j).toInt ∧ (ea j).toInt ≤ 9) (h : ¬ kd.toInt = 6 → ∀ k : Nat, (k : Int) < nn → x k = y k) (h2 : ∀ k : Nat, (k : Int) < nn → x2 k = y2 k) : ∀ j : Nat, j < n.toNat → (LSP kd su ma m le ea hn x x2 j ↔ LSM kd su ma m' le' ea hn y y2 j) := by
  intro j hj
  obtain ⟨h3, h4, h5, h6⟩ := hb j (by omega)
  have h8 := tcl (hn j)
  have e1 : 0 < HF kd su ma m le ea hn x j ↔ 0 < HFM kd su ma m' le' ea hn y j := by
    by_cases q : kd.toInt = 6
    · have a1 : 0 = HF kd su ma m le ea hn x j := hwv_0 (Or.inl q) rfl
      have a2 : 0 = HFM kd su ma m' le' ea hn y j := hwv_0 (Or.inl q) rfl
      omega
    · rw [cnt_eq hl e em hb (h q) j hj]
  subst e
  unfold LSP LSM
  rw [e1, h2 _ (show ((hn j).toNatClampNeg : Int) < nn by omega)]
  exact and_congr Iff.rfl (div_ge rfl rfl hl.1 hl.2 h5 h6).symm
