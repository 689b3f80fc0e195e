/-- the same by the reference -/
def LSM (kd : Int32) (su ma : Nat → Int32) (m : Int) (le : Int32) (ea hn y y2 : Nat → Int32) (h : Nat) : Prop := 0 < HFM kd su ma m le ea hn y h ∧ le.toInt ≤ (y2 (hn h).toNatClampNeg / ea h).toInt
theorem rowp_s {G : Nat → Nat → Int32} {r i : Nat} {z : Nat → Int32} {v : Int32} {p : Nat → Prop} {n n' : Int} (h : ∀ k : Nat, (k : Int) < n → (¬ (G r k).toInt = 0 ↔ p k)) (hz : z = up2 G r i v r) (hi : (i : Int) = n) (hn : n' = n + 1) (hv : ¬ v.toInt = 0 ↔ p i) : ∀ k : Nat, (k : Int) < n' → (¬ (z k).toInt = 0 ↔ p k) := fun k hk => by
  subst hz
  by_cases e : k = i
  · subst e; rw [up2_s]; exact hv
  · rw [up2_f _ _ _ e]; exact h k (by omega)
theorem hm_no {v : Int32} {x : Int} (hv : v.toInt = 0) (hx : (0 : Int) = x) : ¬ v.toInt = 0 ↔ 0 < x := by omega
theorem hm_no2 {v : Int32} {x r : Int} (hv : v.toInt = 0) (hx : r = x) (hr : r ≤ 0) : ¬ v.toInt = 0 ↔ 0 < x := by omega
theorem hm_yes {v : Int32} {x r : Int} (hv : v.toInt = 1) (hx : r = x) (hr : 0 < r) : ¬ v.toInt = 0 ↔ 0 < x := by omega
theorem cn_y {p : Nat → Prop} {s v i i' : Int} (h : s = ((CNT p i.toNat : Nat) : Int)) (h0 : 0 ≤ i) (e : i' = i + 1) (hp : p i.toNat) (hv : v = s + 1) : v = ((CNT p i'.toNat : Nat) : Int) := by
  subst e
  have e2 : (i + 1).toNat = i.toNat + 1 := by omega
  rw [e2, cnt_y hp, hv, h]; omega
theorem cn_n {p : Nat → Prop} {s v i i' : Int} (h : s = ((CNT p i.toNat : Nat) : Int)) (h0 : 0 ≤ i) (e : i' = i + 1) (hp : ¬ p i.toNat) (hv : v = s) : v = ((CNT p i'.toNat : Nat) : Int) := by
  subst e
  have e2 : (i + 1).toNat = i.toNat + 1 := by omega
  rw [e2, cnt_n hp, hv, h]