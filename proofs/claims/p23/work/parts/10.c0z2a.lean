theorem rsp_m {G : Nat → Nat → Int32} {r : Nat} {y0 cn cg : Nat → Int32} {s v u : Int32} {i i' n : Int} (h : RSP (G r) y0 cn cg s i n) (hu : u = cn i.toNat) (hu0 : 0 ≤ u.toInt) (h0 : 0 ≤ i) (hi : i' = i + 1) (hv : v = if IB s i.toNat = true then cg i.toNat else 0) : RSP (up2 G r u.toNatClampNeg v r) y0 cn cg s i' n := by
  have h8 := tcl u
  refine rsp_s h h0 hi (fun k hk q => ?_) (fun k hk q => ?_)
  · rw [← hu] at q
    rw [show k = u.toNatClampNeg by omega, up2_s]; exact hv
  · rw [← hu] at q
    exact up2_f _ _ _ (by omega)
theorem rsp_t {y y0 cn cg : Nat → Int32} {s : Int32} {c n : Int} (h : RSP y y0 cn cg s c n) (h0 : 0 ≤ c) (hz : ∀ k : Nat, (∀ j : Nat, (j : Int) < c → ¬ (cn j).toNatClampNeg = k) → y0 k = 0) (hc : ∀ j : Nat, (j : Int) < c → 0 ≤ (cn j).toInt) : ∀ k : Nat, (k : Int) < n → y k = EXS cn cg s c.toNat k := rsp_e h h0 (fun k _ hno => hz k (fun j hj e => hno j hj (by
  have h8 := tcl (cn j)
  have := hc j hj
  omega)))
def WBD (x : Nat → Int32) (n : Int) : Prop := ∀ k : Nat, 1 ≤ k → (k : Int) < n → 1 ≤ (x k).toInt ∧ (x k).toInt ≤ 99
theorem wbd_keep {x x' : Nat → Int32} {n n' : Int} (h : WBD x n) (hn : n' = n) (e : x' = x) : WBD x' n' := by subst hn e; exact h
theorem wbd_new {G : Nat → Nat → Int32} {r : Nat} {x' : Nat → Int32} {n n' : Int} {w v : Int32} (h : WBD (G r) n) (hn : n' = n + 1) (hw : n = w.toInt) (h0 : 0 ≤ n) (e : x' = up2 G r w.toNatClampNeg v r) (hv : 1 ≤ v.toInt ∧ v.toInt ≤ 99) : WBD x' n' := fun k h1 h2 => by
  subst e hn
  have h8 := tcl w
  by_cases q : k = w.toNatClampNeg
  · rw [q, up2_s]; exact hv
  · rw [up2_f _ _ _ q]; exact h k h1 (by omega)
def BBD (x : Nat → Int32) : Prop := ∀ k : Nat, 0 ≤ (x k).toInt ∧ (x k).toInt ≤ 99
theorem bbd_keep {x x' : Nat → Int32} (h : BBD x) (e : x' = x) : BBD x' := by subst e; exact h
theorem bbd_set {G : Nat → Nat → Int32} {r a : Nat} {x' : Nat → Int32} {v : Int32} (h : BBD (G r)) (e : x' = up2 G r a v r) (hv : 0 ≤ v.toInt ∧ v.toInt ≤ 99) : BBD x' := fun k => by
  subst e
  by_cases q : k = a
  · rw [q, up2_s]; exact hv
  · rw [up2_f _ _ _ q]; exact h k
theorem web_e {a b : Int32} (h : b = a) (h2 : 0 ≤ a.toInt ∧ a.toInt ≤ 20) : 0 ≤ b.toInt ∧ b.toInt ≤ 20 := by subst h; exact h2
