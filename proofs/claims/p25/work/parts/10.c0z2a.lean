theorem rsp_m {G : Nat → Nat → Int32} {r : Nat} {y0 cn cg : Nat → Int32} {s v u : Int32} {i i' n : Int} (h : RSP (G r) y0 cn cg s i n) (hu : u = cn i.toNat) (hu0 : 0 ≤ u.toInt) (h0 : 0 ≤ i) (hi : i' = i + 1) (hv : v = if IB s i.toNat = true then cg i.toNat else 0) : RSP (up2 G r u.toNatClampNeg v r) y0 cn cg s i' n := by
  have h8 := tcl u
  refine rsp_s h h0 hi (fun k hk q => ?_) (fun k hk q => ?_)
  · rw [← hu] at q
    rw [show k = u.toNatClampNeg by omega, up2_s]; exact hv
  · rw [← hu] at q
    exact up2_f _ _ _ (by omega)
theorem rsp_t {y y0 cn cg : Nat → Int32} {s : Int32} {c n : Int} (h : RSP y y0 cn cg s c n) (h0 : 0 ≤ c) (hz : ∀ k : Nat, (∀ j : Nat, (j : Int) < c → ¬ (cn j).toNatClampNeg = k) → y0 k = 0) (hc : ∀ j : Nat, (j : Int) < c → 0 ≤ (cn j).toInt) : ∀ k : Nat, (k : Int) < n → y k = EXS cn cg s c.toNat k := rsp_e h h0 (fun k _ hno => hz k (fun j hj e => hno j hj (by
  have h8 := tcl (cn j)
  have := hc j hj
  omega)))
theorem bo_eq {on wi wi' bo bo' ea hn cn cg : Nat → Int32} {cut cut' : Nat → Prop} {v w w' le le' : Int32} {n n' nh nh' : Int} {c : Nat} {r r' : Int} (hc : c ≤ 9) (hnn : n = n') (hhh : nh = nh') (hon : ∀ k : Nat, 1 ≤ k → (k : Int) < n → (on k).toInt < k) (hw : ∀ k : Nat, (k : Int) < n → wi k = wi' k) (hb : ∀ k : Nat, (k : Int) < n → bo k = bo' k) (hcut : ∀ k : Nat, 1 ≤ k → (k : Int) < n → (cut k ↔ cut' k)) (ew : w = w') (hl : 1 ≤ le.toInt ∧ le.toInt ≤ 99) (el : le = le') (hm : ∀ j : Nat, (j : Int) < nh → 0 ≤ (hn j).toInt ∧ (hn j).toInt < n ∧ 1 ≤ (ea j).toInt ∧ (ea j).toInt ≤ 9) (hv : 1 ≤ v.toInt ∧ v.toInt ≤ 999) (hwb : ∀ k : Nat, 1 ≤ k → (k : Int) < n' → 1 ≤ (wi' k).toInt ∧ (wi' k).toInt ≤ 99) (hbb : ∀ k : Nat, 0 ≤ (bo' k).toInt ∧ (bo' k).toInt ≤ 99) (hww : 0 ≤ w'.toInt ∧ w'.toInt ≤ 20) (hg : ∀ j : Nat, j < c → 1 ≤ (cg j).toInt ∧ (cg j).toInt ≤ 99)
    (hA : ∃ x : Nat → Int32, SND x on wi bo (EXS cn cg (Int32.ofNat (2 ^ c - 1)) c) cut v w n ∧ ((¬ HALC x ea hn le nh ∧ r = -9) ∨ (HALC x ea hn le nh ∧ r = (BSF (fun t => ∃ x : Nat → Int32, SND x on wi bo (EXS cn cg (Int32.ofNat t) c) cut v w n ∧ HALC x ea hn le nh) (fun t => CB t 32) (fun t => (t : Int)) (2 ^ c)).1)))
    (hB : r' = (BSF (fun t => ∃ y : Nat → Int32, SND y on wi' bo' (EXS cn cg (Int32.ofNat t) c) cut' v w' n' ∧ HALM y ea hn le' nh') (fun t => CB t 32) (fun t => (t : Int)) (2 ^ c)).1) : r = r' := by
  subst hnn hhh ew el
  have cv1 : ∀ (s : Int32) (x : Nat → Int32), SND x on wi bo (EXS cn cg s c) cut v w n → SND x on wi' bo' (EXS cn cg s c) cut' v w n := fun s x h k hk => by
    obtain ⟨a1, a2⟩ := h k hk
    refine ⟨a1, fun q => ⟨fun z => (a2 q).1 ((hcut k q hk).mpr z), fun z => ?_⟩⟩
    rw [← hw k hk, ← hb k hk]; exact (a2 q).2 (fun y => z ((hcut k q hk).mp y))
  have cv2 : ∀ (s : Int32) (x : Nat → Int32), SND x on wi' bo' (EXS cn cg s c) cut' v w n → SND x on wi bo (EXS cn cg s c) cut v w n := fun s x h k hk => by
    obtain ⟨a1, a2⟩ := h k hk
    refine ⟨a1, fun q => ⟨fun z => (a2 q).1 ((hcut k q hk).mp z), fun z => ?_⟩⟩
    rw [hw k hk, hb k hk]; exact (a2 q).2 (fun y => z ((hcut k q hk).mpr y))
  have hal : ∀ x : Nat → Int32, HALC x ea hn le nh ↔ HALM x ea hn le nh := fun x => by
    constructor
    · intro h j hj
      obtain ⟨-, -, m3, m4⟩ := hm j hj
      exact (div_ge rfl rfl hl.1 hl.2 m3 m4).mpr (h j hj)
    · intro h j hj
      obtain ⟨-, -, m3, m4⟩ := hm j hj
      exact (div_ge rfl rfl hl.1 hl.2 m3 m4).mp (h j hj)
  obtain ⟨x, h1, ⟨h2, h3⟩ | ⟨h2, h3⟩⟩ := hA
  · rw [h3, hB, bsf_none _ (fun t ht hok => ?_)]
    obtain ⟨y, y1, y2⟩ := hok
    refine h2 (fun j hj => ?_)
    obtain ⟨m1, m2, m3, m4⟩ := hm j hj
    have h8 := tcl (hn j)
    have q1 := (div_ge (z := le * ea j) rfl rfl hl.1 hl.2 m3 m4).mp (y2 j hj)
    have q2 := snd_mono y1 (cv1 _ _ h1) hon hv hwb (fun k _ => hbb k) (fun k _ => exs_le c hg (fun j hj => ib_all hc hj)) hww (hn j).toNatClampNeg (by omega)
    omega
  · have e : BSF (fun t => ∃ x : Nat → Int32, SND x on wi bo (EXS cn cg (Int32.ofNat t) c) cut v w n ∧ HALC x ea hn le nh) (fun t => CB t 32) (fun t => (t : Int)) (2 ^ c) = BSF (fun t => ∃ y : Nat → Int32, SND y on wi' bo' (EXS cn cg (Int32.ofNat t) c) cut' v w n ∧ HALM y ea hn le nh) (fun t => CB t 32) (fun t => (t : Int)) (2 ^ c) := bsf_c (fun t _ => ⟨fun ⟨x, s1, s2⟩ => ⟨x, cv1 _ _ s1, (hal x).mp s2⟩, fun ⟨x, s1, s2⟩ => ⟨x, cv2 _ _ s1, (hal x).mpr s2⟩⟩)
    rw [h3, hB, e]
def WBD (x : Nat → Int32) (n : Int) : Prop := ∀ k : Nat, 1 ≤ k → (k : Int) < n → 1 ≤ (x k).toInt ∧ (x k).toInt ≤ 99
theorem wbd_keep {x x' : Nat → Int32} {n n' : Int} (h : WBD x n) (hn : n' = n) (e : x' = x) : WBD x' n' := by subst hn e; exact h
theorem wbd_new {G : Nat → Nat → Int32} {r : Nat} {x' : Nat → Int32} {n n' : Int} {w v : Int32} (h : WBD (G r) n) (hn : n' = n + 1) (hw : n = w.toInt) (h0 : 0 ≤ n) (e : x' = up2 G r w.toNatClampNeg v r) (hv : 1 ≤ v.toInt ∧ v.toInt ≤ 99) : WBD x' n' := fun k h1 h2 => by
  subst e hn
  have h8 := tcl w
  by_cases q : k = w.toNatClampNeg
  · rw [q, up2_s]; exact hv
  · rw [up2_f _ _ _ q]; exact h k h1 (by omega)
def BBD (x : Nat → Int32) : Prop := ∀ k : Nat, 0 ≤ (x k).toInt ∧ (x k).toInt ≤ 99
theorem bbd_keep {x x' : Nat → Int32} (h : BBD x) (e : x' = x) : BBD x' := by subst e; exact h
theorem bbd_set {G : Nat → Nat → Int32} {r a : Nat} {x' : Nat → Int32} {v : Int32} (h : BBD (G r)) (e : x' = up2 G r a v r) (hv : 0 ≤ v.toInt ∧ v.toInt ≤ 99) : BBD x' := fun k => by
  subst e
  by_cases q : k = a
  · rw [q, up2_s]; exact hv
  · rw [up2_f _ _ _ q]; exact h k
theorem web_e {a b : Int32} (h : b = a) (h2 : 0 ≤ a.toInt ∧ a.toInt ≤ 20) : 0 ≤ b.toInt ∧ b.toInt ≤ 20 := by subst h; exact h2
