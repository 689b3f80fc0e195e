/-! the text of a term -/
abbrev isl (c : Int) : Prop := c = 107 ∨ c = 104 ∨ c = 118 ∨ c = 115 ∨ c = 109 ∨ c = 119 ∨ c = 97 ∨ c = 110
abbrev isd (c : Int) : Prop := 48 ≤ c ∧ c ≤ 57
abbrev sgn (m : Nat) (c : Int) : Prop := (m < 2 ∧ (c = 43 ∨ c = 45)) ∨ (2 ≤ m ∧ (c = 42 ∨ c = 47))
abbrev cmc (c : Int) : Prop := c = 60 ∨ c = 61 ∨ c = 62
def pnum (nx : Nat → Int) : Nat → Nat → Int → Nat × Int
  | 0, p, v => (p, v)
  | n + 1, p, v => if isd (nx p) then pnum nx n (p + 1) (10 * v + nx p - 48) else (p, v)
def pb (x : Option (List Int) × Nat) (k : List Int → Nat → Option (List Int) × Nat) : Option (List Int) × Nat :=
  match x with
  | (none, q) => (none, q)
  | (some a, q) => k a q
/-- by fuel and mode: 0 a sum, 1 its rest, 2 a product, 3 its rest, 4 a unit; d brackets more may be opened -/
def pz (nx : Nat → Int) : Nat → Nat → Nat → Nat → Option (List Int) × Nat
  | 0, _, _, p => (none, p)
  | f + 1, m, d, p =>
    if m = 4 then
      if nx p = 40 then
        if d = 0 then (none, p) else
          pb (pz nx f 0 (d - 1) (p + 1)) (fun a q =>
            if cmc (nx q) then pb (pz nx f 0 (d - 1) (q + 1)) (fun b q' => if nx q' = 41 then (some (a ++ b ++ [-(nx q)]), q' + 1) else (none, q'))
            else if nx q = 41 then (some a, q + 1) else (none, q))
      else if isd (nx p) then (some [(pnum nx 5 p 0).2], (pnum nx 5 p 0).1)
      else if isl (nx p) then (some [-(nx p)], p + 1) else (none, p)
    else if m = 0 ∨ m = 2 then
      pb (pz nx f (m + 2) d p) (fun a q => pb (pz nx f (m + 1) d q) (fun b q' => (some (a ++ b), q')))
    else if sgn m (nx p) then pb (pz nx f (m + 1) d (p + 1)) (fun a q => pb (pz nx f m d q) (fun b q' => (some (a ++ -(nx p) :: b), q')))
    else (some [], p)
def PT (nx : Nat → Int) (m d p q : Nat) (c : List Int) : Prop := ∃ F, ∀ f, F ≤ f → pz nx f m d p = (some c, q)
def PF (nx : Nat → Int) (m d p q : Nat) : Prop := ∃ F, ∀ f, F ≤ f → pz nx f m d p = (none, q)
section PZ
variable {nx : Nat → Int} {m d p q q' : Nat} {a b c : List Int}
theorem ev_s {R : Option (List Int) × Nat} (F : Nat) (h : ∀ f, F ≤ f → pz nx (f + 1) m d p = R) : ∃ F, ∀ f, F ≤ f → pz nx f m d p = R := ⟨F + 1, fun f hf => by
  obtain ⟨k, rfl⟩ : ∃ k, f = k + 1 := ⟨f - 1, by omega⟩
  exact h k (by omega)⟩
theorem pt_det (h : PT nx m d p q a) (h2 : PT nx m d p q' b) : q = q' ∧ a = b := by
  obtain ⟨F, hF⟩ := h
  obtain ⟨G, hG⟩ := h2
  have h1 := hF (F + G) (by omega)
  rw [hG (F + G) (by omega)] at h1
  cases h1; exact ⟨rfl, rfl⟩
theorem ptf (h : PT nx m d p q a) (h2 : PF nx m d p q') : False := by
  obtain ⟨F, hF⟩ := h
  obtain ⟨G, hG⟩ := h2
  have h1 := hF (F + G) (by omega)
  rw [hG (F + G) (by omega)] at h1
  cases h1
theorem pz_su (f : Nat) (hm : m = 0 ∨ m = 2) : pz nx (f + 1) m d p = pb (pz nx f (m + 2) d p) (fun a q => pb (pz nx f (m + 1) d q) (fun b q' => (some (a ++ b), q'))) := by
  rw [pz, if_neg (by omega), if_pos hm]
theorem pz_re (f : Nat) (hm : m = 1 ∨ m = 3) (hs : sgn m (nx p)) : pz nx (f + 1) m d p = pb (pz nx f (m + 1) d (p + 1)) (fun a q => pb (pz nx f m d q) (fun b q' => (some (a ++ -(nx p) :: b), q'))) := by
  rw [pz, if_neg (by omega), if_neg (by omega), if_pos hs]
theorem su_f (hm : m = 0 ∨ m = 2) (h : PF nx (m + 2) d p q) : PF nx m d p q := by
  obtain ⟨F, hF⟩ := h
  exact ev_s F (fun f hf => by rw [pz_su f hm, hF f hf]; rfl)
theorem su_tf (hm : m = 0 ∨ m = 2) (h : PT nx (m + 2) d p q a) (h2 : PF nx (m + 1) d q q') : PF nx m d p q' := by
  obtain ⟨F, hF⟩ := h
  obtain ⟨G, hG⟩ := h2
  exact ev_s (F + G) (fun f hf => by rw [pz_su f hm, hF f (by omega)]; simp only [pb]; rw [hG f (by omega)])
theorem su_tt (hm : m = 0 ∨ m = 2) (h : PT nx (m + 2) d p q a) (h2 : PT nx (m + 1) d q q' b) : PT nx m d p q' (a ++ b) := by
  obtain ⟨F, hF⟩ := h
  obtain ⟨G, hG⟩ := h2
  exact ev_s (F + G) (fun f hf => by rw [pz_su f hm, hF f (by omega)]; simp only [pb]; rw [hG f (by omega)])
theorem re_e (hm : m = 1 ∨ m = 3) (hs : ¬ sgn m (nx p)) : PT nx m d p p [] := ev_s 0 (fun f _ => by
  rw [pz, if_neg (by omega), if_neg (by omega), if_neg hs])
theorem re_f (hm : m = 1 ∨ m = 3) (hs : sgn m (nx p)) (h : PF nx (m + 1) d (p + 1) q) : PF nx m d p q := by
  obtain ⟨F, hF⟩ := h
  exact ev_s F (fun f hf => by rw [pz_re f hm hs, hF f hf]; rfl)
theorem re_tf (hm : m = 1 ∨ m = 3) (hs : sgn m (nx p)) (h : PT nx (m + 1) d (p + 1) q a) (h2 : PF nx m d q q') : PF nx m d p q' := by
  obtain ⟨F, hF⟩ := h
  obtain ⟨G, hG⟩ := h2
  exact ev_s (F + G) (fun f hf => by rw [pz_re f hm hs, hF f (by omega)]; simp only [pb]; rw [hG f (by omega)])
theorem re_tt (hm : m = 1 ∨ m = 3) (hs : sgn m (nx p)) (h : PT nx (m + 1) d (p + 1) q a) (h2 : PT nx m d q q' b) : PT nx m d p q' (a ++ -(nx p) :: b) := by
  obtain ⟨F, hF⟩ := h
  obtain ⟨G, hG⟩ := h2
  exact ev_s (F + G) (fun f hf => by rw [pz_re f hm hs, hF f (by omega)]; simp only [pb]; rw [hG f (by omega)])
theorem un_n (h : isd (nx p)) : PT nx 4 d p (pnum nx 5 p 0).1 [(pnum nx 5 p 0).2] := ev_s 0 (fun f _ => by
  rw [pz, if_pos rfl, if_neg (by omega), if_pos h])
theorem un_l (h : isl (nx p)) : PT nx 4 d p (p + 1) [-(nx p)] := ev_s 0 (fun f _ => by
  rw [pz, if_pos rfl, if_neg (by omega), if_neg (by omega), if_pos h])
theorem un_x (h : ¬ nx p = 40) (h1 : ¬ isd (nx p)) (h2 : ¬ isl (nx p)) : PF nx 4 d p p := ev_s 0 (fun f _ => by
  rw [pz, if_pos rfl, if_neg h, if_neg h1, if_neg h2])
theorem un_0 (h : nx p = 40) : PF nx 4 0 p p := ev_s 0 (fun f _ => by
  rw [pz, if_pos rfl, if_pos h, if_pos rfl])
theorem pz_br (f : Nat) (h : nx p = 40) : pz nx (f + 1) 4 (d + 1) p = pb (pz nx f 0 d (p + 1)) (fun a q =>
            if cmc (nx q) then pb (pz nx f 0 d (q + 1)) (fun b q' => if nx q' = 41 then (some (a ++ b ++ [-(nx q)]), q' + 1) else (none, q'))
            else if nx q = 41 then (some a, q + 1) else (none, q)) := by
  rw [pz, if_pos rfl, if_pos h, if_neg (by omega)]; rfl
theorem bk_f (h : nx p = 40) (h1 : PF nx 0 d (p + 1) q) : PF nx 4 (d + 1) p q := by
  obtain ⟨F, hF⟩ := h1
  exact ev_s F (fun f hf => by rw [pz_br f h, hF f hf]; rfl)
theorem bk_x (h : nx p = 40) (h1 : PT nx 0 d (p + 1) q a) (h2 : ¬ cmc (nx q)) (h3 : ¬ nx q = 41) : PF nx 4 (d + 1) p q := by
  obtain ⟨F, hF⟩ := h1
  exact ev_s F (fun f hf => by rw [pz_br f h, hF f hf]; simp only [pb]; rw [if_neg h2, if_neg h3])
theorem bk_t (h : nx p = 40) (h1 : PT nx 0 d (p + 1) q a) (h3 : nx q = 41) : PT nx 4 (d + 1) p (q + 1) a := by
  obtain ⟨F, hF⟩ := h1
  exact ev_s F (fun f hf => by rw [pz_br f h, hF f hf]; simp only [pb]; rw [if_neg (by omega), if_pos h3])
theorem bk_cf (h : nx p = 40) (h1 : PT nx 0 d (p + 1) q a) (h2 : cmc (nx q)) (h3 : PF nx 0 d (q + 1) q') : PF nx 4 (d + 1) p q' := by
  obtain ⟨F, hF⟩ := h1
  obtain ⟨G, hG⟩ := h3
  exact ev_s (F + G) (fun f hf => by rw [pz_br f h, hF f (by omega)]; simp only [pb]; rw [if_pos h2, hG f (by omega)])
theorem bk_cx (h : nx p = 40) (h1 : PT nx 0 d (p + 1) q a) (h2 : cmc (nx q)) (h3 : PT nx 0 d (q + 1) q' b) (h4 : ¬ nx q' = 41) : PF nx 4 (d + 1) p q' := by
  obtain ⟨F, hF⟩ := h1
  obtain ⟨G, hG⟩ := h3
  exact ev_s (F + G) (fun f hf => by rw [pz_br f h, hF f (by omega)]; simp only [pb]; rw [if_pos h2, hG f (by omega)]; simp only []; rw [if_neg h4])
theorem bk_ct (h : nx p = 40) (h1 : PT nx 0 d (p + 1) q a) (h2 : cmc (nx q)) (h3 : PT nx 0 d (q + 1) q' b) (h4 : nx q' = 41) : PT nx 4 (d + 1) p (q' + 1) (a ++ b ++ [-(nx q)]) := by
  obtain ⟨F, hF⟩ := h1
  obtain ⟨G, hG⟩ := h3
  exact ev_s (F + G) (fun f hf => by rw [pz_br f h, hF f (by omega)]; simp only [pb]; rw [if_pos h2, hG f (by omega)]; simp only []; rw [if_pos h4])
/-- half way through a sum or a product: what the rest makes of it -/
def CT (nx : Nat → Int) (r d cur m p : Nat) (a : List Int) : Prop := (∀ (q : Nat) (b : List Int), PT nx r d cur q b → PT nx m d p q (a ++ b)) ∧ (∀ q : Nat, PF nx r d cur q → PF nx m d p q)
theorem ct_init (hm : m = 0 ∨ m = 2) (h : PT nx (m + 2) d p q a) : CT nx (m + 1) d q m p a := ⟨fun _ _ h2 => su_tt hm h h2, fun _ h2 => su_tf hm h h2⟩
theorem ct_step {r cur : Nat} (hr : r = 1 ∨ r = 3) (h : CT nx r d cur m p a) (hs : sgn r (nx cur)) (h1 : PT nx (r + 1) d (cur + 1) q b) : CT nx r d q m p (a ++ (b ++ [-(nx cur)])) :=
  ⟨fun q' c h2 => by
    have h3 := h.1 _ _ (re_tt hr hs h1 h2)
    have e : a ++ (b ++ -(nx cur) :: c) = a ++ (b ++ [-(nx cur)]) ++ c := by simp
    rw [e] at h3; exact h3, fun q' h2 => h.2 _ (re_tf hr hs h1 h2)⟩
theorem ct_fail {r cur : Nat} (hr : r = 1 ∨ r = 3) (h : CT nx r d cur m p a) (hs : sgn r (nx cur)) (h1 : PF nx (r + 1) d (cur + 1) q) : PF nx m d p q := h.2 _ (re_f hr hs h1)
theorem ct_end {r cur : Nat} (hr : r = 1 ∨ r = 3) (h : CT nx r d cur m p a) (hs : ¬ sgn r (nx cur)) : PT nx m d p cur a := by
  have h3 := h.1 _ _ (re_e hr hs)
  rw [List.append_nil] at h3; exact h3
theorem pnum_d {n : Nat} {v : Int} (h : isd (nx p)) : pnum nx (n + 1) p v = pnum nx n (p + 1) (10 * v + nx p - 48) := by rw [pnum, if_pos h]
theorem pnum_x {n : Nat} {v : Int} (h : ¬ isd (nx p)) : pnum nx n p v = (p, v) := by
  cases n with
  | zero => rfl
  | succ n => rw [pnum, if_neg h]
end PZ
/-- the ints of a row from a to b -/
def cs (x : Nat → Int32) (a b : Nat) : List Int := (List.range' a (b - a)).map (fun i => (x i).toInt)
theorem cs_app {x : Nat → Int32} {a b c : Nat} (h1 : a ≤ b) (h2 : b ≤ c) : cs x a b ++ cs x b c = cs x a c := by
  unfold cs
  rw [← List.map_append]
  have e : c - a = (b - a) + (c - b) := by omega
  have e2 : List.range' b (c - b) = List.range' (a + 1 * (b - a)) (c - b) := by congr 1; omega
  rw [e, e2, List.range'_append]
theorem cs_congr {x y : Nat → Int32} {a b : Nat} (h : ∀ i, a ≤ i → i < b → y i = x i) : cs y a b = cs x a b := by
  unfold cs
  refine List.map_congr_left (fun i hi => ?_)
  rw [List.mem_range'_1] at hi
  rw [h i (by omega) (by omega)]
theorem cs_one {x : Nat → Int32} {a : Nat} : cs x a (a + 1) = [(x a).toInt] := by
  unfold cs
  have e : a + 1 - a = 1 := by omega
  rw [e]; rfl
theorem cs_snoc {x : Nat → Int32} {a b : Nat} (h : a ≤ b) : cs x a b ++ [(x b).toInt] = cs x a (b + 1) := by
  rw [← cs_one, cs_app h (by omega)]
theorem cs_cons {x : Nat → Int32} {a b : Nat} (h : a < b) : cs x a b = (x a).toInt :: cs x (a + 1) b := by
  rw [← cs_app (b := a + 1) (by omega) (by omega), cs_one]; rfl
/-- the byte at a place, -1 behind the end -/
def NX (x : Nat → Int32) (n : Int32) : Nat → Int := fun p => if (p : Int) < n.toInt then (x p).toInt else -1
theorem NX_congr {x y : Nat → Int32} {n k : Int32} (hn : k.toInt = n.toInt) (h : ∀ i : Nat, (i : Int) < n.toInt → y i = x i) : NX y k = NX x n := by
  funext p
  unfold NX
  rw [hn]
  by_cases e : (p : Int) < n.toInt
  · rw [if_pos e, if_pos e, h p e]
  · rw [if_neg e, if_neg e]
/-- held between the two bounds -/
def hld (x : Int64) : Int32 := if 0 < (lg_cmp x 1000000000).toInt then (1000000000 : Int64).toInt32 else if (lg_cmp x (-1000000000)).toInt < 0 then (-1000000000 : Int64).toInt32 else x.toInt32
def wk64 (s : Int) (l r : Int64) : Int64 :=
  if s = 43 then l + r else if s = 45 then l - r else if s = 42 then l * r
  else if s = 47 then (if r = 0 then 0 else l / r)
  else if s = 60 then (if l < r then 1 else 0) else if s = 61 then (if l = r then 1 else 0) else (if r < l then 1 else 0)
def opj (s : Int) (l r : Int32) : Int32 := hld (wk64 s l.toInt64 r.toInt64)
def ws (L : Int → Int32) (st : List Int32) (c : Int) : List Int32 :=
  if 0 ≤ c then Int32.ofInt c :: st else if isl (-c) then L (-c) :: st else
    match st with
    | r :: l :: t => opj (-c) l r :: t
    | st => st
/-- the code, run on any stack, lays its value on it -/
def VAL (L : Int → Int32) (c : List Int) (v : Int32) : Prop := ∀ st : List Int32, c.foldl (ws L) st = v :: st
theorem hl_hi {x : Int64} {c r : Int32} (e : c = lg_cmp x 1000000000) (hc : 0 < c.toInt) (er : r = (1000000000 : Int64).toInt32) : r = hld x := by
  rw [hld, ← e, if_pos hc]; exact er
theorem hl_lo {x : Int64} {c d r : Int32} (e : c = lg_cmp x 1000000000) (hc : c.toInt ≤ 0) (e2 : d = lg_cmp x (-1000000000)) (hd : d.toInt < 0) (er : r = (-1000000000 : Int64).toInt32) : r = hld x := by
  rw [hld, ← e, if_neg (by omega), ← e2, if_pos hd]; exact er
theorem hl_m {x : Int64} {c d r : Int32} (e : c = lg_cmp x 1000000000) (hc : c.toInt ≤ 0) (e2 : d = lg_cmp x (-1000000000)) (hd : 0 ≤ d.toInt) (er : r = x.toInt32) : r = hld x := by
  rw [hld, ← e, if_neg (by omega), ← e2, if_neg (by omega)]; exact er
theorem lgi_gt {x y : Int64} {c : Int32} (e : c = lg_cmp x y) : 0 < c.toInt ↔ y < x := by
  have h := Int32.lt_iff_toInt_lt (x := 0) (y := lg_cmp x y)
  rw [e, ← lg_cmp_gt x y, h]; exact Iff.rfl
theorem lgi_lt {x y : Int64} {c : Int32} (e : c = lg_cmp x y) : c.toInt < 0 ↔ x < y := by
  have h := Int32.lt_iff_toInt_lt (x := lg_cmp x y) (y := 0)
  rw [e, ← lg_cmp_lt x y, h]; exact Iff.rfl
theorem lgi_eq {x y : Int64} {c : Int32} (e : c = lg_cmp x y) : c.toInt = 0 ↔ x = y := by
  rw [e, ← lg_cmp_eq x y]
  exact ⟨fun h => Int32.toInt_inj.mp (h.trans (by decide)), fun h => by rw [h]; decide⟩
/-- the greater of the lower bound and the lesser of the upper bound and x -/
theorem hl_cl {x y z : Int64} (hy : y = if x < 1000000000 then x else 1000000000) (hz : z = if y < (-1000000000 : Int64) then -1000000000 else y) : z.toInt32 = hld x := by
  rw [hld]
  by_cases h1 : (1000000000 : Int64) < x
  · rw [if_pos ((lgi_gt rfl).mpr h1)]
    have h2 : ¬ x < 1000000000 := fun h => by have := Int64.lt_iff_toInt_lt.mp h1; have := Int64.lt_iff_toInt_lt.mp h; omega
    rw [if_neg h2] at hy
    rw [hz, hy, if_neg (by decide)]
  · rw [if_neg (fun h => h1 ((lgi_gt rfl).mp h))]
    have hy2 : y = x := by
      rw [hy]
      by_cases h6 : x < 1000000000
      · rw [if_pos h6]
      · rw [if_neg h6]
        refine Int64.toInt_inj.mp ?_
        have h7 : ¬ (1000000000 : Int64).toInt < x.toInt := fun h => h1 (Int64.lt_iff_toInt_lt.mpr h)
        have h8 : ¬ x.toInt < (1000000000 : Int64).toInt := fun h => h6 (Int64.lt_iff_toInt_lt.mpr h)
        omega
    by_cases h3 : x < -1000000000
    · rw [if_pos ((lgi_lt rfl).mpr h3), hz, hy2, if_pos h3]
    · rw [if_neg (fun h => h3 ((lgi_lt rfl).mp h)), hz, hy2, if_neg h3]
section WK
variable {s : Int} {l r z : Int64} {c : Int32}
theorem wk_42 (h : s = 42) : wk64 s l r = l * r := by subst h; rfl
theorem wk_43 (h : s = 43) : wk64 s l r = l + r := by subst h; rfl
theorem wk_45 (h : s = 45) : wk64 s l r = l - r := by subst h; rfl
theorem wk_47 (e : c = lg_cmp r 0) (hc : ¬ c.toInt = 0) (h : s = 47) : wk64 s l r = l / r := by
  subst h
  show (if r = 0 then 0 else l / r) = _
  rw [if_neg (fun q => hc ((lgi_eq e).mpr q))]
theorem wk_z (e : c = lg_cmp r 0) (hc : c.toInt = 0) (h : s = 47) : 0 = wk64 s l r := by
  subst h
  show _ = (if r = 0 then 0 else l / r)
  rw [if_pos ((lgi_eq e).mp hc)]
theorem wk_60 (h : s = 60) : wk64 s l r = if l < r then 1 else 0 := by subst h; rfl
theorem wk_61 (h : s = 61) : wk64 s l r = if l = r then 1 else 0 := by subst h; rfl
theorem wk_62 (h : ¬ s = 43 ∧ ¬ s = 45 ∧ ¬ s = 42 ∧ ¬ s = 47 ∧ ¬ s = 60 ∧ ¬ s = 61) : wk64 s l r = if r < l then 1 else 0 := by
  obtain ⟨h1, h2, h3, h4, h5, h6⟩ := h
  rw [wk64, if_neg h1, if_neg h2, if_neg h3, if_neg h4, if_neg h5, if_neg h6]
theorem wk_1 (e : c = lg_cmp l r) (h : (s = 60 ∧ c.toInt < 0) ∨ (s = 61 ∧ c.toInt = 0) ∨ ((¬ s = 43 ∧ ¬ s = 45 ∧ ¬ s = 42 ∧ ¬ s = 47 ∧ ¬ s = 60 ∧ ¬ s = 61) ∧ 0 < c.toInt)) : 1 = wk64 s l r := by
  rcases h with ⟨h, q⟩ | ⟨h, q⟩ | ⟨h, q⟩
  · rw [wk_60 h, if_pos ((lgi_lt e).mp q)]
  · rw [wk_61 h, if_pos ((lgi_eq e).mp q)]
  · rw [wk_62 h, if_pos ((lgi_gt e).mp q)]
theorem wk_0 (e : c = lg_cmp l r) (h : (s = 60 ∧ 0 ≤ c.toInt) ∨ (s = 61 ∧ ¬ c.toInt = 0) ∨ ((¬ s = 43 ∧ ¬ s = 45 ∧ ¬ s = 42 ∧ ¬ s = 47 ∧ ¬ s = 60 ∧ ¬ s = 61) ∧ c.toInt ≤ 0)) : 0 = wk64 s l r := by
  rcases h with ⟨h, q⟩ | ⟨h, q⟩ | ⟨h, q⟩
  · rw [wk_60 h, if_neg (fun k => by have := (lgi_lt e).mpr k; omega)]
  · rw [wk_61 h, if_neg (fun k => by have := (lgi_eq e).mpr k; omega)]
  · rw [wk_62 h, if_neg (fun k => by have := (lgi_gt e).mpr k; omega)]
end WK
theorem op_ar {s : Int} {l r q : Int32} {z : Int64} (h : (s = 43 ∧ z = l.toInt64 + r.toInt64) ∨ (s = 45 ∧ z = l.toInt64 - r.toInt64) ∨ (s = 42 ∧ z = l.toInt64 * r.toInt64)) (hq : q = hld z) : opj s l r = q := by
  rw [hq, opj]
  rcases h with ⟨h, e⟩ | ⟨h, e⟩ | ⟨h, e⟩
  · rw [wk_43 h, e]
  · rw [wk_45 h, e]
  · rw [wk_42 h, e]
theorem i64_0 {r : Int32} (h : ¬ r.toInt = 0) : ¬ r.toInt64 = 0 := fun q => h (by
  have h1 : r.toInt64.toInt = 0 := by rw [q]; decide
  rw [Int32.toInt_toInt64] at h1; exact h1)
theorem op_div {s : Int} {l r q : Int32} {z : Int64} (hs : s = 47) (h : ¬ r.toInt = 0) (e : z = l.toInt64 / r.toInt64) (hq : q = hld z) : opj s l r = q := by
  rw [hq, opj, wk_47 rfl (fun k => i64_0 h ((lgi_eq rfl).mp k)) hs, e]
theorem op_dz {s : Int} {l r : Int32} (hs : s = 47) (h : r.toInt = 0) : opj s l r = 0 := by
  have e : r = 0 := Int32.toInt_inj.mp (h.trans (by decide))
  subst e; subst hs; rfl
theorem hl_1 : hld 1 = 1 := by decide +kernel
theorem hl_0 : hld 0 = 0 := by decide +kernel
theorem op_c1 {s : Int} {l r : Int32} (h : (s = 60 ∧ l.toInt < r.toInt) ∨ (s = 61 ∧ l.toInt = r.toInt) ∨ (s = 62 ∧ r.toInt < l.toInt)) : opj s l r = 1 := by
  rw [opj, ← hl_1]
  congr 1
  refine (wk_1 rfl ?_).symm
  rcases h with ⟨h, q⟩ | ⟨h, q⟩ | ⟨h, q⟩
  · exact Or.inl ⟨h, (lgi_lt rfl).mpr (Int64.lt_iff_toInt_lt.mpr (by rw [Int32.toInt_toInt64, Int32.toInt_toInt64]; exact q))⟩
  · exact Or.inr (Or.inl ⟨h, (lgi_eq rfl).mpr (by rw [Int32.toInt_inj.mp q])⟩)
  · exact Or.inr (Or.inr ⟨by omega, (lgi_gt rfl).mpr (Int64.lt_iff_toInt_lt.mpr (by rw [Int32.toInt_toInt64, Int32.toInt_toInt64]; exact q))⟩)
theorem op_c0 {s : Int} {l r : Int32} (h : (s = 60 ∧ r.toInt ≤ l.toInt) ∨ (s = 61 ∧ ¬ l.toInt = r.toInt) ∨ (s = 62 ∧ l.toInt ≤ r.toInt)) : opj s l r = 0 := by
  rw [opj, ← hl_0]
  congr 1
  refine (wk_0 rfl ?_).symm
  rcases h with ⟨h, q⟩ | ⟨h, q⟩ | ⟨h, q⟩
  · refine Or.inl ⟨h, ?_⟩
    rcases Int.lt_or_le (lg_cmp l.toInt64 r.toInt64).toInt 0 with k | k
    · have := Int64.lt_iff_toInt_lt.mp ((lgi_lt rfl).mp k)
      rw [Int32.toInt_toInt64, Int32.toInt_toInt64] at this; omega
    · exact k
  · refine Or.inr (Or.inl ⟨h, fun k => q ?_⟩)
    have := congrArg Int64.toInt ((lgi_eq rfl).mp k)
    rw [Int32.toInt_toInt64, Int32.toInt_toInt64] at this; exact this
  · refine Or.inr (Or.inr ⟨by omega, ?_⟩)
    rcases Int.lt_or_le 0 (lg_cmp l.toInt64 r.toInt64).toInt with k | k
    · have := Int64.lt_iff_toInt_lt.mp ((lgi_gt rfl).mp k)
      rw [Int32.toInt_toInt64, Int32.toInt_toInt64] at this; omega
    · exact k
section VAL
variable {L : Int → Int32} {a b : List Int} {v w : Int32}
theorem val_num {n : Int} (h : 0 ≤ n) (e : v.toInt = n) : VAL L [n] v := fun st => by
  show ws L st n = _
  unfold ws
  rw [if_pos h, ← e, Int32.ofInt_toInt]
theorem val_let {c : Int} (h : isl c) : VAL L [-c] (L c) := fun st => by
  show ws L st (-c) = _
  unfold ws
  rw [if_neg (by omega), Int.neg_neg, if_pos h]
theorem val_op {s : Int} (hs : 42 ≤ s ∧ s ≤ 62) (ha : VAL L a v) (hb : VAL L b w) : VAL L (a ++ (b ++ [-s])) (opj s v w) := fun st => by
  rw [List.foldl_append, List.foldl_append, ha, hb]
  show ws L (w :: v :: st) (-s) = _
  rw [ws, if_neg (by omega), Int.neg_neg, if_neg (by omega)]
theorem ws_congr {L' : Int → Int32} (h : ∀ c, isl c → L' c = L c) : ws L' = ws L := by
  funext st c
  unfold ws
  by_cases h0 : 0 ≤ c
  · rw [if_pos h0, if_pos h0]
  · rw [if_neg h0, if_neg h0]
    by_cases h1 : isl (-c)
    · rw [if_pos h1, if_pos h1, h _ h1]
    · rw [if_neg h1, if_neg h1]
end VAL
