
theorem start_ {p : Program} {l : Launch} {e : Env} {R : Room} {s : State} {m : MethodId} {args : Array Value} {below : List Frame} {meth : Method} {c : Code} {H : Heap} {locs : List Loc} {cells slots : Nat} {Q : State → Prop} {f : JFrame} (hH : H = s.heap) (hl : locs = []) (k : W p l e R s m args below meth c H locs cells slots Q f) : W p l e R s m args below meth c s.heap [] cells slots Q f := by
  subst hH hl; exact k
theorem lv_as {p : Program} {l : Launch} {e : Env} {R : Room} {s : State} {m : MethodId} {args : Array Value} {below : List Frame} {meth : Method} {c : Code} {H : Heap} {locs : List Loc} {cells slots : Nat} {Q : State → Prop} {pc : Nat} {ls : Array Slot} {rest : List Value} {x : Int32} (x' : Int32) (h : x = x') (k : W p l e R s m args below meth c H locs cells slots Q (F0 m pc ls (.int x' :: rest))) : W p l e R s m args below meth c H locs cells slots Q (F0 m pc ls (.int x :: rest)) := by
  subst h; exact k
theorem tdiv {x y z : Int32} {a b : Int} (e : z = x / y) (hx : x.toInt = a) (hy : y.toInt = b) (hb : 0 < b) : z.toInt = a.tdiv b := by
  subst hx hy e
  rw [Int32.toInt_div_of_ne_right]
  intro q; rw [q] at hb; exact absurd hb (by decide)
theorem tm_le {a b : Int} (q : 0 ≤ a) (hb : 0 < b) : a.tmod b ≤ a := by
  rw [Int.tmod_eq_emod_of_nonneg q, Int.emod_def]
  have h1 : 0 ≤ a / b := Int.ediv_nonneg q (by omega)
  have h2 : 0 ≤ b * (a / b) := Int.mul_nonneg (by omega) h1
  omega
theorem tmod {x y z : Int32} {a b : Int} (e : z = x - x / y * y) (hx : x.toInt = a) (hy : y.toInt = b) (hb : 0 < b) (hb2 : b < 2147483648) : z.toInt = a.tmod b := by
  have h1 : (x / y).toInt = a.tdiv b := tdiv rfl hx hy hb
  have hr := i32r x
  rw [hx] at hr
  have hd : a.tdiv b * b = a - a.tmod b := by have := Int.tmod_add_tdiv_mul a b; omega
  have hm : -2147483648 ≤ a.tdiv b * b ∧ a.tdiv b * b < 2147483648 := by
    rw [hd]
    rcases Int.lt_or_le a 0 with q | q
    · have k1 : a.tmod b ≤ 0 := by rw [show a = -(-a) by omega, Int.neg_tmod]; have := Int.tmod_nonneg b (show 0 ≤ -a by omega); omega
      have k2 : -b < a.tmod b := by rw [show a = -(-a) by omega, Int.neg_tmod]; have := Int.tmod_lt_of_pos (-a) hb; omega
      have k3 : a ≤ a.tmod b := by rw [show a = -(-a) by omega, Int.neg_tmod]; have : (-a).tmod b ≤ -a := tm_le (by omega) hb; omega
      omega
    · have k1 := Int.tmod_nonneg b q
      have k2 : a.tmod b ≤ a := tm_le q hb
      omega
  have h2 : (x / y * y).toInt = a.tdiv b * b := tmul rfl h1 hy hm
  have h3 : z.toInt = a - a.tdiv b * b := tsub e hx h2 (by rw [hd]; rw [hd] at hm; have := i32r z; constructor <;> (rw [show a - (a - a.tmod b) = a.tmod b by omega]) <;> skip; all_goals (rcases Int.lt_or_le a 0 with q | q); all_goals first | (have k2 : -b < a.tmod b := by rw [show a = -(-a) by omega, Int.neg_tmod]; have := Int.tmod_lt_of_pos (-a) hb; omega); (have k1 : a.tmod b ≤ 0 := by rw [show a = -(-a) by omega, Int.neg_tmod]; have := Int.tmod_nonneg b (show 0 ≤ -a by omega); omega); omega | (have k1 := Int.tmod_nonneg b q; have k2 := Int.tmod_lt_of_pos a hb; omega))
  rw [h3, hd]; omega
theorem l64nz {x : Int32} (h : ¬ x.toInt = 0) : ¬ x.toInt64 = 0 := fun q => h (by rw [← Int32.toInt_toInt64, q]; decide)
theorem tshr1 {x z : Int32} (e : z = x >>> ((1 : Int32) &&& 31)) : z.toInt = x.toInt / 2 := by
  subst e
  rw [pk_shr x ((1 : Int32) &&& 31) 1 (by decide), Int.shiftRight_eq_div_pow]
  rfl
theorem tshl20 {x z : Int32} (e : z = (1 : Int32) <<< (x &&& 31)) (h : 0 ≤ x.toInt ∧ x.toInt ≤ 20) : 1 ≤ z.toInt ∧ z.toInt ≤ 1048576 := by
  have k : ∀ j : Fin 21, 1 ≤ ((1 : Int32) <<< (Int32.ofNat j.val &&& 31)).toInt ∧ ((1 : Int32) <<< (Int32.ofNat j.val &&& 31)).toInt ≤ 1048576 := by decide
  have hx : x = Int32.ofNat x.toInt.toNat := by
    apply ext_i
    rw [show Int32.ofNat x.toInt.toNat = nI x.toInt.toNat from rfl, nI_toInt (by omega)]
    omega
  have := k ⟨x.toInt.toNat, by omega⟩
  rw [hx] at e
  rw [e]; exact this
theorem tdv {x y z : Int32} (e : z = x / y) (hx : 0 ≤ x.toInt) (hy : 0 < y.toInt) : 0 ≤ z.toInt ∧ z.toInt ≤ x.toInt := by
  rw [tdiv e rfl rfl hy, Int.tdiv_eq_ediv_of_nonneg hx]
  exact ⟨Int.ediv_nonneg hx (by omega), Int.ediv_le_self _ hx⟩
theorem tdp {a b : Int} (h : 0 ≤ a) : a.tdiv b = a / b := Int.tdiv_eq_ediv_of_nonneg h
theorem tmp {a b : Int} (h : 0 ≤ a) : a.tmod b = a % b := Int.tmod_eq_emod_of_nonneg h
theorem b01 {x : Int32} (h : x.toInt = 0 ∨ x.toInt = 1) : x = 0 ∨ x = 1 := h.imp (fun q => ext_i q) (fun q => ext_i q)
theorem nz0 {x : Int32} (h : x.toInt ≠ 0) : ¬ x = 0 := fun q => h (by rw [q]; decide)
theorem vnb {x : Int32} (h : x = 0 ∨ x = 1) : vp_nar .boolean x = x := by rcases h with rfl | rfl <;> decide

def WN (J : Nat → Nat → Int32) : Prop := 1 ≤ (J 13 32).toInt ∧ (J 13 32).toInt ≤ 20 ∧ (∀ k : Nat, 1 ≤ k → (k : Int) < (J 13 32).toInt → 0 ≤ (J 101 k).toInt ∧ (J 101 k).toInt < k) ∧ 0 ≤ (J 13 35).toInt ∧ (J 13 35).toInt ≤ 40 ∧ (∀ k : Nat, (k : Int) < (J 13 35).toInt → 0 ≤ (J 108 k).toInt ∧ (J 108 k).toInt < (J 13 32).toInt ∧ 1 ≤ (J 109 k).toInt ∧ (J 109 k).toInt ≤ 9) ∧ 0 ≤ (J 13 34).toInt ∧ (J 13 34).toInt ≤ 40 ∧ 0 ≤ (J 13 41).toInt ∧ (J 13 41).toInt ≤ 9 ∧ (∀ k : Nat, (k : Int) < (J 13 41).toInt → 0 ≤ (J 125 k).toInt ∧ (J 125 k).toInt < (J 13 32).toInt)
def WRd (J : Nat → Nat → Int32) : Prop := 0 ≤ (J 13 37).toInt ∧ (J 13 37).toInt ≤ 8
def WT (J : Nat → Nat → Int32) : Prop := 0 ≤ (J 13 31).toInt ∧ (J 13 31).toInt ≤ 9999 ∧ 0 ≤ (J 13 42).toInt ∧ (J 13 42).toInt ≤ 40 ∧ (∀ k : Nat, (k : Int) < (J 13 31).toInt → (J 116 k).toInt = 0 → (J 119 k).toInt < 40)
def WX (J : Nat → Nat → Int32) : Prop := 0 ≤ (J 13 40).toInt ∧ (J 13 40).toInt ≤ 30 ∧ (∀ k : Nat, (k : Int) < (J 13 40).toInt → 0 ≤ (J 121 k).toInt ∧ (J 121 k).toInt ≤ 60)
def WAd (J : Nat → Nat → Int32) : Prop := 0 ≤ (J 13 43).toInt ∧ (J 13 43).toInt ≤ 200 ∧ 0 ≤ (J 13 44).toInt ∧ (J 13 44).toInt ≤ 60 ∧ 0 ≤ (J 13 55).toInt ∧ (J 13 55).toInt ≤ 60
def WM (J : Nat → Nat → Int32) : Prop := WN J ∧ WRd J ∧ WT J ∧ WX J ∧ WAd J

/-- a row of counted places grows by one -/
theorem wm_goes {J : Nat → Nat → Int32} {i : Nat} {k r v o w x : Int32} (hwm : WM J) (hi : i = (J 13 31).toInt.toNat) (hn : (J 13 31).toInt ≤ 9998) (ho : k.toInt = 0 → o.toInt < 40) (hx : x.toInt = (J 13 31).toInt + 1) : WM (up2 (up2 (up2 (up2 (up2 (up2 J 116 i k) 117 i r) 118 i v) 119 i o) 120 i w) 13 31 x) := by
  obtain ⟨h1, h2, ⟨a1, a2, a3, a4, a5⟩, h4, h5⟩ := hwm
  refine ⟨h1, h2, ⟨?_, ?_, a3, a4, fun q hq h0 => ?_⟩, h4, h5⟩
  · show 0 ≤ x.toInt; omega
  · show x.toInt ≤ 9999; omega
  · have hq : (q : Int) < x.toInt := hq
    by_cases e : q = i
    · have h0 : (up2 J 116 i k 116 q).toInt = 0 := h0
      show (up2 J 119 i o 119 q).toInt < 40
      rw [e, up2_s] at *; exact ho h0
    · have h0 : (up2 J 116 i k 116 q).toInt = 0 := h0
      show (up2 J 119 i o 119 q).toInt < 40
      rw [up2_f _ _ _ e] at *
      exact a5 q (by omega) h0
theorem wm_node {J : Nat → Nat → Int32} {i : Nat} {o w x t : Int32} (hwm : WM J) (hi : i = (J 13 32).toInt.toNat) (hn : (J 13 32).toInt ≤ 19) (ho : 0 ≤ o.toInt ∧ o.toInt < (J 13 32).toInt) (hx : x.toInt = (J 13 32).toInt + 1) : WM (up2 (up2 (up2 (up2 J 101 i o) 102 i w) 13 32 x) 13 49 t) := by
  obtain ⟨⟨a1, a2, a3, a4, a5, a6, a7, a8, a9, b1, b2⟩, h2⟩ := hwm
  refine ⟨⟨?_, ?_, fun q h0 hq => ?_, a4, a5, fun q hq => ?_, a7, a8, a9, b1, fun q hq => ?_⟩, h2⟩
  · show 1 ≤ x.toInt; omega
  · show x.toInt ≤ 20; omega
  · have hq : (q : Int) < x.toInt := hq
    show 0 ≤ (up2 J 101 i o 101 q).toInt ∧ (up2 J 101 i o 101 q).toInt < q
    by_cases e : q = i
    · rw [e, up2_s]; omega
    · rw [up2_f _ _ _ e]; exact a3 q h0 (by omega)
  · have z := a6 q hq
    exact ⟨z.1, (show (J 108 q).toInt < x.toInt by omega), z.2.2⟩
  · have z := b2 q hq
    exact ⟨z.1, (show (J 125 q).toInt < x.toInt by omega)⟩
theorem wm_home {J : Nat → Nat → Int32} {i : Nat} {n e s m x t : Int32} (hwm : WM J) (hi : i = (J 13 35).toInt.toNat) (hn : (J 13 35).toInt ≤ 39) (ho : 0 ≤ n.toInt ∧ n.toInt < (J 13 32).toInt) (he : 1 ≤ e.toInt ∧ e.toInt ≤ 9) (hx : x.toInt = (J 13 35).toInt + 1) : WM (up2 (up2 (up2 (up2 (up2 (up2 J 108 i n) 109 i e) 110 i s) 111 i m) 13 35 x) 13 49 t) := by
  obtain ⟨⟨a1, a2, a3, a4, a5, a6, a7, a8, a9, b1, b2⟩, h2⟩ := hwm
  refine ⟨⟨a1, a2, a3, ?_, ?_, fun q hq => ?_, a7, a8, a9, b1, b2⟩, h2⟩
  · show 0 ≤ x.toInt; omega
  · show x.toInt ≤ 40; omega
  · have hq : (q : Int) < x.toInt := hq
    show 0 ≤ (up2 J 108 i n 108 q).toInt ∧ (up2 J 108 i n 108 q).toInt < (J 13 32).toInt ∧ 1 ≤ (up2 J 109 i e 109 q).toInt ∧ (up2 J 109 i e 109 q).toInt ≤ 9
    by_cases z : q = i
    · rw [z, up2_s, up2_s]; exact ⟨ho.1, ho.2, he⟩
    · rw [up2_f _ _ _ z, up2_f _ _ _ z]; exact a6 q (by omega)
theorem wm_could {J : Nat → Nat → Int32} {i : Nat} {n v x : Int32} (hwm : WM J) (hi : i = (J 13 41).toInt.toNat) (hn : (J 13 41).toInt ≤ 8) (ho : 0 ≤ n.toInt ∧ n.toInt < (J 13 32).toInt) (hx : x.toInt = (J 13 41).toInt + 1) : WM (up2 (up2 (up2 J 125 i n) 126 i v) 13 41 x) := by
  obtain ⟨⟨a1, a2, a3, a4, a5, a6, a7, a8, a9, b1, b2⟩, h2⟩ := hwm
  refine ⟨⟨a1, a2, a3, a4, a5, a6, a7, a8, ?_, ?_, fun q hq => ?_⟩, h2⟩
  · show 0 ≤ x.toInt; omega
  · show x.toInt ≤ 9; omega
  · have hq : (q : Int) < x.toInt := hq
    show 0 ≤ (up2 J 125 i n 125 q).toInt ∧ (up2 J 125 i n 125 q).toInt < (J 13 32).toInt
    by_cases z : q = i
    · rw [z, up2_s]; exact ho
    · rw [up2_f _ _ _ z]; exact b2 q (by omega)
theorem wm_cut {J : Nat → Nat → Int32} {x : Int32} {a b c : Nat → Int32} {i j k : Nat} {u v w : Int32} (hwm : WM J) (hx : 0 ≤ x.toInt ∧ x.toInt ≤ 40) : WM (up2 (up2 (up2 (up2 J 105 i u) 106 j v) 107 k w) 13 34 x) := by
  obtain ⟨⟨a1, a2, a3, a4, a5, a6, a7, a8, a9, b1, b2⟩, h2⟩ := hwm
  exact ⟨⟨a1, a2, a3, a4, a5, a6, hx.1, hx.2, a9, b1, b2⟩, h2⟩
theorem wm_reader {J : Nat → Nat → Int32} {x : Int32} {i j : Nat} {u v : Int32} (hwm : WM J) (hx : 0 ≤ x.toInt ∧ x.toInt ≤ 8) : WM (up2 (up2 (up2 J 113 i u) 114 j v) 13 37 x) := by
  obtain ⟨h1, h2, h3⟩ := hwm
  exact ⟨h1, hx, h3⟩
theorem wm_news {J : Nat → Nat → Int32} {x : Int32} {i j : Nat} {u v : Int32} (hwm : WM J) (hx : 0 ≤ x.toInt ∧ x.toInt ≤ 40) : WM (up2 (up2 (up2 J 127 i u) 128 j v) 13 42 x) := by
  obtain ⟨h1, h2, ⟨a1, a2, a3, a4, a5⟩, h4⟩ := hwm
  exact ⟨h1, h2, ⟨a1, a2, hx.1, hx.2, a5⟩, h4⟩
theorem wm_taped {J : Nat → Nat → Int32} {x : Int32} {i : Nat} {u : Int32} (hwm : WM J) (hx : 0 ≤ x.toInt ∧ x.toInt ≤ 60) : WM (up2 (up2 J 153 i u) 13 55 x) := by
  obtain ⟨h1, h2, h3, h4, ⟨a1, a2, a3, a4, a5, a6⟩⟩ := hwm
  exact ⟨h1, h2, h3, h4, ⟨a1, a2, a3, a4, hx.1, hx.2⟩⟩
theorem wm_tape0 {J : Nat → Nat → Int32} (hwm : WM J) : WM (up2 J 13 55 0) := by
  obtain ⟨h1, h2, h3, h4, ⟨a1, a2, a3, a4, a5, a6⟩⟩ := hwm
  exact ⟨h1, h2, h3, h4, ⟨a1, a2, a3, a4, by show (0:Int) ≤ (0:Int32).toInt; decide, by show (0:Int32).toInt ≤ 60; decide⟩⟩
theorem wm_term {J : Nat → Nat → Int32} {i j k : Nat} {n u v x y : Int32} (hwm : WM J) (hy : J 13 40 = y) (hn : 0 ≤ n.toInt ∧ n.toInt ≤ 60) (hx : 0 ≤ x.toInt ∧ x.toInt ≤ 30 ∧ x.toInt = y.toInt + 1 ∧ i = y.toInt.toNat) : WM (up2 (up2 (up2 (up2 J 121 i n) 122 j u) 123 k v) 13 40 x) := by
  subst hy
  obtain ⟨h1, h2, h3, ⟨a1, a2, a3⟩, h5⟩ := hwm
  refine ⟨h1, h2, h3, ⟨hx.1, hx.2.1, fun q hq => ?_⟩, h5⟩
  have hq : (q : Int) < x.toInt := hq
  show 0 ≤ (up2 J 121 i n 121 q).toInt ∧ (up2 J 121 i n 121 q).toInt ≤ 60
  by_cases e : q = i
  · rw [e, up2_s]; exact hn
  · rw [up2_f _ _ _ e]; exact a3 q (by omega)
theorem wm_advert {J : Nat → Nat → Int32} {x : Int32} {i : Nat} {u : Int32} (hwm : WM J) (hx : 0 ≤ x.toInt ∧ x.toInt ≤ 200) : WM (up2 (up2 J 129 i u) 13 43 x) := by
  obtain ⟨h1, h2, h3, h4, ⟨a1, a2, a3, a4, a5, a6⟩⟩ := hwm
  exact ⟨h1, h2, h3, h4, ⟨hx.1, hx.2, a3, a4, a5, a6⟩⟩
theorem wm_rowed {J : Nat → Nat → Int32} {x : Int32} {i : Nat} {u : Int32} (hwm : WM J) (hx : 0 ≤ x.toInt ∧ x.toInt ≤ 60) : WM (up2 (up2 J 130 i u) 13 44 x) := by
  obtain ⟨h1, h2, h3, h4, ⟨a1, a2, a3, a4, a5, a6⟩⟩ := hwm
  exact ⟨h1, h2, h3, h4, ⟨a1, a2, hx.1, hx.2, a5, a6⟩⟩
theorem wm_row0 {J : Nat → Nat → Int32} (hwm : WM J) : WM (up2 J 13 44 0) := by
  obtain ⟨h1, h2, h3, h4, ⟨a1, a2, a3, a4, a5, a6⟩⟩ := hwm
  exact ⟨h1, h2, h3, h4, ⟨a1, a2, by show (0:Int) ≤ (0:Int32).toInt; decide, by show (0:Int32).toInt ≤ 60; decide, a5, a6⟩⟩
theorem kn32768 : ((-32768) : Int32).toInt = (-32768) := by decide
theorem kn20 : ((-20) : Int32).toInt = (-20) := by decide
theorem kn9 : ((-9) : Int32).toInt = (-9) := by decide
theorem kn6 : ((-6) : Int32).toInt = (-6) := by decide
theorem kn4 : ((-4) : Int32).toInt = (-4) := by decide
theorem kn3 : ((-3) : Int32).toInt = (-3) := by decide
theorem kn2 : ((-2) : Int32).toInt = (-2) := by decide
theorem kn1 : ((-1) : Int32).toInt = (-1) := by decide
theorem kp0 : (0 : Int32).toInt = 0 := by decide
theorem kp1 : (1 : Int32).toInt = 1 := by decide
theorem kp2 : (2 : Int32).toInt = 2 := by decide
theorem kp3 : (3 : Int32).toInt = 3 := by decide
theorem kp4 : (4 : Int32).toInt = 4 := by decide
theorem kp5 : (5 : Int32).toInt = 5 := by decide
theorem kp6 : (6 : Int32).toInt = 6 := by decide
theorem kp7 : (7 : Int32).toInt = 7 := by decide
theorem kp8 : (8 : Int32).toInt = 8 := by decide
theorem kp9 : (9 : Int32).toInt = 9 := by decide
theorem kp10 : (10 : Int32).toInt = 10 := by decide
theorem kp11 : (11 : Int32).toInt = 11 := by decide
theorem kp12 : (12 : Int32).toInt = 12 := by decide
theorem kp16 : (16 : Int32).toInt = 16 := by decide
theorem kp17 : (17 : Int32).toInt = 17 := by decide
theorem kp20 : (20 : Int32).toInt = 20 := by decide
theorem kp24 : (24 : Int32).toInt = 24 := by decide
theorem kp25 : (25 : Int32).toInt = 25 := by decide
theorem kp30 : (30 : Int32).toInt = 30 := by decide
theorem kp32 : (32 : Int32).toInt = 32 := by decide
theorem kp40 : (40 : Int32).toInt = 40 := by decide
theorem kp41 : (41 : Int32).toInt = 41 := by decide
theorem kp42 : (42 : Int32).toInt = 42 := by decide
theorem kp43 : (43 : Int32).toInt = 43 := by decide
theorem kp45 : (45 : Int32).toInt = 45 := by decide
theorem kp47 : (47 : Int32).toInt = 47 := by decide
theorem kp48 : (48 : Int32).toInt = 48 := by decide
theorem kp57 : (57 : Int32).toInt = 57 := by decide
theorem kp60 : (60 : Int32).toInt = 60 := by decide
theorem kp61 : (61 : Int32).toInt = 61 := by decide
theorem kp62 : (62 : Int32).toInt = 62 := by decide
theorem kp97 : (97 : Int32).toInt = 97 := by decide
theorem kp99 : (99 : Int32).toInt = 99 := by decide
theorem kp100 : (100 : Int32).toInt = 100 := by decide
theorem kp104 : (104 : Int32).toInt = 104 := by decide
theorem kp107 : (107 : Int32).toInt = 107 := by decide
theorem kp109 : (109 : Int32).toInt = 109 := by decide
theorem kp110 : (110 : Int32).toInt = 110 := by decide
theorem kp115 : (115 : Int32).toInt = 115 := by decide
theorem kp118 : (118 : Int32).toInt = 118 := by decide
theorem kp119 : (119 : Int32).toInt = 119 := by decide
theorem kp128 : (128 : Int32).toInt = 128 := by decide
theorem kp200 : (200 : Int32).toInt = 200 := by decide
theorem kp240 : (240 : Int32).toInt = 240 := by decide
theorem kp243 : (243 : Int32).toInt = 243 := by decide
theorem kp555 : (555 : Int32).toInt = 555 := by decide
theorem kp999 : (999 : Int32).toInt = 999 := by decide
theorem kp2048 : (2048 : Int32).toInt = 2048 := by decide
theorem kp4096 : (4096 : Int32).toInt = 4096 := by decide
theorem kp9999 : (9999 : Int32).toInt = 9999 := by decide
theorem kp10000 : (10000 : Int32).toInt = 10000 := by decide
theorem kp32767 : (32767 : Int32).toInt = 32767 := by decide
theorem kp100000 : (100000 : Int32).toInt = 100000 := by decide
theorem kp16777215 : (16777215 : Int32).toInt = 16777215 := by decide
theorem kp1000000000 : (1000000000 : Int32).toInt = 1000000000 := by decide
theorem kp2147483639 : (2147483639 : Int32).toInt = 2147483639 := by decide
