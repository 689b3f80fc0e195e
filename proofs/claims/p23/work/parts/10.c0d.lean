theorem or_l {r : Int} {P Q : Prop} (h : (r = 1 ∧ P) ∨ (r = 0 ∧ Q)) (hr : ¬ r = 0) : P := by
  rcases h with ⟨-, h⟩ | ⟨h, -⟩
  · exact h
  · exact absurd h hr
theorem or_r {r : Int} {P Q : Prop} (h : (r = 1 ∧ P) ∨ (r = 0 ∧ Q)) (hr : r = 0) : Q := by
  rcases h with ⟨h, -⟩ | ⟨-, h⟩
  · omega
  · exact h
theorem nx_at {x : Nat → Int32} {n : Int32} {p : Nat} (h : (p : Int) < n.toInt) : NX x n p = (x p).toInt := if_pos h
theorem nx_end {x : Nat → Int32} {n : Int32} {p : Nat} (h : n.toInt ≤ (p : Int)) : NX x n p = -1 := if_neg (by omega)
theorem nx_lt {x : Nat → Int32} {n : Int32} {p : Nat} (h : ¬ NX x n p = -1) : (p : Int) < n.toInt := by
  rcases Int.lt_or_le (p : Int) n.toInt with q | q
  · exact q
  · exact absurd (nx_end q) h
section PZ2
variable {nx : Nat → Int} {m d p q : Nat}
theorem pnr {x : Nat → Int32} {cl ucl : Nat} {v : Int} (hd : isd (nx p)) (h : pnum nx 5 p 0 = (q, v)) (hu : ucl = cl + 1) (hx : (x cl).toInt = v) : PT nx 4 d p q (cs x cl ucl) := by
  have h1 := un_n (d := d) hd
  rw [h] at h1; subst hu; rw [cs_one, hx]; exact h1
theorem lnr {x : Nat → Int32} {cl ucl : Nat} (hd : isl (nx p)) (hq : q = p + 1) (hu : ucl = cl + 1) (hx : (x cl).toInt = -(nx p)) : PT nx 4 d p q (cs x cl ucl) := by
  have h1 := un_l (d := d) hd
  subst hu; subst hq; rw [cs_one, hx]; exact h1
theorem ct_fail2 {r cur p1 : Nat} {a : List Int} (hr : r = 1 ∨ r = 3) (h : CT nx r d cur m p a) (hs : sgn r (nx cur)) (hp : p1 = cur + 1) (h1 : PF nx (r + 1) d p1 q) : PF nx m d p q := by
  subst hp; exact ct_fail hr h hs h1
theorem ct_step2 {r cur p1 c g hh k : Nat} {x y z : Nat → Int32} (hr : r = 1 ∨ r = 3) (h : CT nx r d cur m p (cs x c g)) (hs : sgn r (nx cur)) (hp : p1 = cur + 1) (h1 : PT nx (r + 1) d p1 q (cs y g hh)) (hcg : c ≤ g) (hgh : g ≤ hh) (hk : k = hh + 1) (e1 : ∀ i, i < g → y i = x i) (e2 : ∀ i, i < hh → z i = y i) (hz : (z hh).toInt = -(nx cur)) : CT nx r d q m p (cs z c k) := by
  subst hp; subst hk
  have h3 := ct_step hr h hs h1
  rw [← hz, cs_congr (x := z) (y := x) (fun i hi hj => by rw [← e1 i hj, e2 i (by omega)]), cs_congr (x := z) (y := y) (fun i hi hj => by rw [e2 i (by omega)])] at h3
  rw [cs_snoc hgh, cs_app hcg (by omega)] at h3
  exact h3
theorem bk_ct2 {q' q2 c g hh k p1 p2 : Nat} {x y z : Nat → Int32} (h : nx p = 40) (hp1 : p1 = p + 1) (h1 : PT nx 0 d p1 q (cs x c g)) (h2 : cmc (nx q)) (hp2 : p2 = q + 1) (h3 : PT nx 0 d p2 q' (cs y g hh)) (h4 : nx q' = 41) (hq : q2 = q' + 1) (hcg : c ≤ g) (hgh : g ≤ hh) (hk : k = hh + 1) (e1 : ∀ i, i < g → y i = x i) (e2 : ∀ i, i < hh → z i = y i) (hz : (z hh).toInt = -(nx q)) : PT nx 4 (d + 1) p q2 (cs z c k) := by
  subst hp1; subst hp2; subst hq; subst hk
  have h5 := bk_ct h h1 h2 h3 h4
  rw [List.append_assoc, ← hz, cs_congr (x := z) (y := x) (fun i hi hj => by rw [← e1 i hj, e2 i (by omega)]), cs_congr (x := z) (y := y) (fun i hi hj => by rw [e2 i (by omega)])] at h5
  rw [cs_snoc hgh, cs_app hcg (by omega)] at h5
  exact h5
theorem bk_t2 {q2 p1 : Nat} {a : List Int} (h : nx p = 40) (hp1 : p1 = p + 1) (h1 : PT nx 0 d p1 q a) (h3 : nx q = 41) (hq : q2 = q + 1) : PT nx 4 (d + 1) p q2 a := by
  subst hp1; subst hq; exact bk_t h h1 h3
theorem bk_f2 {p1 : Nat} (h : nx p = 40) (hp1 : p1 = p + 1) (h1 : PF nx 0 d p1 q) : PF nx 4 (d + 1) p q := by
  subst hp1; exact bk_f h h1
theorem bk_x2 {p1 : Nat} {a : List Int} (h : nx p = 40) (hp1 : p1 = p + 1) (h1 : PT nx 0 d p1 q a) (h2 : ¬ cmc (nx q)) (h3 : ¬ nx q = 41) : PF nx 4 (d + 1) p q := by
  subst hp1; exact bk_x h h1 h2 h3
theorem bk_cf2 {q' p1 p2 : Nat} {a : List Int} (h : nx p = 40) (hp1 : p1 = p + 1) (h1 : PT nx 0 d p1 q a) (h2 : cmc (nx q)) (hp2 : p2 = q + 1) (h3 : PF nx 0 d p2 q') : PF nx 4 (d + 1) p q' := by
  subst hp1; subst hp2; exact bk_cf h h1 h2 h3
theorem bk_cx2 {q' p1 p2 : Nat} {a b : List Int} (h : nx p = 40) (hp1 : p1 = p + 1) (h1 : PT nx 0 d p1 q a) (h2 : cmc (nx q)) (hp2 : p2 = q + 1) (h3 : PT nx 0 d p2 q' b) (h4 : ¬ nx q' = 41) : PF nx 4 (d + 1) p q' := by
  subst hp1; subst hp2; exact bk_cx h h1 h2 h3 h4
theorem un_02 (h : nx p = 40) (hd : d = 0) : PF nx 4 d p p := by subst hd; exact un_0 h
theorem pn_step {n n' p' : Nat} {v v' : Int} {R : Nat × Int} (h : pnum nx n p v = R) (hd : isd (nx p)) (hn : n = n' + 1) (hp : p' = p + 1) (hv : v' = 10 * v + nx p - 48) : pnum nx n' p' v' = R := by
  subst hn; subst hp; subst hv
  rw [pnum_d hd] at h; exact h
theorem pn_end {n : Nat} {v : Int} {R : Nat × Int} (h : pnum nx n p v = R) (hx : n = 0 ∨ ¬ isd (nx p)) : R = (p, v) := by
  rw [← h]
  rcases hx with hx | hx
  · subst hx; rfl
  · exact pnum_x hx
theorem pn_ge {f : Nat → Int} {a b : Int} {P : Prop} (h : (b = a ∧ P) ∨ a + 1 ≤ b) (hd : isd (f a.toNat)) (hx : ¬ isd (f b.toNat) ∨ ¬ P) : a + 1 ≤ b := by
  rcases h with ⟨h, hp⟩ | h
  · subst h
    rcases hx with q | q
    · exact absurd hd q
    · exact absurd hp q
  · exact h
theorem pf_d {d' : Nat} (e : d' = d) (h : PF nx m d p q) : PF nx m d' p q := by rw [e]; exact h
theorem pt_d {d' : Nat} {a : List Int} (e : d' = d) (h : PT nx m d p q a) : PT nx m d' p q a := by rw [e]; exact h
end PZ2
abbrev PBRA_e (d : Nat) : Prop := ∀ (l : Launch) (g : gG) (J : Nat → Nat → Int32) (L : Nat → Nat → Int64) (I : Nat → Nat → Nat → Int32) (P : Nat → Nat → Nat → Option Nat) (E : Nat → Option Nat) (N : Nat → Nat) (dy : List (Nat × Nat)) (sz : Nat) (a0 : Int32) (hpl : 0 ≤ (J 11 4).toInt ∧ (J 11 4).toInt ≤ (J 11 2).toInt ∧ (J 11 2).toInt ≤ 60) (hcl : 0 ≤ (J 11 3).toInt ∧ (J 11 3).toInt ≤ (J 11 4).toInt) (hd : a0.toInt = 5 - (d : Int)) (hd5 : (d : Int) ≤ 5) (hbr : NX (J 43) (J 11 2) (J 11 4).toInt.toNat = 40), Met l yX10_parseBracket (WS yX10_parseBracket cX10_parseBracket 3 (some .boolean)) (RM (4 * d + 7) 0 0) (PC g [.ref (g.2.2.1 11), .int a0] ((J, L, I, P, E, N), sgX g ++ dy) sz) (va_Qi (fun (r : Int32) (u : (Nat → Nat → Int32)) => ((r.toInt = 1 ∧ (PT (NX (J 43) (J 11 2)) 4 ((d : Nat) + 1) (J 11 4).toInt.toNat (u 11 4).toInt.toNat (cs (u 44) (J 11 3).toInt.toNat (u 11 3).toInt.toNat)) ∧ (∀ i : Nat, i < (J 11 3).toInt.toNat → u 44 i = J 44 i) ∧ ((J 11 4).toInt + 1 ≤ (u 11 4).toInt ∧ (u 11 4).toInt ≤ (J 11 2).toInt ∧ (J 11 3).toInt ≤ (u 11 3).toInt ∧ (u 11 3).toInt - (J 11 3).toInt ≤ (u 11 4).toInt - (J 11 4).toInt)) ∨ (r.toInt = 0 ∧ (PF (NX (J 43) (J 11 2)) 4 ((d : Nat) + 1) (J 11 4).toInt.toNat (u 11 4).toInt.toNat) ∧ (0 ≤ (u 11 4).toInt)))) (fun u t => at_ g (FR g ((J, L, I, P, E, N), sgX g ++ dy) sz) (((hv J [44] [(11, 3), (11, 4)] u), L, I, P, E, N), sgX g ++ dy) t) (FR g ((J, L, I, P, E, N), sgX g ++ dy) sz)) 0 0 (FR g ((J, L, I, P, E, N), sgX g ++ dy) sz)
abbrev PSUM_e (d : Nat) : Prop := ∀ (l : Launch) (g : gG) (J : Nat → Nat → Int32) (L : Nat → Nat → Int64) (I : Nat → Nat → Nat → Int32) (P : Nat → Nat → Nat → Option Nat) (E : Nat → Option Nat) (N : Nat → Nat) (dy : List (Nat × Nat)) (sz : Nat) (a0 : Int32) (hpl : 0 ≤ (J 11 4).toInt ∧ (J 11 4).toInt ≤ (J 11 2).toInt ∧ (J 11 2).toInt ≤ 60) (hcl : 0 ≤ (J 11 3).toInt ∧ (J 11 3).toInt ≤ (J 11 4).toInt) (hd : a0.toInt = 5 - (d : Int)) (hd5 : (d : Int) ≤ 5), Met l yX10_parseSum (WS yX10_parseSum cX10_parseSum 4 (some .boolean)) (RM (4 * d + 6) 0 0) (PC g [.ref (g.2.2.1 11), .int a0] ((J, L, I, P, E, N), sgX g ++ dy) sz) (va_Qi (fun (r : Int32) (u : (Nat → Nat → Int32)) => ((r.toInt = 1 ∧ (PT (NX (J 43) (J 11 2)) 0 (d : Nat) (J 11 4).toInt.toNat (u 11 4).toInt.toNat (cs (u 44) (J 11 3).toInt.toNat (u 11 3).toInt.toNat)) ∧ (∀ i : Nat, i < (J 11 3).toInt.toNat → u 44 i = J 44 i) ∧ ((J 11 4).toInt + 1 ≤ (u 11 4).toInt ∧ (u 11 4).toInt ≤ (J 11 2).toInt ∧ (J 11 3).toInt ≤ (u 11 3).toInt ∧ (u 11 3).toInt - (J 11 3).toInt ≤ (u 11 4).toInt - (J 11 4).toInt)) ∨ (r.toInt = 0 ∧ (PF (NX (J 43) (J 11 2)) 0 (d : Nat) (J 11 4).toInt.toNat (u 11 4).toInt.toNat) ∧ (0 ≤ (u 11 4).toInt)))) (fun u t => at_ g (FR g ((J, L, I, P, E, N), sgX g ++ dy) sz) (((hv J [44] [(11, 3), (11, 4)] u), L, I, P, E, N), sgX g ++ dy) t) (FR g ((J, L, I, P, E, N), sgX g ++ dy) sz)) 0 0 (FR g ((J, L, I, P, E, N), sgX g ++ dy) sz)
abbrev PPRO_e (d : Nat) : Prop := ∀ (l : Launch) (g : gG) (J : Nat → Nat → Int32) (L : Nat → Nat → Int64) (I : Nat → Nat → Nat → Int32) (P : Nat → Nat → Nat → Option Nat) (E : Nat → Option Nat) (N : Nat → Nat) (dy : List (Nat × Nat)) (sz : Nat) (a0 : Int32) (hpl : 0 ≤ (J 11 4).toInt ∧ (J 11 4).toInt ≤ (J 11 2).toInt ∧ (J 11 2).toInt ≤ 60) (hcl : 0 ≤ (J 11 3).toInt ∧ (J 11 3).toInt ≤ (J 11 4).toInt) (hd : a0.toInt = 5 - (d : Int)) (hd5 : (d : Int) ≤ 5), Met l yX10_parseProduct (WS yX10_parseProduct cX10_parseProduct 4 (some .boolean)) (RM (4 * d + 5) 0 0) (PC g [.ref (g.2.2.1 11), .int a0] ((J, L, I, P, E, N), sgX g ++ dy) sz) (va_Qi (fun (r : Int32) (u : (Nat → Nat → Int32)) => ((r.toInt = 1 ∧ (PT (NX (J 43) (J 11 2)) 2 (d : Nat) (J 11 4).toInt.toNat (u 11 4).toInt.toNat (cs (u 44) (J 11 3).toInt.toNat (u 11 3).toInt.toNat)) ∧ (∀ i : Nat, i < (J 11 3).toInt.toNat → u 44 i = J 44 i) ∧ ((J 11 4).toInt + 1 ≤ (u 11 4).toInt ∧ (u 11 4).toInt ≤ (J 11 2).toInt ∧ (J 11 3).toInt ≤ (u 11 3).toInt ∧ (u 11 3).toInt - (J 11 3).toInt ≤ (u 11 4).toInt - (J 11 4).toInt)) ∨ (r.toInt = 0 ∧ (PF (NX (J 43) (J 11 2)) 2 (d : Nat) (J 11 4).toInt.toNat (u 11 4).toInt.toNat) ∧ (0 ≤ (u 11 4).toInt)))) (fun u t => at_ g (FR g ((J, L, I, P, E, N), sgX g ++ dy) sz) (((hv J [44] [(11, 3), (11, 4)] u), L, I, P, E, N), sgX g ++ dy) t) (FR g ((J, L, I, P, E, N), sgX g ++ dy) sz)) 0 0 (FR g ((J, L, I, P, E, N), sgX g ++ dy) sz)
abbrev PUNIT_e (d : Nat) : Prop := ∀ (l : Launch) (g : gG) (J : Nat → Nat → Int32) (L : Nat → Nat → Int64) (I : Nat → Nat → Nat → Int32) (P : Nat → Nat → Nat → Option Nat) (E : Nat → Option Nat) (N : Nat → Nat) (dy : List (Nat × Nat)) (sz : Nat) (a0 : Int32) (hpl : 0 ≤ (J 11 4).toInt ∧ (J 11 4).toInt ≤ (J 11 2).toInt ∧ (J 11 2).toInt ≤ 60) (hcl : 0 ≤ (J 11 3).toInt ∧ (J 11 3).toInt ≤ (J 11 4).toInt) (hd : a0.toInt = 5 - (d : Int)) (hd5 : (d : Int) ≤ 5), Met l yX10_parseUnit (WS yX10_parseUnit cX10_parseUnit 3 (some .boolean)) (RM (4 * d + 4) 0 0) (PC g [.ref (g.2.2.1 11), .int a0] ((J, L, I, P, E, N), sgX g ++ dy) sz) (va_Qi (fun (r : Int32) (u : (Nat → Nat → Int32)) => ((r.toInt = 1 ∧ (PT (NX (J 43) (J 11 2)) 4 (d : Nat) (J 11 4).toInt.toNat (u 11 4).toInt.toNat (cs (u 44) (J 11 3).toInt.toNat (u 11 3).toInt.toNat)) ∧ (∀ i : Nat, i < (J 11 3).toInt.toNat → u 44 i = J 44 i) ∧ ((J 11 4).toInt + 1 ≤ (u 11 4).toInt ∧ (u 11 4).toInt ≤ (J 11 2).toInt ∧ (J 11 3).toInt ≤ (u 11 3).toInt ∧ (u 11 3).toInt - (J 11 3).toInt ≤ (u 11 4).toInt - (J 11 4).toInt)) ∨ (r.toInt = 0 ∧ (PF (NX (J 43) (J 11 2)) 4 (d : Nat) (J 11 4).toInt.toNat (u 11 4).toInt.toNat) ∧ (0 ≤ (u 11 4).toInt)))) (fun u t => at_ g (FR g ((J, L, I, P, E, N), sgX g ++ dy) sz) (((hv J [44] [(11, 3), (11, 4)] u), L, I, P, E, N), sgX g ++ dy) t) (FR g ((J, L, I, P, E, N), sgX g ++ dy) sz)) 0 0 (FR g ((J, L, I, P, E, N), sgX g ++ dy) sz)
set_option maxHeartbeats 4000000 in
set_option maxRecDepth 100000 in
theorem c_X10_isLetter_e (l : Launch) (g : gG) (J : Nat → Nat → Int32) (L : Nat → Nat → Int64) (I : Nat → Nat → Nat → Int32) (P : Nat → Nat → Nat → Option Nat) (E : Nat → Option Nat) (N : Nat → Nat) (dy : List (Nat × Nat)) (sz : Nat) (a0 : Int32)  : Met l yX10_isLetter (WS yX10_isLetter cX10_isLetter 1 (some .boolean)) (RM (1) 0 0) (PC g [.int a0] ((J, L, I, P, E, N), sgX g ++ dy) sz) (va_Qi (fun (r : Int32) (u : Unit) => ((r.toInt = 1 ∧ ((a0.toInt = 107 ∨ a0.toInt = 104 ∨ a0.toInt = 118 ∨ a0.toInt = 115 ∨ a0.toInt = 109 ∨ a0.toInt = 119 ∨ a0.toInt = 97 ∨ a0.toInt = 110))) ∨ (r.toInt = 0 ∧ (¬ (a0.toInt = 107 ∨ a0.toInt = 104 ∨ a0.toInt = 118 ∨ a0.toInt = 115 ∨ a0.toInt = 109 ∨ a0.toInt = 119 ∨ a0.toInt = 97 ∨ a0.toInt = 110))))) (fun u t => at_ g (FR g ((J, L, I, P, E, N), sgX g ++ dy) sz) ((J, L, I, P, E, N), sgX g ++ dy) t) (FR g ((J, L, I, P, E, N), sgX g ++ dy) sz)) 0 0 (FR g ((J, L, I, P, E, N), sgX g ++ dy) sz) := by
  refine ent (by decide +kernel) (Nat.le_of_ble_eq_true rfl) ?_
  intro p e s m below meth c ls hsz C hW hr hlocks hname hl
  generalize FR g ((J, L, I, P, E, N), sgX g ++ dy) sz = A at C hW ⊢
  have hx := C.1.1
  have hb := C.1.2.1
  have hts := C.1.2.2.2.2
  have hl : lv_has ls 1 [(0, .int a0)] := hl
  obtain ⟨H, hH⟩ : ∃ H : Heap, H = s.heap := ⟨_, rfl⟩
  obtain ⟨locs, hlocs⟩ : ∃ q : List Loc, q = [] := ⟨_, rfl⟩
  have hW : WB g A s.heap H locs (J, L, I, P, E, N) (sgX g ++ dy) := by rw [hH, hlocs]; exact hW
  refine start_ hH hlocs ?_
  refine lv_iload_n hx hb dX10_isLetter_0 rfl (lv_at hl 0 rfl) ?_
  rcases Int.lt_or_le a0.toInt 97 with c1 | c1
  · refine lv_tableOut (tgt := 110) hx hb dX10_isLetter_1 (Or.inl c1) (by decide) ?_
    refine lv_iconst (v := 0) hx hb dX10_isLetter_110 (by decide) ?_
    exact end_z C hr hlocks (by decide) () hW (by first | exact Or.inr (⟨by decide, by omega⟩)) dX10_isLetter_111
  · rcases Int.lt_or_le 119 a0.toInt with c1b | c1b
    · refine lv_tableOut (tgt := 110) hx hb dX10_isLetter_1 (Or.inr c1b) (by decide) ?_
      refine lv_iconst (v := 0) hx hb dX10_isLetter_110 (by decide) ?_
      exact end_z C hr hlocks (by decide) () hW (by first | exact Or.inr (⟨by decide, by omega⟩)) dX10_isLetter_111
    · rcases (show a0.toInt = 97 ∨ a0.toInt = 98 ∨ a0.toInt = 99 ∨ a0.toInt = 100 ∨ a0.toInt = 101 ∨ a0.toInt = 102 ∨ a0.toInt = 103 ∨ a0.toInt = 104 ∨ a0.toInt = 105 ∨ a0.toInt = 106 ∨ a0.toInt = 107 ∨ a0.toInt = 108 ∨ a0.toInt = 109 ∨ a0.toInt = 110 ∨ a0.toInt = 111 ∨ a0.toInt = 112 ∨ a0.toInt = 113 ∨ a0.toInt = 114 ∨ a0.toInt = 115 ∨ a0.toInt = 116 ∨ a0.toInt = 117 ∨ a0.toInt = 118 ∨ a0.toInt = 119 by omega) with c1k | c1k | c1k | c1k | c1k | c1k | c1k | c1k | c1k | c1k | c1k | c1k | c1k | c1k | c1k | c1k | c1k | c1k | c1k | c1k | c1k | c1k | c1k
      · refine lv_tableIn (off := 107) (tgt := 108) hx hb dX10_isLetter_1 (Int.not_lt.mpr c1) (Int.not_lt.mpr c1b) (by rw [c1k]; rfl) (by decide) ?_
        refine lv_iconst (v := 1) hx hb dX10_isLetter_108 (by decide) ?_
        exact end_z C hr hlocks (by decide) () hW (by first | exact Or.inl ⟨by decide, by omega⟩) dX10_isLetter_109
      · refine lv_tableIn (off := 109) (tgt := 110) hx hb dX10_isLetter_1 (Int.not_lt.mpr c1) (Int.not_lt.mpr c1b) (by rw [c1k]; rfl) (by decide) ?_
        refine lv_iconst (v := 0) hx hb dX10_isLetter_110 (by decide) ?_
        exact end_z C hr hlocks (by decide) () hW (by first | exact Or.inr (⟨by decide, by omega⟩)) dX10_isLetter_111
      · refine lv_tableIn (off := 109) (tgt := 110) hx hb dX10_isLetter_1 (Int.not_lt.mpr c1) (Int.not_lt.mpr c1b) (by rw [c1k]; rfl) (by decide) ?_
        refine lv_iconst (v := 0) hx hb dX10_isLetter_110 (by decide) ?_
        exact end_z C hr hlocks (by decide) () hW (by first | exact Or.inr (⟨by decide, by omega⟩)) dX10_isLetter_111
      · refine lv_tableIn (off := 109) (tgt := 110) hx hb dX10_isLetter_1 (Int.not_lt.mpr c1) (Int.not_lt.mpr c1b) (by rw [c1k]; rfl) (by decide) ?_
        refine lv_iconst (v := 0) hx hb dX10_isLetter_110 (by decide) ?_
        exact end_z C hr hlocks (by decide) () hW (by first | exact Or.inr (⟨by decide, by omega⟩)) dX10_isLetter_111
      · refine lv_tableIn (off := 109) (tgt := 110) hx hb dX10_isLetter_1 (Int.not_lt.mpr c1) (Int.not_lt.mpr c1b) (by rw [c1k]; rfl) (by decide) ?_
        refine lv_iconst (v := 0) hx hb dX10_isLetter_110 (by decide) ?_
        exact end_z C hr hlocks (by decide) () hW (by first | exact Or.inr (⟨by decide, by omega⟩)) dX10_isLetter_111
      · refine lv_tableIn (off := 109) (tgt := 110) hx hb dX10_isLetter_1 (Int.not_lt.mpr c1) (Int.not_lt.mpr c1b) (by rw [c1k]; rfl) (by decide) ?_
        refine lv_iconst (v := 0) hx hb dX10_isLetter_110 (by decide) ?_
        exact end_z C hr hlocks (by decide) () hW (by first | exact Or.inr (⟨by decide, by omega⟩)) dX10_isLetter_111
      · refine lv_tableIn (off := 109) (tgt := 110) hx hb dX10_isLetter_1 (Int.not_lt.mpr c1) (Int.not_lt.mpr c1b) (by rw [c1k]; rfl) (by decide) ?_
        refine lv_iconst (v := 0) hx hb dX10_isLetter_110 (by decide) ?_
        exact end_z C hr hlocks (by decide) () hW (by first | exact Or.inr (⟨by decide, by omega⟩)) dX10_isLetter_111
      · refine lv_tableIn (off := 107) (tgt := 108) hx hb dX10_isLetter_1 (Int.not_lt.mpr c1) (Int.not_lt.mpr c1b) (by rw [c1k]; rfl) (by decide) ?_
        refine lv_iconst (v := 1) hx hb dX10_isLetter_108 (by decide) ?_
        exact end_z C hr hlocks (by decide) () hW (by first | exact Or.inl ⟨by decide, by omega⟩) dX10_isLetter_109
      · refine lv_tableIn (off := 109) (tgt := 110) hx hb dX10_isLetter_1 (Int.not_lt.mpr c1) (Int.not_lt.mpr c1b) (by rw [c1k]; rfl) (by decide) ?_
        refine lv_iconst (v := 0) hx hb dX10_isLetter_110 (by decide) ?_
        exact end_z C hr hlocks (by decide) () hW (by first | exact Or.inr (⟨by decide, by omega⟩)) dX10_isLetter_111
      · refine lv_tableIn (off := 109) (tgt := 110) hx hb dX10_isLetter_1 (Int.not_lt.mpr c1) (Int.not_lt.mpr c1b) (by rw [c1k]; rfl) (by decide) ?_
        refine lv_iconst (v := 0) hx hb dX10_isLetter_110 (by decide) ?_
        exact end_z C hr hlocks (by decide) () hW (by first | exact Or.inr (⟨by decide, by omega⟩)) dX10_isLetter_111
      · refine lv_tableIn (off := 107) (tgt := 108) hx hb dX10_isLetter_1 (Int.not_lt.mpr c1) (Int.not_lt.mpr c1b) (by rw [c1k]; rfl) (by decide) ?_
        refine lv_iconst (v := 1) hx hb dX10_isLetter_108 (by decide) ?_
        exact end_z C hr hlocks (by decide) () hW (by first | exact Or.inl ⟨by decide, by omega⟩) dX10_isLetter_109
      · refine lv_tableIn (off := 109) (tgt := 110) hx hb dX10_isLetter_1 (Int.not_lt.mpr c1) (Int.not_lt.mpr c1b) (by rw [c1k]; rfl) (by decide) ?_
        refine lv_iconst (v := 0) hx hb dX10_isLetter_110 (by decide) ?_
        exact end_z C hr hlocks (by decide) () hW (by first | exact Or.inr (⟨by decide, by omega⟩)) dX10_isLetter_111
      · refine lv_tableIn (off := 107) (tgt := 108) hx hb dX10_isLetter_1 (Int.not_lt.mpr c1) (Int.not_lt.mpr c1b) (by rw [c1k]; rfl) (by decide) ?_
        refine lv_iconst (v := 1) hx hb dX10_isLetter_108 (by decide) ?_
        exact end_z C hr hlocks (by decide) () hW (by first | exact Or.inl ⟨by decide, by omega⟩) dX10_isLetter_109
      · refine lv_tableIn (off := 107) (tgt := 108) hx hb dX10_isLetter_1 (Int.not_lt.mpr c1) (Int.not_lt.mpr c1b) (by rw [c1k]; rfl) (by decide) ?_
        refine lv_iconst (v := 1) hx hb dX10_isLetter_108 (by decide) ?_
        exact end_z C hr hlocks (by decide) () hW (by first | exact Or.inl ⟨by decide, by omega⟩) dX10_isLetter_109
      · refine lv_tableIn (off := 109) (tgt := 110) hx hb dX10_isLetter_1 (Int.not_lt.mpr c1) (Int.not_lt.mpr c1b) (by rw [c1k]; rfl) (by decide) ?_
        refine lv_iconst (v := 0) hx hb dX10_isLetter_110 (by decide) ?_
        exact end_z C hr hlocks (by decide) () hW (by first | exact Or.inr (⟨by decide, by omega⟩)) dX10_isLetter_111
      · refine lv_tableIn (off := 109) (tgt := 110) hx hb dX10_isLetter_1 (Int.not_lt.mpr c1) (Int.not_lt.mpr c1b) (by rw [c1k]; rfl) (by decide) ?_
        refine lv_iconst (v := 0) hx hb dX10_isLetter_110 (by decide) ?_
        exact end_z C hr hlocks (by decide) () hW (by first | exact Or.inr (⟨by decide, by omega⟩)) dX10_isLetter_111
      · refine lv_tableIn (off := 109) (tgt := 110) hx hb dX10_isLetter_1 (Int.not_lt.mpr c1) (Int.not_lt.mpr c1b) (by rw [c1k]; rfl) (by decide) ?_
        refine lv_iconst (v := 0) hx hb dX10_isLetter_110 (by decide) ?_
        exact end_z C hr hlocks (by decide) () hW (by first | exact Or.inr (⟨by decide, by omega⟩)) dX10_isLetter_111
      · refine lv_tableIn (off := 109) (tgt := 110) hx hb dX10_isLetter_1 (Int.not_lt.mpr c1) (Int.not_lt.mpr c1b) (by rw [c1k]; rfl) (by decide) ?_
        refine lv_iconst (v := 0) hx hb dX10_isLetter_110 (by decide) ?_
        exact end_z C hr hlocks (by decide) () hW (by first | exact Or.inr (⟨by decide, by omega⟩)) dX10_isLetter_111
      · refine lv_tableIn (off := 107) (tgt := 108) hx hb dX10_isLetter_1 (Int.not_lt.mpr c1) (Int.not_lt.mpr c1b) (by rw [c1k]; rfl) (by decide) ?_
        refine lv_iconst (v := 1) hx hb dX10_isLetter_108 (by decide) ?_
        exact end_z C hr hlocks (by decide) () hW (by first | exact Or.inl ⟨by decide, by omega⟩) dX10_isLetter_109
      · refine lv_tableIn (off := 109) (tgt := 110) hx hb dX10_isLetter_1 (Int.not_lt.mpr c1) (Int.not_lt.mpr c1b) (by rw [c1k]; rfl) (by decide) ?_
        refine lv_iconst (v := 0) hx hb dX10_isLetter_110 (by decide) ?_
        exact end_z C hr hlocks (by decide) () hW (by first | exact Or.inr (⟨by decide, by omega⟩)) dX10_isLetter_111
      · refine lv_tableIn (off := 109) (tgt := 110) hx hb dX10_isLetter_1 (Int.not_lt.mpr c1) (Int.not_lt.mpr c1b) (by rw [c1k]; rfl) (by decide) ?_
        refine lv_iconst (v := 0) hx hb dX10_isLetter_110 (by decide) ?_
        exact end_z C hr hlocks (by decide) () hW (by first | exact Or.inr (⟨by decide, by omega⟩)) dX10_isLetter_111
      · refine lv_tableIn (off := 107) (tgt := 108) hx hb dX10_isLetter_1 (Int.not_lt.mpr c1) (Int.not_lt.mpr c1b) (by rw [c1k]; rfl) (by decide) ?_
        refine lv_iconst (v := 1) hx hb dX10_isLetter_108 (by decide) ?_
        exact end_z C hr hlocks (by decide) () hW (by first | exact Or.inl ⟨by decide, by omega⟩) dX10_isLetter_109
      · refine lv_tableIn (off := 107) (tgt := 108) hx hb dX10_isLetter_1 (Int.not_lt.mpr c1) (Int.not_lt.mpr c1b) (by rw [c1k]; rfl) (by decide) ?_
        refine lv_iconst (v := 1) hx hb dX10_isLetter_108 (by decide) ?_
        exact end_z C hr hlocks (by decide) () hW (by first | exact Or.inl ⟨by decide, by omega⟩) dX10_isLetter_109

set_option maxHeartbeats 4000000 in
set_option maxRecDepth 100000 in
theorem c_X10_isDigit_e (l : Launch) (g : gG) (J : Nat → Nat → Int32) (L : Nat → Nat → Int64) (I : Nat → Nat → Nat → Int32) (P : Nat → Nat → Nat → Option Nat) (E : Nat → Option Nat) (N : Nat → Nat) (dy : List (Nat × Nat)) (sz : Nat) (a0 : Int32)  : Met l yX10_isDigit (WS yX10_isDigit cX10_isDigit 1 (some .boolean)) (RM (1) 0 0) (PC g [.int a0] ((J, L, I, P, E, N), sgX g ++ dy) sz) (va_Qi (fun (r : Int32) (u : Unit) => ((r.toInt = 1 ∧ (48 ≤ a0.toInt ∧ a0.toInt ≤ 57)) ∨ (r.toInt = 0 ∧ (¬ (48 ≤ a0.toInt ∧ a0.toInt ≤ 57))))) (fun u t => at_ g (FR g ((J, L, I, P, E, N), sgX g ++ dy) sz) ((J, L, I, P, E, N), sgX g ++ dy) t) (FR g ((J, L, I, P, E, N), sgX g ++ dy) sz)) 0 0 (FR g ((J, L, I, P, E, N), sgX g ++ dy) sz) := by
  refine ent (by decide +kernel) (Nat.le_of_ble_eq_true rfl) ?_
  intro p e s m below meth c ls hsz C hW hr hlocks hname hl
  generalize FR g ((J, L, I, P, E, N), sgX g ++ dy) sz = A at C hW ⊢
  have hx := C.1.1
  have hb := C.1.2.1
  have hts := C.1.2.2.2.2
  have hl : lv_has ls 1 [(0, .int a0)] := hl
  obtain ⟨H, hH⟩ : ∃ H : Heap, H = s.heap := ⟨_, rfl⟩
  obtain ⟨locs, hlocs⟩ : ∃ q : List Loc, q = [] := ⟨_, rfl⟩
  have hW : WB g A s.heap H locs (J, L, I, P, E, N) (sgX g ++ dy) := by rw [hH, hlocs]; exact hW
  refine start_ hH hlocs ?_
  refine lv_iload_n hx hb dX10_isDigit_0 rfl (lv_at hl 0 rfl) ?_
  refine lv_bipush (v := 48) hx hb dX10_isDigit_1 (by decide) ?_
  refine lv_icmp_lt (tgt := 16) hx hb dX10_isDigit_3 (by decide) (fun c1 => ?_) (fun c1 => ?_)
  · have c1 : a0.toInt < 48 := tlt rfl kp48 c1
    refine lv_iconst (v := 0) hx hb dX10_isDigit_16 (by decide) ?_
    exact end_z C hr hlocks (by decide) () hW (by first | exact Or.inr (⟨by decide, by omega⟩)) dX10_isDigit_17
  · have c1 : 48 ≤ a0.toInt := tnlt rfl kp48 c1
    refine lv_iload_n hx hb dX10_isDigit_6 rfl (lv_at hl 0 rfl) ?_
    refine lv_bipush (v := 57) hx hb dX10_isDigit_7 (by decide) ?_
    refine lv_icmp_gt (tgt := 16) hx hb dX10_isDigit_9 (by decide) (fun c2 => ?_) (fun c2 => ?_)
    · have c2 : 57 < a0.toInt := tlt kp57 rfl c2
      refine lv_iconst (v := 0) hx hb dX10_isDigit_16 (by decide) ?_
      exact end_z C hr hlocks (by decide) () hW (by first | exact Or.inr (⟨by decide, by omega⟩)) dX10_isDigit_17
    · have c2 : a0.toInt ≤ 57 := tnlt kp57 rfl c2
      refine lv_iconst (v := 1) hx hb dX10_isDigit_12 (by decide) ?_
      refine lv_goto (tgt := 17) hx hb dX10_isDigit_13 (by decide) ?_
      exact end_z C hr hlocks (by decide) () hW (by first | exact Or.inl ⟨by decide, by omega⟩) dX10_isDigit_17

set_option maxHeartbeats 4000000 in
set_option maxRecDepth 100000 in
theorem c_X10_next_e (l : Launch) (g : gG) (J : Nat → Nat → Int32) (L : Nat → Nat → Int64) (I : Nat → Nat → Nat → Int32) (P : Nat → Nat → Nat → Option Nat) (E : Nat → Option Nat) (N : Nat → Nat) (dy : List (Nat × Nat)) (sz : Nat)  (hpl : 0 ≤ (J 11 4).toInt ∧ (J 11 2).toInt ≤ 60) : Met l yX10_next (WS yX10_next cX10_next 1 (some .int)) (RM (1) 0 0) (PC g [.ref (g.2.2.1 11)] ((J, L, I, P, E, N), sgX g ++ dy) sz) (va_Qi (fun (r : Int32) (u : Unit) => (r.toInt = NX (J 43) (J 11 2) (J 11 4).toInt.toNat) ∧ (r.toInt = -1 ∨ (J 11 4).toInt < (J 11 2).toInt)) (fun u t => at_ g (FR g ((J, L, I, P, E, N), sgX g ++ dy) sz) ((J, L, I, P, E, N), sgX g ++ dy) t) (FR g ((J, L, I, P, E, N), sgX g ++ dy) sz)) 0 0 (FR g ((J, L, I, P, E, N), sgX g ++ dy) sz) := by
  refine ent (by decide +kernel) (Nat.le_of_ble_eq_true rfl) ?_
  intro p e s m below meth c ls hsz C hW hr hlocks hname hl
  generalize FR g ((J, L, I, P, E, N), sgX g ++ dy) sz = A at C hW ⊢
  have hx := C.1.1
  have hb := C.1.2.1
  have hts := C.1.2.2.2.2
  have hl : lv_has ls 1 [(0, .ref (g.2.2.1 11))] := hl
  obtain ⟨H, hH⟩ : ∃ H : Heap, H = s.heap := ⟨_, rfl⟩
  obtain ⟨locs, hlocs⟩ : ∃ q : List Loc, q = [] := ⟨_, rfl⟩
  have hW : WB g A s.heap H locs (J, L, I, P, E, N) (sgX g ++ dy) := by rw [hH, hlocs]; exact hW
  refine start_ hH hlocs ?_
  refine lv_aload_n hx hb dX10_next_0 rfl (lv_at hl 0 rfl) ?_
  refine rg_11_4 C hW (mx_ rfl) tw_305 dX10_next_1 ?_
  refine lv_if_lt (tgt := 42) hx hb dX10_next_4 (by decide) (fun c1 => ?_) (fun c1 => ?_)
  · have c1 : (J 11 4).toInt < 0 := tlt rfl kp0 c1
    refine lv_iconst (v := (-1)) hx hb dX10_next_42 (by decide) ?_
    exact end_i C hr hlocks () hW ⟨show (-1) = NX (J 43) (J 11 2) (J 11 4).toInt.toNat from by first | exact (nx_end (by omega)).symm | (exfalso; omega) | (rw [nx_at (by omega)]; exact congrArg Int32.toInt (by assumption)), show (-1) = -1 ∨ (J 11 4).toInt < (J 11 2).toInt from by first | exact Or.inl rfl | omega⟩ dX10_next_43
  · have c1 : 0 ≤ (J 11 4).toInt := tnlt rfl kp0 c1
    refine lv_aload_n hx hb dX10_next_7 rfl (lv_at hl 0 rfl) ?_
    refine rg_11_4 C hW (mx_ rfl) tw_305 dX10_next_8 ?_
    refine lv_aload_n hx hb dX10_next_11 rfl (lv_at hl 0 rfl) ?_
    refine rg_11_2 C hW (mx_ rfl) tw_302 dX10_next_12 ?_
    refine lv_icmp_ge (tgt := 42) hx hb dX10_next_15 (by decide) (fun c2 => ?_) (fun c2 => ?_)
    · have c2 : (J 11 2).toInt ≤ (J 11 4).toInt := tle rfl rfl c2
      refine lv_iconst (v := (-1)) hx hb dX10_next_42 (by decide) ?_
      exact end_i C hr hlocks () hW ⟨show (-1) = NX (J 43) (J 11 2) (J 11 4).toInt.toNat from by first | exact (nx_end (by omega)).symm | (exfalso; omega) | (rw [nx_at (by omega)]; exact congrArg Int32.toInt (by assumption)), show (-1) = -1 ∨ (J 11 4).toInt < (J 11 2).toInt from by first | exact Or.inl rfl | omega⟩ dX10_next_43
    · have c2 : (J 11 4).toInt < (J 11 2).toInt := tnle rfl rfl c2
      refine lv_aload_n hx hb dX10_next_18 rfl (lv_at hl 0 rfl) ?_
      refine rg_11_4 C hW (mx_ rfl) tw_305 dX10_next_19 ?_
      refine lv_aload_n hx hb dX10_next_22 rfl (lv_at hl 0 rfl) ?_
      refine rg_11_0 C hW (mx_ rfl) tw_300 dX10_next_23 ?_
      refine rl_43 C hW (mx_ rfl) dX10_next_26 ?_
      refine lv_icmp_ge (tgt := 42) hx hb dX10_next_27 (by decide) (fun c3 => ?_) (fun c3 => ?_)
      · have c3 : 60 ≤ (J 11 4).toInt := tle kp60 rfl c3
        refine lv_iconst (v := (-1)) hx hb dX10_next_42 (by decide) ?_
        exact end_i C hr hlocks () hW ⟨show (-1) = NX (J 43) (J 11 2) (J 11 4).toInt.toNat from by first | exact (nx_end (by omega)).symm | (exfalso; omega) | (rw [nx_at (by omega)]; exact congrArg Int32.toInt (by assumption)), show (-1) = -1 ∨ (J 11 4).toInt < (J 11 2).toInt from by first | exact Or.inl rfl | omega⟩ dX10_next_43
      · have c3 : (J 11 4).toInt < 60 := tnle kp60 rfl c3
        refine lv_aload_n hx hb dX10_next_30 rfl (lv_at hl 0 rfl) ?_
        refine rg_11_0 C hW (mx_ rfl) tw_300 dX10_next_31 ?_
        refine lv_aload_n hx hb dX10_next_34 rfl (lv_at hl 0 rfl) ?_
        refine rg_11_4 C hW (mx_ rfl) tw_305 dX10_next_35 ?_
        have hin : vp_in (J 11 4) 60 := tin rfl (by omega)
        refine ra_43 C hW (mx_ rfl) hin dX10_next_38 ?_
        refine lv_topi (fun x4 (e4 : x4 = J 43 ((J 11 4).toNatClampNeg)) => ?_)
        refine lv_goto (tgt := 43) hx hb dX10_next_39 (by decide) ?_
        exact end_i C hr hlocks () hW ⟨show x4.toInt = NX (J 43) (J 11 2) (J 11 4).toInt.toNat from by first | exact (nx_end (by omega)).symm | (exfalso; omega) | (rw [nx_at (by omega)]; exact congrArg Int32.toInt (by assumption)), show x4.toInt = -1 ∨ (J 11 4).toInt < (J 11 2).toInt from by first | exact Or.inl rfl | omega⟩ dX10_next_43

set_option maxHeartbeats 4000000 in
set_option maxRecDepth 100000 in
theorem c_X10_emit_e (l : Launch) (g : gG) (J : Nat → Nat → Int32) (L : Nat → Nat → Int64) (I : Nat → Nat → Nat → Int32) (P : Nat → Nat → Nat → Option Nat) (E : Nat → Option Nat) (N : Nat → Nat) (dy : List (Nat × Nat)) (sz : Nat) (a0 : Int32) (hcl : 0 ≤ (J 11 3).toInt ∧ (J 11 3).toInt ≤ 59) : Met l yX10_emit (WS yX10_emit cX10_emit 2 none) (RM (1) 0 0) (PC g [.ref (g.2.2.1 11), .int a0] ((J, L, I, P, E, N), sgX g ++ dy) sz) (va_Qv (fun (u : (Nat → Nat → Int32)) => ((u 11 3).toInt = (J 11 3).toInt + 1) ∧ (u 44 = up2 J 44 (J 11 3).toInt.toNat a0 44)) (fun u t => at_ g (FR g ((J, L, I, P, E, N), sgX g ++ dy) sz) (((hv J [44] [(11, 3)] u), L, I, P, E, N), sgX g ++ dy) t) (FR g ((J, L, I, P, E, N), sgX g ++ dy) sz)) 0 0 (FR g ((J, L, I, P, E, N), sgX g ++ dy) sz) := by
  refine ent (by decide +kernel) (Nat.le_of_ble_eq_true rfl) ?_
  intro p e s m below meth c ls hsz C hW hr hlocks hname hl
  generalize FR g ((J, L, I, P, E, N), sgX g ++ dy) sz = A at C hW ⊢
  have hx := C.1.1
  have hb := C.1.2.1
  have hts := C.1.2.2.2.2
  have hl : lv_has ls 2 [(0, .ref (g.2.2.1 11)), (1, .int a0)] := hl
  obtain ⟨H, hH⟩ : ∃ H : Heap, H = s.heap := ⟨_, rfl⟩
  obtain ⟨locs, hlocs⟩ : ∃ q : List Loc, q = [] := ⟨_, rfl⟩
  have hW : WB g A s.heap H locs (J, L, I, P, E, N) (sgX g ++ dy) := by rw [hH, hlocs]; exact hW
  refine start_ hH hlocs ?_
  refine lv_aload_n hx hb dX10_emit_0 rfl (lv_at hl 0 rfl) ?_
  refine rg_11_3 C hW (mx_ rfl) tw_304 dX10_emit_1 ?_
  refine lv_if_lt (tgt := 39) hx hb dX10_emit_4 (by decide) (fun c1 => ?_) (fun c1 => ?_)
  · have c1 : (J 11 3).toInt < 0 := tlt rfl kp0 c1
    have hWr : WB g A s.heap H locs ((hv J [44] [(11, 3)] J), L, I, P, E, N) (sgX g ++ dy) := by
      rw [← ag_hvE (J := J) (R := [44]) (F := [(11, 3)]) ag_rf]
      exact hW
    exact end_v C hr hlocks J hWr ⟨show (J 11 3).toInt = (J 11 3).toInt + 1 from by first | omega | (exfalso; omega), show J 44 = up2 J 44 (J 11 3).toInt.toNat a0 44 from by first | rfl | (exfalso; omega)⟩ dX10_emit_39
  · have c1 : 0 ≤ (J 11 3).toInt := tnlt rfl kp0 c1
    refine lv_aload_n hx hb dX10_emit_7 rfl (lv_at hl 0 rfl) ?_
    refine rg_11_3 C hW (mx_ rfl) tw_304 dX10_emit_8 ?_
    refine lv_aload_n hx hb dX10_emit_11 rfl (lv_at hl 0 rfl) ?_
    refine rg_11_1 C hW (mx_ rfl) tw_301 dX10_emit_12 ?_
    refine rl_44 C hW (mx_ rfl) dX10_emit_15 ?_
    refine lv_icmp_ge (tgt := 39) hx hb dX10_emit_16 (by decide) (fun c2 => ?_) (fun c2 => ?_)
    · have c2 : 60 ≤ (J 11 3).toInt := tle kp60 rfl c2
      have hWr : WB g A s.heap H locs ((hv J [44] [(11, 3)] J), L, I, P, E, N) (sgX g ++ dy) := by
        rw [← ag_hvE (J := J) (R := [44]) (F := [(11, 3)]) ag_rf]
        exact hW
      exact end_v C hr hlocks J hWr ⟨show (J 11 3).toInt = (J 11 3).toInt + 1 from by first | omega | (exfalso; omega), show J 44 = up2 J 44 (J 11 3).toInt.toNat a0 44 from by first | rfl | (exfalso; omega)⟩ dX10_emit_39
    · have c2 : (J 11 3).toInt < 60 := tnle kp60 rfl c2
      refine lv_aload_n hx hb dX10_emit_19 rfl (lv_at hl 0 rfl) ?_
      refine rg_11_1 C hW (mx_ rfl) tw_301 dX10_emit_20 ?_
      refine lv_aload_n hx hb dX10_emit_23 rfl (lv_at hl 0 rfl) ?_
      refine rg_11_3 C hW (mx_ rfl) tw_304 dX10_emit_24 ?_
      refine lv_iload_n hx hb dX10_emit_27 rfl (lv_at hl 1 rfl) ?_
      have hin : vp_in (J 11 3) 60 := tin rfl (by omega)
      refine rs_44 C hW (mx_ rfl) hin dX10_emit_28 (fun H locs hW => ?_)
      refine lv_aload_n hx hb dX10_emit_29 rfl (lv_at hl 0 rfl) ?_
      refine lv_dup hx hb dX10_emit_30 rfl ?_
      refine rg_11_3 C hW (mx_ rfl) tw_304 dX10_emit_31 ?_
      refine lv_as (J 11 3) rfl ?_
      refine lv_iconst (v := 1) hx hb dX10_emit_34 (by decide) ?_
      refine lv_iadd hx hb dX10_emit_35 ?_
      refine lv_topi (fun x3 (e3 : x3 = (J 11 3) + 1) => ?_)
      try have t3 : x3.toInt = (J 11 3).toInt + 1 := tadd e3 rfl kp1 (by omega)
      refine rp_11_3 C hW (mx_ rfl) tw_304 dX10_emit_36 (fun H locs hW => ?_)
      have hWr : WB g A s.heap H locs ((hv J [44] [(11, 3)] (up2 (up2 J 44 ((J 11 3).toNatClampNeg) a0) 11 3 x3)), L, I, P, E, N) (sgX g ++ dy) := by
        rw [← ag_hvE (J := J) (R := [44]) (F := [(11, 3)]) (ag_up (Or.inr rfl) (ag_up (Or.inl rfl) ag_rf))]
        exact hW
      exact end_v C hr hlocks (up2 (up2 J 44 ((J 11 3).toNatClampNeg) a0) 11 3 x3) hWr ⟨show (x3).toInt = (J 11 3).toInt + 1 from by first | omega | (exfalso; omega), show (up2 J 44 ((J 11 3).toNatClampNeg) a0) 44 = up2 J 44 (J 11 3).toInt.toNat a0 44 from by first | rfl | (exfalso; omega)⟩ dX10_emit_39

set_option maxHeartbeats 4000000 in
set_option maxRecDepth 100000 in
theorem c_X10_take_e (l : Launch) (g : gG) (J : Nat → Nat → Int32) (L : Nat → Nat → Int64) (I : Nat → Nat → Nat → Int32) (P : Nat → Nat → Nat → Option Nat) (E : Nat → Option Nat) (N : Nat → Nat) (dy : List (Nat × Nat)) (sz : Nat) (a0 : Int32) (hlen : 0 ≤ (J 11 2).toInt ∧ (J 11 2).toInt ≤ 59) : Met l yX10_take (WS yX10_take cX10_take 2 none) (RM (1) 0 0) (PC g [.ref (g.2.2.1 11), .int a0] ((J, L, I, P, E, N), sgX g ++ dy) sz) (va_Qv (fun (u : (Nat → Nat → Int32)) => ((u 11 2).toInt = (J 11 2).toInt + 1) ∧ (u 43 = up2 J 43 (J 11 2).toInt.toNat a0 43)) (fun u t => at_ g (FR g ((J, L, I, P, E, N), sgX g ++ dy) sz) (((hv J [43] [(11, 2)] u), L, I, P, E, N), sgX g ++ dy) t) (FR g ((J, L, I, P, E, N), sgX g ++ dy) sz)) 0 0 (FR g ((J, L, I, P, E, N), sgX g ++ dy) sz) := by
  refine ent (by decide +kernel) (Nat.le_of_ble_eq_true rfl) ?_
  intro p e s m below meth c ls hsz C hW hr hlocks hname hl
  generalize FR g ((J, L, I, P, E, N), sgX g ++ dy) sz = A at C hW ⊢
  have hx := C.1.1
  have hb := C.1.2.1
  have hts := C.1.2.2.2.2
  have hl : lv_has ls 2 [(0, .ref (g.2.2.1 11)), (1, .int a0)] := hl
  obtain ⟨H, hH⟩ : ∃ H : Heap, H = s.heap := ⟨_, rfl⟩
  obtain ⟨locs, hlocs⟩ : ∃ q : List Loc, q = [] := ⟨_, rfl⟩
  have hW : WB g A s.heap H locs (J, L, I, P, E, N) (sgX g ++ dy) := by rw [hH, hlocs]; exact hW
  refine start_ hH hlocs ?_
  refine lv_aload_n hx hb dX10_take_0 rfl (lv_at hl 0 rfl) ?_
  refine rg_11_2 C hW (mx_ rfl) tw_302 dX10_take_1 ?_
  refine lv_if_lt (tgt := 39) hx hb dX10_take_4 (by decide) (fun c1 => ?_) (fun c1 => ?_)
  · have c1 : (J 11 2).toInt < 0 := tlt rfl kp0 c1
    have hWr : WB g A s.heap H locs ((hv J [43] [(11, 2)] J), L, I, P, E, N) (sgX g ++ dy) := by
      rw [← ag_hvE (J := J) (R := [43]) (F := [(11, 2)]) ag_rf]
      exact hW
    exact end_v C hr hlocks J hWr ⟨show (J 11 2).toInt = (J 11 2).toInt + 1 from by first | omega | (exfalso; omega), show J 43 = up2 J 43 (J 11 2).toInt.toNat a0 43 from by first | rfl | (exfalso; omega)⟩ dX10_take_39
  · have c1 : 0 ≤ (J 11 2).toInt := tnlt rfl kp0 c1
    refine lv_aload_n hx hb dX10_take_7 rfl (lv_at hl 0 rfl) ?_
    refine rg_11_2 C hW (mx_ rfl) tw_302 dX10_take_8 ?_
    refine lv_aload_n hx hb dX10_take_11 rfl (lv_at hl 0 rfl) ?_
    refine rg_11_0 C hW (mx_ rfl) tw_300 dX10_take_12 ?_
    refine rl_43 C hW (mx_ rfl) dX10_take_15 ?_
    refine lv_icmp_ge (tgt := 39) hx hb dX10_take_16 (by decide) (fun c2 => ?_) (fun c2 => ?_)
    · have c2 : 60 ≤ (J 11 2).toInt := tle kp60 rfl c2
      have hWr : WB g A s.heap H locs ((hv J [43] [(11, 2)] J), L, I, P, E, N) (sgX g ++ dy) := by
        rw [← ag_hvE (J := J) (R := [43]) (F := [(11, 2)]) ag_rf]
        exact hW
      exact end_v C hr hlocks J hWr ⟨show (J 11 2).toInt = (J 11 2).toInt + 1 from by first | omega | (exfalso; omega), show J 43 = up2 J 43 (J 11 2).toInt.toNat a0 43 from by first | rfl | (exfalso; omega)⟩ dX10_take_39
    · have c2 : (J 11 2).toInt < 60 := tnle kp60 rfl c2
      refine lv_aload_n hx hb dX10_take_19 rfl (lv_at hl 0 rfl) ?_
      refine rg_11_0 C hW (mx_ rfl) tw_300 dX10_take_20 ?_
      refine lv_aload_n hx hb dX10_take_23 rfl (lv_at hl 0 rfl) ?_
      refine rg_11_2 C hW (mx_ rfl) tw_302 dX10_take_24 ?_
      refine lv_iload_n hx hb dX10_take_27 rfl (lv_at hl 1 rfl) ?_
      have hin : vp_in (J 11 2) 60 := tin rfl (by omega)
      refine rs_43 C hW (mx_ rfl) hin dX10_take_28 (fun H locs hW => ?_)
      refine lv_aload_n hx hb dX10_take_29 rfl (lv_at hl 0 rfl) ?_
      refine lv_dup hx hb dX10_take_30 rfl ?_
      refine rg_11_2 C hW (mx_ rfl) tw_302 dX10_take_31 ?_
      refine lv_as (J 11 2) rfl ?_
      refine lv_iconst (v := 1) hx hb dX10_take_34 (by decide) ?_
      refine lv_iadd hx hb dX10_take_35 ?_
      refine lv_topi (fun x3 (e3 : x3 = (J 11 2) + 1) => ?_)
      try have t3 : x3.toInt = (J 11 2).toInt + 1 := tadd e3 rfl kp1 (by omega)
      refine rp_11_2 C hW (mx_ rfl) tw_302 dX10_take_36 (fun H locs hW => ?_)
      have hWr : WB g A s.heap H locs ((hv J [43] [(11, 2)] (up2 (up2 J 43 ((J 11 2).toNatClampNeg) a0) 11 2 x3)), L, I, P, E, N) (sgX g ++ dy) := by
        rw [← ag_hvE (J := J) (R := [43]) (F := [(11, 2)]) (ag_up (Or.inr rfl) (ag_up (Or.inl rfl) ag_rf))]
        exact hW
      exact end_v C hr hlocks (up2 (up2 J 43 ((J 11 2).toNatClampNeg) a0) 11 2 x3) hWr ⟨show (x3).toInt = (J 11 2).toInt + 1 from by first | omega | (exfalso; omega), show (up2 J 43 ((J 11 2).toNatClampNeg) a0) 43 = up2 J 43 (J 11 2).toInt.toNat a0 43 from by first | rfl | (exfalso; omega)⟩ dX10_take_39

set_option maxHeartbeats 4000000 in
set_option maxRecDepth 100000 in
theorem c_X10_parseNumber_e (l : Launch) (g : gG) (J : Nat → Nat → Int32) (L : Nat → Nat → Int64) (I : Nat → Nat → Nat → Int32) (P : Nat → Nat → Nat → Option Nat) (E : Nat → Option Nat) (N : Nat → Nat) (dy : List (Nat × Nat)) (sz : Nat)  (hpl : 0 ≤ (J 11 4).toInt ∧ (J 11 4).toInt ≤ (J 11 2).toInt ∧ (J 11 2).toInt ≤ 60) (hcl : 0 ≤ (J 11 3).toInt ∧ (J 11 3).toInt ≤ (J 11 4).toInt) (hdg : 48 ≤ NX (J 43) (J 11 2) (J 11 4).toInt.toNat ∧ NX (J 43) (J 11 2) (J 11 4).toInt.toNat ≤ 57) : Met l yX10_parseNumber (WS yX10_parseNumber cX10_parseNumber 3 none) (RM (2) 0 0) (PC g [.ref (g.2.2.1 11)] ((J, L, I, P, E, N), sgX g ++ dy) sz) (va_Qv (fun (u : (Nat → Nat → Int32)) => ((∀ d9 : Nat, (PT (NX (J 43) (J 11 2)) 4 d9 (J 11 4).toInt.toNat (u 11 4).toInt.toNat (cs (u 44) (J 11 3).toInt.toNat (u 11 3).toInt.toNat)))) ∧ ((∀ i : Nat, i < (J 11 3).toInt.toNat → u 44 i = J 44 i)) ∧ (((J 11 4).toInt + 1 ≤ (u 11 4).toInt ∧ (u 11 4).toInt ≤ (J 11 2).toInt ∧ (J 11 3).toInt ≤ (u 11 3).toInt ∧ (u 11 3).toInt - (J 11 3).toInt ≤ (u 11 4).toInt - (J 11 4).toInt))) (fun u t => at_ g (FR g ((J, L, I, P, E, N), sgX g ++ dy) sz) (((hv J [44] [(11, 3), (11, 4)] u), L, I, P, E, N), sgX g ++ dy) t) (FR g ((J, L, I, P, E, N), sgX g ++ dy) sz)) 0 0 (FR g ((J, L, I, P, E, N), sgX g ++ dy) sz) := by
  refine ent (by decide +kernel) (Nat.le_of_ble_eq_true rfl) ?_
  intro p e s m below meth c ls hsz C hW hr hlocks hname hl
  generalize FR g ((J, L, I, P, E, N), sgX g ++ dy) sz = A at C hW ⊢
  have hx := C.1.1
  have hb := C.1.2.1
  have hts := C.1.2.2.2.2
  have hl : lv_has ls 3 [(0, .ref (g.2.2.1 11))] := hl
  obtain ⟨H, hH⟩ : ∃ H : Heap, H = s.heap := ⟨_, rfl⟩
  obtain ⟨locs, hlocs⟩ : ∃ q : List Loc, q = [] := ⟨_, rfl⟩
  have hW : WB g A s.heap H locs (J, L, I, P, E, N) (sgX g ++ dy) := by rw [hH, hlocs]; exact hW
  refine start_ hH hlocs ?_
  refine lv_iconst (v := 0) hx hb dX10_parseNumber_0 (by decide) ?_
  refine lv_istore_n (lv' := [(1, .int 0), (0, .ref (g.2.2.1 11))]) hx hb dX10_parseNumber_1 rfl hl (by decide) rfl (fun ls hl => ?_)
  refine lv_iconst (v := 0) hx hb dX10_parseNumber_2 (by decide) ?_
  refine lv_istore_n (lv' := [(2, .int 0), (1, .int 0), (0, .ref (g.2.2.1 11))]) hx hb dX10_parseNumber_3 rfl hl (by decide) rfl (fun ls hl => ?_)
  have loop4 : ∀ (n : Nat) (m1 : Int32) (m2 : Int32) (Gl1 : Nat → Nat → Int32) (H : Heap) (locs : List Loc) (ls : Array Slot), (5 - m2.toInt).toNat < n → 0 ≤ m2.toInt ∧ m2.toInt ≤ 5 → (J 11 4).toInt ≤ (Gl1 11 4).toInt ∧ (Gl1 11 4).toInt ≤ (J 11 2).toInt ∧ (((Gl1 11 4).toInt = (J 11 4).toInt ∧ m2.toInt = 0) ∨ (J 11 4).toInt + 1 ≤ (Gl1 11 4).toInt) → (0 ≤ m1.toInt ∧ (m2.toInt = 0 → m1.toInt ≤ 0) ∧ (m2.toInt = 1 → m1.toInt ≤ 9) ∧ (m2.toInt = 2 → m1.toInt ≤ 99) ∧ (m2.toInt = 3 → m1.toInt ≤ 999) ∧ (m2.toInt = 4 → m1.toInt ≤ 9999) ∧ (m2.toInt = 5 → m1.toInt ≤ 99999)) → pnum (NX (J 43) (J 11 2)) (5 - m2.toInt).toNat (Gl1 11 4).toInt.toNat m1.toInt = pnum (NX (J 43) (J 11 2)) 5 (J 11 4).toInt.toNat 0 → WB g A s.heap H locs ((hv J [] [(11, 4)] Gl1), L, I, P, E, N) (sgX g ++ dy) → lv_has ls 3 [(2, .int m2), (1, .int m1), (0, .ref (g.2.2.1 11))] → W p l e (RM (2) 0 0) s m ([.ref (g.2.2.1 11)] : List Value).toArray below meth c H locs 0 0 (MQ below (va_Qv (fun (u : (Nat → Nat → Int32)) => ((∀ d9 : Nat, (PT (NX (J 43) (J 11 2)) 4 d9 (J 11 4).toInt.toNat (u 11 4).toInt.toNat (cs (u 44) (J 11 3).toInt.toNat (u 11 3).toInt.toNat)))) ∧ ((∀ i : Nat, i < (J 11 3).toInt.toNat → u 44 i = J 44 i)) ∧ (((J 11 4).toInt + 1 ≤ (u 11 4).toInt ∧ (u 11 4).toInt ≤ (J 11 2).toInt ∧ (J 11 3).toInt ≤ (u 11 3).toInt ∧ (u 11 3).toInt - (J 11 3).toInt ≤ (u 11 4).toInt - (J 11 4).toInt))) (fun u t => at_ g A (((hv J [44] [(11, 3), (11, 4)] u), L, I, P, E, N), sgX g ++ dy) t) A) ([.ref (g.2.2.1 11)] : List Value).toArray s 0 0 A) (F0 m 4 ls []) := by
    intro n
    induction n with
    | zero => intro m1 m2 Gl1 H locs ls hmeas; exact absurd hmeas (Nat.not_lt_zero _)
    | succ n ih =>
      intro m1 m2 Gl1 H locs ls hmeas hi hp hvv hpn hW hl
      refine lv_iload_n hx hb dX10_parseNumber_4 rfl (lv_at hl 0 rfl) ?_
      refine lv_iconst (v := 5) hx hb dX10_parseNumber_5 (by decide) ?_
      refine lv_icmp_ge (tgt := 48) hx hb dX10_parseNumber_6 (by decide) (fun c2 => ?_) (fun c2 => ?_)
      · have c2 : 5 ≤ m2.toInt := tle kp5 rfl c2
        have hpg := pn_ge (f := (NX (J 43) (J 11 2))) hp.2.2 hdg (by omega)
        refine lv_aload_n hx hb dX10_parseNumber_48 rfl (lv_at hl 2 rfl) ?_
        refine lv_iload_n hx hb dX10_parseNumber_49 rfl (lv_at hl 1 rfl) ?_
        refine cv_ C hW (runV (x := (g.2.2.1 11)) (As := [.int m1]) (rest := []) (T := (((hv J [] [(11, 4)] Gl1), L, I, P, E, N), sgX g ++ dy)) C hW (c_X10_emit_e l g (hv J [] [(11, 4)] Gl1) L I P E N dy H.size m1 (show 0 ≤ (J 11 3).toInt ∧ (J 11 3).toInt ≤ 59 from by omega)) mi_X10_emit tw_764 (recv_ (T := (((hv J [] [(11, 4)] Gl1), L, I, P, E, N), sgX g ++ dy)) C hW (mx_ rfl) rfl rfl) ⟨rfl, rfl, Nat.le_of_ble_eq_true rfl, Nat.le_of_ble_eq_true rfl⟩ rfl hl.1 rfl (Nat.le_of_ble_eq_true rfl) dX10_parseNumber_50 ⟨Nat.le_of_ble_eq_true rfl, Nat.le_of_ble_eq_true rfl⟩) (fun u3 H locs hp3 hW => ?_)
        obtain ⟨hf3_0, hf3_1⟩ : ((u3 11 3).toInt = (J 11 3).toInt + 1) ∧ (u3 44 = up2 J 44 (J 11 3).toInt.toNat m1 44) := hp3
        have hW : WB g A s.heap H locs ((hv (hv J [] [(11, 4)] Gl1) [44] [(11, 3)] u3), L, I, P, E, N) (sgX g ++ dy) := hW
        have hE0 := hf3_0
        have hE1 := hf3_1
        have hWr : WB g A s.heap H locs ((hv J [44] [(11, 3), (11, 4)] (hv (hv J [] [(11, 4)] Gl1) [44] [(11, 3)] u3)), L, I, P, E, N) (sgX g ++ dy) := by
          rw [← ag_hvE (J := J) (R := [44]) (F := [(11, 3), (11, 4)]) (ag_hv rfl rfl (ag_hv rfl rfl ag_rf))]
          exact hW
        exact end_v C hr hlocks (hv (hv J [] [(11, 4)] Gl1) [44] [(11, 3)] u3) hWr ⟨show (∀ d9 : Nat, (PT (NX (J 43) (J 11 2)) 4 d9 (J 11 4).toInt.toNat (Gl1 11 4).toInt.toNat (cs (u3 44) (J 11 3).toInt.toNat (u3 11 3).toInt.toNat))) from by exact fun d9 => pnr (by omega) (pn_end hpn (by omega)) (by omega) ((congrArg Int32.toInt ((congrFun hE1 _).trans (up2_s _ _ _ _))).trans (by omega)), show (∀ i : Nat, i < (J 11 3).toInt.toNat → u3 44 i = J 44 i) from by exact (fun i hi => (congrFun hE1 i).trans (up2_f _ _ _ (by omega))), show ((J 11 4).toInt + 1 ≤ (Gl1 11 4).toInt ∧ (Gl1 11 4).toInt ≤ (J 11 2).toInt ∧ (J 11 3).toInt ≤ (u3 11 3).toInt ∧ (u3 11 3).toInt - (J 11 3).toInt ≤ (Gl1 11 4).toInt - (J 11 4).toInt) from by omega⟩ dX10_parseNumber_53
      · have c2 : m2.toInt < 5 := tnle kp5 rfl c2
        refine lv_aload_n hx hb dX10_parseNumber_9 rfl (lv_at hl 2 rfl) ?_
        refine ci_ C hW (runV (x := (g.2.2.1 11)) (As := []) (rest := []) (T := (((hv J [] [(11, 4)] Gl1), L, I, P, E, N), sgX g ++ dy)) C hW (c_X10_next_e l g (hv J [] [(11, 4)] Gl1) L I P E N dy H.size  (show 0 ≤ (Gl1 11 4).toInt ∧ (J 11 2).toInt ≤ 60 from by omega)) mi_X10_next tw_756 (recv_ (T := (((hv J [] [(11, 4)] Gl1), L, I, P, E, N), sgX g ++ dy)) C hW (mx_ rfl) rfl rfl) ⟨rfl, rfl, Nat.le_of_ble_eq_true rfl, Nat.le_of_ble_eq_true rfl⟩ rfl hl.1 rfl (Nat.le_of_ble_eq_true rfl) dX10_parseNumber_10 ⟨Nat.le_of_ble_eq_true rfl, Nat.le_of_ble_eq_true rfl⟩) (fun r4 u4 H locs hp4 hW => ?_)
        obtain ⟨hf4_0, hf4_1⟩ : (r4.toInt = NX (J 43) (J 11 2) (Gl1 11 4).toInt.toNat) ∧ (r4.toInt = -1 ∨ (Gl1 11 4).toInt < (J 11 2).toInt) := hp4
        have hW : WB g A s.heap H locs ((hv J [] [(11, 4)] Gl1), L, I, P, E, N) (sgX g ++ dy) := hW
        refine ci_ C hW (runS (As := [.int r4]) (rest := []) (T := (((hv J [] [(11, 4)] Gl1), L, I, P, E, N), sgX g ++ dy)) C hW (c_X10_isDigit_e l g (hv J [] [(11, 4)] Gl1) L I P E N dy H.size r4 ) mi_X10_isDigit tw_768 ⟨rfl, rfl, Nat.le_of_ble_eq_true rfl, Nat.le_of_ble_eq_true rfl⟩ rfl hl.1 rfl (Nat.le_of_ble_eq_true rfl) dX10_parseNumber_13 ⟨Nat.le_of_ble_eq_true rfl, Nat.le_of_ble_eq_true rfl⟩) (fun r5 u5 H locs hp5 hW => ?_)
        have hc5 : ((r5.toInt = 1 ∧ (48 ≤ r4.toInt ∧ r4.toInt ≤ 57)) ∨ (r5.toInt = 0 ∧ (¬ (48 ≤ r4.toInt ∧ r4.toInt ≤ 57)))) := hp5
        clear hp5
        have hW : WB g A s.heap H locs ((hv J [] [(11, 4)] Gl1), L, I, P, E, N) (sgX g ++ dy) := hW
        refine lv_if_eq (tgt := 48) hx hb dX10_parseNumber_16 (by decide) (fun c6 => ?_) (fun c6 => ?_)
        · have c6 : r5.toInt = 0 := teq rfl kp0 c6
          have hpg := pn_ge (f := (NX (J 43) (J 11 2))) hp.2.2 hdg (by omega)
          refine lv_aload_n hx hb dX10_parseNumber_48 rfl (lv_at hl 2 rfl) ?_
          refine lv_iload_n hx hb dX10_parseNumber_49 rfl (lv_at hl 1 rfl) ?_
          refine cv_ C hW (runV (x := (g.2.2.1 11)) (As := [.int m1]) (rest := []) (T := (((hv J [] [(11, 4)] Gl1), L, I, P, E, N), sgX g ++ dy)) C hW (c_X10_emit_e l g (hv J [] [(11, 4)] Gl1) L I P E N dy H.size m1 (show 0 ≤ (J 11 3).toInt ∧ (J 11 3).toInt ≤ 59 from by omega)) mi_X10_emit tw_764 (recv_ (T := (((hv J [] [(11, 4)] Gl1), L, I, P, E, N), sgX g ++ dy)) C hW (mx_ rfl) rfl rfl) ⟨rfl, rfl, Nat.le_of_ble_eq_true rfl, Nat.le_of_ble_eq_true rfl⟩ rfl hl.1 rfl (Nat.le_of_ble_eq_true rfl) dX10_parseNumber_50 ⟨Nat.le_of_ble_eq_true rfl, Nat.le_of_ble_eq_true rfl⟩) (fun u7 H locs hp7 hW => ?_)
          obtain ⟨hf7_0, hf7_1⟩ : ((u7 11 3).toInt = (J 11 3).toInt + 1) ∧ (u7 44 = up2 J 44 (J 11 3).toInt.toNat m1 44) := hp7
          have hW : WB g A s.heap H locs ((hv (hv J [] [(11, 4)] Gl1) [44] [(11, 3)] u7), L, I, P, E, N) (sgX g ++ dy) := hW
          have hE0 := hf7_0
          have hE1 := hf7_1
          have hWr : WB g A s.heap H locs ((hv J [44] [(11, 3), (11, 4)] (hv (hv J [] [(11, 4)] Gl1) [44] [(11, 3)] u7)), L, I, P, E, N) (sgX g ++ dy) := by
            rw [← ag_hvE (J := J) (R := [44]) (F := [(11, 3), (11, 4)]) (ag_hv rfl rfl (ag_hv rfl rfl ag_rf))]
            exact hW
          exact end_v C hr hlocks (hv (hv J [] [(11, 4)] Gl1) [44] [(11, 3)] u7) hWr ⟨show (∀ d9 : Nat, (PT (NX (J 43) (J 11 2)) 4 d9 (J 11 4).toInt.toNat (Gl1 11 4).toInt.toNat (cs (u7 44) (J 11 3).toInt.toNat (u7 11 3).toInt.toNat))) from by exact fun d9 => pnr (by omega) (pn_end hpn (by omega)) (by omega) ((congrArg Int32.toInt ((congrFun hE1 _).trans (up2_s _ _ _ _))).trans (by omega)), show (∀ i : Nat, i < (J 11 3).toInt.toNat → u7 44 i = J 44 i) from by exact (fun i hi => (congrFun hE1 i).trans (up2_f _ _ _ (by omega))), show ((J 11 4).toInt + 1 ≤ (Gl1 11 4).toInt ∧ (Gl1 11 4).toInt ≤ (J 11 2).toInt ∧ (J 11 3).toInt ≤ (u7 11 3).toInt ∧ (u7 11 3).toInt - (J 11 3).toInt ≤ (Gl1 11 4).toInt - (J 11 4).toInt) from by omega⟩ dX10_parseNumber_53
        · have c6 : ¬ r5.toInt = 0 := tne rfl kp0 c6
          refine lv_bipush (v := 10) hx hb dX10_parseNumber_19 (by decide) ?_
          refine lv_iload_n hx hb dX10_parseNumber_21 rfl (lv_at hl 1 rfl) ?_
          refine lv_imul hx hb dX10_parseNumber_22 ?_
          refine lv_topi (fun x8 (e8 : x8 = 10 * m1) => ?_)
          try have t8 : x8.toInt = 10 * m1.toInt := tmul e8 kp10 rfl (by omega)
          refine lv_aload_n hx hb dX10_parseNumber_23 rfl (lv_at hl 2 rfl) ?_
          refine ci_ C hW (runV (x := (g.2.2.1 11)) (As := []) (rest := [.int x8]) (T := (((hv J [] [(11, 4)] Gl1), L, I, P, E, N), sgX g ++ dy)) C hW (c_X10_next_e l g (hv J [] [(11, 4)] Gl1) L I P E N dy H.size  (show 0 ≤ (Gl1 11 4).toInt ∧ (J 11 2).toInt ≤ 60 from by omega)) mi_X10_next tw_756 (recv_ (T := (((hv J [] [(11, 4)] Gl1), L, I, P, E, N), sgX g ++ dy)) C hW (mx_ rfl) rfl rfl) ⟨rfl, rfl, Nat.le_of_ble_eq_true rfl, Nat.le_of_ble_eq_true rfl⟩ rfl hl.1 rfl (Nat.le_of_ble_eq_true rfl) dX10_parseNumber_24 ⟨Nat.le_of_ble_eq_true rfl, Nat.le_of_ble_eq_true rfl⟩) (fun r9 u9 H locs hp9 hW => ?_)
          obtain ⟨hf9_0, hf9_1⟩ : (r9.toInt = NX (J 43) (J 11 2) (Gl1 11 4).toInt.toNat) ∧ (r9.toInt = -1 ∨ (Gl1 11 4).toInt < (J 11 2).toInt) := hp9
          have hW : WB g A s.heap H locs ((hv J [] [(11, 4)] Gl1), L, I, P, E, N) (sgX g ++ dy) := hW
          refine lv_iadd hx hb dX10_parseNumber_27 ?_
          refine lv_topi (fun x10 (e10 : x10 = x8 + r9) => ?_)
          try have t10 : x10.toInt = x8.toInt + r9.toInt := tadd e10 rfl rfl (by omega)
          refine lv_bipush (v := 48) hx hb dX10_parseNumber_28 (by decide) ?_
          refine lv_isub hx hb dX10_parseNumber_30 ?_
          refine lv_topi (fun x11 (e11 : x11 = x10 - 48) => ?_)
          try have t11 : x11.toInt = x10.toInt - 48 := tsub e11 rfl kp48 (by omega)
          refine lv_istore_n (lv' := [(1, .int x11), (2, .int m2), (0, .ref (g.2.2.1 11))]) hx hb dX10_parseNumber_31 rfl hl (by decide) rfl (fun ls hl => ?_)
          refine lv_aload_n hx hb dX10_parseNumber_32 rfl (lv_at hl 2 rfl) ?_
          refine lv_dup hx hb dX10_parseNumber_33 rfl ?_
          refine rg_11_4 C hW (mx_ rfl) tw_305 dX10_parseNumber_34 ?_
          refine lv_as (Gl1 11 4) rfl ?_
          refine lv_iconst (v := 1) hx hb dX10_parseNumber_37 (by decide) ?_
          refine lv_iadd hx hb dX10_parseNumber_38 ?_
          refine lv_topi (fun x12 (e12 : x12 = (Gl1 11 4) + 1) => ?_)
          try have t12 : x12.toInt = (Gl1 11 4).toInt + 1 := tadd e12 rfl kp1 (by omega)
          refine rp_11_4 C hW (mx_ rfl) tw_305 dX10_parseNumber_39 (fun H locs hW => ?_)
          obtain ⟨x13, e13⟩ : ∃ y : Int32, y = m2 + 1 := ⟨_, rfl⟩
          refine lv_iinc (v := x13) (lv' := [(2, .int x13), (1, .int x11), (0, .ref (g.2.2.1 11))]) hx hb dX10_parseNumber_42 hl (k := 1) rfl (by rw [e13]; rfl) (by decide) rfl (fun ls hl => ?_)
          try have t13 : x13.toInt = m2.toInt + 1 := tadd e13 rfl kp1 (by omega)
          refine lv_goto (tgt := 4) hx hb dX10_parseNumber_45 (by decide) ?_
          have hWl : WB g A s.heap H locs ((hv J [] [(11, 4)] (up2 (hv J [] [(11, 4)] Gl1) 11 4 x12)), L, I, P, E, N) (sgX g ++ dy) := by
            rw [← ag_hvE (J := J) (R := []) (F := [(11, 4)]) (ag_up (Or.inr rfl) (ag_hv rfl rfl ag_rf))]
            exact hW
          refine ih x11 x13 (up2 (hv J [] [(11, 4)] Gl1) 11 4 x12) H locs ls ?_ ?_ ?_ ?_ ?_ hWl (lv_sub hl [0, 1, 2] rfl)
          · show (5 - x13.toInt).toNat < n
            omega
          · show 0 ≤ x13.toInt ∧ x13.toInt ≤ 5
            first | omega | exact hi | assumption
          · show (J 11 4).toInt ≤ (x12).toInt ∧ (x12).toInt ≤ (J 11 2).toInt ∧ (((x12).toInt = (J 11 4).toInt ∧ x13.toInt = 0) ∨ (J 11 4).toInt + 1 ≤ (x12).toInt)
            first | omega | exact hp | assumption
          · show 0 ≤ x11.toInt ∧ (x13.toInt = 0 → x11.toInt ≤ 0) ∧ (x13.toInt = 1 → x11.toInt ≤ 9) ∧ (x13.toInt = 2 → x11.toInt ≤ 99) ∧ (x13.toInt = 3 → x11.toInt ≤ 999) ∧ (x13.toInt = 4 → x11.toInt ≤ 9999) ∧ (x13.toInt = 5 → x11.toInt ≤ 99999)
            first | omega | exact hvv | assumption
          · show pnum (NX (J 43) (J 11 2)) (5 - x13.toInt).toNat (x12).toInt.toNat x11.toInt = pnum (NX (J 43) (J 11 2)) 5 (J 11 4).toInt.toNat 0
            exact pn_step hpn (by omega) (by omega) (by omega) (by omega)
  -- into the loop
  have hWl : WB g A s.heap H locs ((hv J [] [(11, 4)] J), L, I, P, E, N) (sgX g ++ dy) := by
    rw [← ag_hvE (J := J) (R := []) (F := [(11, 4)]) ag_rf]
    exact hW
  refine loop4 ((5 - (0 : Int32).toInt).toNat + 1) 0 0 J H locs ls ?_ ?_ ?_ ?_ ?_ hWl (lv_sub hl [0, 1, 2] rfl)
  · exact Nat.lt_succ_self _
  · show 0 ≤ (0 : Int32).toInt ∧ (0 : Int32).toInt ≤ 5
    try rw [kp0]
    try rw [kp0]
    first | omega | exact hi | assumption
  · show (J 11 4).toInt ≤ (J 11 4).toInt ∧ (J 11 4).toInt ≤ (J 11 2).toInt ∧ (((J 11 4).toInt = (J 11 4).toInt ∧ (0 : Int32).toInt = 0) ∨ (J 11 4).toInt + 1 ≤ (J 11 4).toInt)
    try rw [kp0]
    try rw [kp0]
    first | omega | exact hp | assumption
  · show 0 ≤ (0 : Int32).toInt ∧ ((0 : Int32).toInt = 0 → (0 : Int32).toInt ≤ 0) ∧ ((0 : Int32).toInt = 1 → (0 : Int32).toInt ≤ 9) ∧ ((0 : Int32).toInt = 2 → (0 : Int32).toInt ≤ 99) ∧ ((0 : Int32).toInt = 3 → (0 : Int32).toInt ≤ 999) ∧ ((0 : Int32).toInt = 4 → (0 : Int32).toInt ≤ 9999) ∧ ((0 : Int32).toInt = 5 → (0 : Int32).toInt ≤ 99999)
    try rw [kp0]
    try rw [kp0]
    first | omega | exact hvv | assumption
  · show pnum (NX (J 43) (J 11 2)) (5 - (0 : Int32).toInt).toNat (J 11 4).toInt.toNat (0 : Int32).toInt = pnum (NX (J 43) (J 11 2)) 5 (J 11 4).toInt.toNat 0
    try rw [kp0]
    try rw [kp0]
    rfl

set_option maxHeartbeats 4000000 in
set_option maxRecDepth 100000 in
theorem c_X10_parseUnit_e (d : Nat) (hs : ∀ k : Nat, d = k + 1 → PBRA_e k) (l : Launch) (g : gG) (J : Nat → Nat → Int32) (L : Nat → Nat → Int64) (I : Nat → Nat → Nat → Int32) (P : Nat → Nat → Nat → Option Nat) (E : Nat → Option Nat) (N : Nat → Nat) (dy : List (Nat × Nat)) (sz : Nat) (a0 : Int32) (hpl : 0 ≤ (J 11 4).toInt ∧ (J 11 4).toInt ≤ (J 11 2).toInt ∧ (J 11 2).toInt ≤ 60) (hcl : 0 ≤ (J 11 3).toInt ∧ (J 11 3).toInt ≤ (J 11 4).toInt) (hd : a0.toInt = 5 - (d : Int)) (hd5 : (d : Int) ≤ 5) : Met l yX10_parseUnit (WS yX10_parseUnit cX10_parseUnit 3 (some .boolean)) (RM (4 * d + 4) 0 0) (PC g [.ref (g.2.2.1 11), .int a0] ((J, L, I, P, E, N), sgX g ++ dy) sz) (va_Qi (fun (r : Int32) (u : (Nat → Nat → Int32)) => ((r.toInt = 1 ∧ (PT (NX (J 43) (J 11 2)) 4 (d : Nat) (J 11 4).toInt.toNat (u 11 4).toInt.toNat (cs (u 44) (J 11 3).toInt.toNat (u 11 3).toInt.toNat)) ∧ (∀ i : Nat, i < (J 11 3).toInt.toNat → u 44 i = J 44 i) ∧ ((J 11 4).toInt + 1 ≤ (u 11 4).toInt ∧ (u 11 4).toInt ≤ (J 11 2).toInt ∧ (J 11 3).toInt ≤ (u 11 3).toInt ∧ (u 11 3).toInt - (J 11 3).toInt ≤ (u 11 4).toInt - (J 11 4).toInt)) ∨ (r.toInt = 0 ∧ (PF (NX (J 43) (J 11 2)) 4 (d : Nat) (J 11 4).toInt.toNat (u 11 4).toInt.toNat) ∧ (0 ≤ (u 11 4).toInt)))) (fun u t => at_ g (FR g ((J, L, I, P, E, N), sgX g ++ dy) sz) (((hv J [44] [(11, 3), (11, 4)] u), L, I, P, E, N), sgX g ++ dy) t) (FR g ((J, L, I, P, E, N), sgX g ++ dy) sz)) 0 0 (FR g ((J, L, I, P, E, N), sgX g ++ dy) sz) := by
  refine ent (by decide +kernel) (Nat.le_of_ble_eq_true rfl) ?_
  intro p e s m below meth c ls hsz C hW hr hlocks hname hl
  generalize FR g ((J, L, I, P, E, N), sgX g ++ dy) sz = A at C hW ⊢
  have hx := C.1.1
  have hb := C.1.2.1
  have hts := C.1.2.2.2.2
  have hl : lv_has ls 3 [(0, .ref (g.2.2.1 11)), (1, .int a0)] := hl
  obtain ⟨H, hH⟩ : ∃ H : Heap, H = s.heap := ⟨_, rfl⟩
  obtain ⟨locs, hlocs⟩ : ∃ q : List Loc, q = [] := ⟨_, rfl⟩
  have hW : WB g A s.heap H locs (J, L, I, P, E, N) (sgX g ++ dy) := by rw [hH, hlocs]; exact hW
  refine start_ hH hlocs ?_
  refine lv_aload_n hx hb dX10_parseUnit_0 rfl (lv_at hl 0 rfl) ?_
  refine ci_ C hW (runV (x := (g.2.2.1 11)) (As := []) (rest := []) (T := ((J, L, I, P, E, N), sgX g ++ dy)) C hW (c_X10_next_e l g J L I P E N dy H.size  (show 0 ≤ (J 11 4).toInt ∧ (J 11 2).toInt ≤ 60 from by omega)) mi_X10_next tw_756 (recv_ (T := ((J, L, I, P, E, N), sgX g ++ dy)) C hW (mx_ rfl) rfl rfl) ⟨rfl, rfl, by (simp only [RM]; omega), by (simp only [RM]; omega)⟩ rfl hl.1 rfl (Nat.le_of_ble_eq_true rfl) dX10_parseUnit_1 ⟨Nat.le_of_ble_eq_true rfl, Nat.le_of_ble_eq_true rfl⟩) (fun r1 u1 H locs hp1 hW => ?_)
  obtain ⟨hf1_0, hf1_1⟩ : (r1.toInt = NX (J 43) (J 11 2) (J 11 4).toInt.toNat) ∧ (r1.toInt = -1 ∨ (J 11 4).toInt < (J 11 2).toInt) := hp1
  have hW : WB g A s.heap H locs (J, L, I, P, E, N) (sgX g ++ dy) := hW
  have hN := hf1_0
  refine lv_istore_n (lv' := [(2, .int r1), (0, .ref (g.2.2.1 11)), (1, .int a0)]) hx hb dX10_parseUnit_4 rfl hl (by decide) rfl (fun ls hl => ?_)
  refine lv_iload_n hx hb dX10_parseUnit_5 rfl (lv_at hl 0 rfl) ?_
  refine lv_bipush (v := 40) hx hb dX10_parseUnit_6 (by decide) ?_
  refine lv_icmp_ne (tgt := 32) hx hb dX10_parseUnit_8 (by decide) (fun c2 => ?_) (fun c2 => ?_)
  · have c2 : ¬ r1.toInt = 40 := tne rfl kp40 c2
    refine lv_iload_n hx hb dX10_parseUnit_32 rfl (lv_at hl 0 rfl) ?_
    refine ci_ C hW (runS (As := [.int r1]) (rest := []) (T := ((J, L, I, P, E, N), sgX g ++ dy)) C hW (c_X10_isDigit_e l g J L I P E N dy H.size r1 ) mi_X10_isDigit tw_768 ⟨rfl, rfl, by (simp only [RM]; omega), by (simp only [RM]; omega)⟩ rfl hl.1 rfl (Nat.le_of_ble_eq_true rfl) dX10_parseUnit_33 ⟨Nat.le_of_ble_eq_true rfl, Nat.le_of_ble_eq_true rfl⟩) (fun r3 u3 H locs hp3 hW => ?_)
    have hc3 : ((r3.toInt = 1 ∧ (48 ≤ r1.toInt ∧ r1.toInt ≤ 57)) ∨ (r3.toInt = 0 ∧ (¬ (48 ≤ r1.toInt ∧ r1.toInt ≤ 57)))) := hp3
    clear hp3
    have hW : WB g A s.heap H locs (J, L, I, P, E, N) (sgX g ++ dy) := hW
    refine lv_if_eq (tgt := 45) hx hb dX10_parseUnit_36 (by decide) (fun c4 => ?_) (fun c4 => ?_)
    · have c4 : r3.toInt = 0 := teq rfl kp0 c4
      refine lv_iload_n hx hb dX10_parseUnit_45 rfl (lv_at hl 0 rfl) ?_
      refine ci_ C hW (runS (As := [.int r1]) (rest := []) (T := ((J, L, I, P, E, N), sgX g ++ dy)) C hW (c_X10_isLetter_e l g J L I P E N dy H.size r1 ) mi_X10_isLetter tw_775 ⟨rfl, rfl, by (simp only [RM]; omega), by (simp only [RM]; omega)⟩ rfl hl.1 rfl (Nat.le_of_ble_eq_true rfl) dX10_parseUnit_46 ⟨Nat.le_of_ble_eq_true rfl, Nat.le_of_ble_eq_true rfl⟩) (fun r5 u5 H locs hp5 hW => ?_)
      have hc5 : ((r5.toInt = 1 ∧ ((r1.toInt = 107 ∨ r1.toInt = 104 ∨ r1.toInt = 118 ∨ r1.toInt = 115 ∨ r1.toInt = 109 ∨ r1.toInt = 119 ∨ r1.toInt = 97 ∨ r1.toInt = 110))) ∨ (r5.toInt = 0 ∧ (¬ (r1.toInt = 107 ∨ r1.toInt = 104 ∨ r1.toInt = 118 ∨ r1.toInt = 115 ∨ r1.toInt = 109 ∨ r1.toInt = 119 ∨ r1.toInt = 97 ∨ r1.toInt = 110)))) := hp5
      clear hp5
      have hW : WB g A s.heap H locs (J, L, I, P, E, N) (sgX g ++ dy) := hW
      refine lv_if_ne (tgt := 54) hx hb dX10_parseUnit_49 (by decide) (fun c6 => ?_) (fun c6 => ?_)
      · have c6 : ¬ r5.toInt = 0 := tne rfl kp0 c6
        refine lv_aload_n hx hb dX10_parseUnit_54 rfl (lv_at hl 1 rfl) ?_
        refine lv_iload_n hx hb dX10_parseUnit_55 rfl (lv_at hl 0 rfl) ?_
        refine lv_ineg hx hb dX10_parseUnit_56 ?_
        refine lv_topi (fun x7 (e7 : x7 = -r1) => ?_)
        try have t7 : x7.toInt = -r1.toInt := tneg e7 rfl (by omega)
        refine cv_ C hW (runV (x := (g.2.2.1 11)) (As := [.int x7]) (rest := []) (T := ((J, L, I, P, E, N), sgX g ++ dy)) C hW (c_X10_emit_e l g J L I P E N dy H.size x7 (show 0 ≤ (J 11 3).toInt ∧ (J 11 3).toInt ≤ 59 from by omega)) mi_X10_emit tw_764 (recv_ (T := ((J, L, I, P, E, N), sgX g ++ dy)) C hW (mx_ rfl) rfl rfl) ⟨rfl, rfl, by (simp only [RM]; omega), by (simp only [RM]; omega)⟩ rfl hl.1 rfl (Nat.le_of_ble_eq_true rfl) dX10_parseUnit_57 ⟨Nat.le_of_ble_eq_true rfl, Nat.le_of_ble_eq_true rfl⟩) (fun u8 H locs hp8 hW => ?_)
        obtain ⟨hf8_0, hf8_1⟩ : ((u8 11 3).toInt = (J 11 3).toInt + 1) ∧ (u8 44 = up2 J 44 (J 11 3).toInt.toNat x7 44) := hp8
        have hW : WB g A s.heap H locs ((hv J [44] [(11, 3)] u8), L, I, P, E, N) (sgX g ++ dy) := hW
        have hE0 := hf8_0
        have hE1 := hf8_1
        refine lv_aload_n hx hb dX10_parseUnit_60 rfl (lv_at hl 1 rfl) ?_
        refine lv_dup hx hb dX10_parseUnit_61 rfl ?_
        refine rg_11_4 C hW (mx_ rfl) tw_305 dX10_parseUnit_62 ?_
        refine lv_as (J 11 4) rfl ?_
        refine lv_iconst (v := 1) hx hb dX10_parseUnit_65 (by decide) ?_
        refine lv_iadd hx hb dX10_parseUnit_66 ?_
        refine lv_topi (fun x9 (e9 : x9 = (J 11 4) + 1) => ?_)
        try have t9 : x9.toInt = (J 11 4).toInt + 1 := tadd e9 rfl kp1 (by omega)
        refine rp_11_4 C hW (mx_ rfl) tw_305 dX10_parseUnit_67 (fun H locs hW => ?_)
        refine lv_iconst (v := 1) hx hb dX10_parseUnit_70 (by decide) ?_
        have hWr : WB g A s.heap H locs ((hv J [44] [(11, 3), (11, 4)] (up2 (hv J [44] [(11, 3)] u8) 11 4 x9)), L, I, P, E, N) (sgX g ++ dy) := by
          rw [← ag_hvE (J := J) (R := [44]) (F := [(11, 3), (11, 4)]) (ag_up (Or.inr rfl) (ag_hv rfl rfl ag_rf))]
          exact hW
        exact end_z C hr hlocks (by decide) (up2 (hv J [44] [(11, 3)] u8) 11 4 x9) hWr (by first | exact Or.inl ⟨by decide, show (PT (NX (J 43) (J 11 2)) 4 (d : Nat) (J 11 4).toInt.toNat (x9).toInt.toNat (cs (u8 44) (J 11 3).toInt.toNat (u8 11 3).toInt.toNat)) from by first | exact pt_d hd1 (or_l hA (by omega)).1 | exact (or_l hA (by omega)).2.1 | exact (or_l hA (by omega)).2.2 | exact hP0 d | exact hP1 | omega | exact (fun i hi => (congrFun hE1 i).trans (up2_f _ _ _ (by omega))) | exact lnr (by omega) (by omega) (by omega) ((congrArg Int32.toInt ((congrFun hE1 _).trans (up2_s _ _ _ _))).trans (by omega)), show (∀ i : Nat, i < (J 11 3).toInt.toNat → u8 44 i = J 44 i) from by first | exact pt_d hd1 (or_l hA (by omega)).1 | exact (or_l hA (by omega)).2.1 | exact (or_l hA (by omega)).2.2 | exact hP0 d | exact hP1 | omega | exact (fun i hi => (congrFun hE1 i).trans (up2_f _ _ _ (by omega))) | exact lnr (by omega) (by omega) (by omega) ((congrArg Int32.toInt ((congrFun hE1 _).trans (up2_s _ _ _ _))).trans (by omega)), show ((J 11 4).toInt + 1 ≤ (x9).toInt ∧ (x9).toInt ≤ (J 11 2).toInt ∧ (J 11 3).toInt ≤ (u8 11 3).toInt ∧ (u8 11 3).toInt - (J 11 3).toInt ≤ (x9).toInt - (J 11 4).toInt) from by first | exact pt_d hd1 (or_l hA (by omega)).1 | exact (or_l hA (by omega)).2.1 | exact (or_l hA (by omega)).2.2 | exact hP0 d | exact hP1 | omega | exact (fun i hi => (congrFun hE1 i).trans (up2_f _ _ _ (by omega))) | exact lnr (by omega) (by omega) (by omega) ((congrArg Int32.toInt ((congrFun hE1 _).trans (up2_s _ _ _ _))).trans (by omega))⟩) dX10_parseUnit_71
      · have c6 : r5.toInt = 0 := teq rfl kp0 c6
        refine lv_iconst (v := 0) hx hb dX10_parseUnit_52 (by decide) ?_
        have hWr : WB g A s.heap H locs ((hv J [44] [(11, 3), (11, 4)] J), L, I, P, E, N) (sgX g ++ dy) := by
          rw [← ag_hvE (J := J) (R := [44]) (F := [(11, 3), (11, 4)]) ag_rf]
          exact hW
        exact end_z C hr hlocks (by decide) J hWr (by first | exact Or.inr (⟨by decide, show (PF (NX (J 43) (J 11 2)) 4 (d : Nat) (J 11 4).toInt.toNat (J 11 4).toInt.toNat) from by first | exact pf_d hd1 (or_r hA (by omega)).1 | exact (or_r hA (by omega)).2 | exact un_02 (by omega) (by omega) | exact un_x (by omega) (by omega) (by omega) | omega, show (0 ≤ (J 11 4).toInt) from by first | exact pf_d hd1 (or_r hA (by omega)).1 | exact (or_r hA (by omega)).2 | exact un_02 (by omega) (by omega) | exact un_x (by omega) (by omega) (by omega) | omega⟩)) dX10_parseUnit_53
    · have c4 : ¬ r3.toInt = 0 := tne rfl kp0 c4
      refine lv_aload_n hx hb dX10_parseUnit_39 rfl (lv_at hl 1 rfl) ?_
      refine cv_ C hW (runV (x := (g.2.2.1 11)) (As := []) (rest := []) (T := ((J, L, I, P, E, N), sgX g ++ dy)) C hW (c_X10_parseNumber_e l g J L I P E N dy H.size  (show 0 ≤ (J 11 4).toInt ∧ (J 11 4).toInt ≤ (J 11 2).toInt ∧ (J 11 2).toInt ≤ 60 from by omega) (show 0 ≤ (J 11 3).toInt ∧ (J 11 3).toInt ≤ (J 11 4).toInt from by omega) (show 48 ≤ NX (J 43) (J 11 2) (J 11 4).toInt.toNat ∧ NX (J 43) (J 11 2) (J 11 4).toInt.toNat ≤ 57 from by omega)) mi_X10_parseNumber tw_771 (recv_ (T := ((J, L, I, P, E, N), sgX g ++ dy)) C hW (mx_ rfl) rfl rfl) ⟨rfl, rfl, by (simp only [RM]; omega), by (simp only [RM]; omega)⟩ rfl hl.1 rfl (Nat.le_of_ble_eq_true rfl) dX10_parseUnit_40 ⟨Nat.le_of_ble_eq_true rfl, Nat.le_of_ble_eq_true rfl⟩) (fun u10 H locs hp10 hW => ?_)
      obtain ⟨hf10_0, hf10_1, hf10_2⟩ : ((∀ d9 : Nat, (PT (NX (J 43) (J 11 2)) 4 d9 (J 11 4).toInt.toNat (u10 11 4).toInt.toNat (cs (u10 44) (J 11 3).toInt.toNat (u10 11 3).toInt.toNat)))) ∧ ((∀ i : Nat, i < (J 11 3).toInt.toNat → u10 44 i = J 44 i)) ∧ (((J 11 4).toInt + 1 ≤ (u10 11 4).toInt ∧ (u10 11 4).toInt ≤ (J 11 2).toInt ∧ (J 11 3).toInt ≤ (u10 11 3).toInt ∧ (u10 11 3).toInt - (J 11 3).toInt ≤ (u10 11 4).toInt - (J 11 4).toInt)) := hp10
      have hW : WB g A s.heap H locs ((hv J [44] [(11, 3), (11, 4)] u10), L, I, P, E, N) (sgX g ++ dy) := hW
      have hP0 := hf10_0
      have hP1 := hf10_1
      refine lv_iconst (v := 1) hx hb dX10_parseUnit_43 (by decide) ?_
      have hWr : WB g A s.heap H locs ((hv J [44] [(11, 3), (11, 4)] (hv J [44] [(11, 3), (11, 4)] u10)), L, I, P, E, N) (sgX g ++ dy) := by
        rw [← ag_hvE (J := J) (R := [44]) (F := [(11, 3), (11, 4)]) (ag_hv rfl rfl ag_rf)]
        exact hW
      exact end_z C hr hlocks (by decide) (hv J [44] [(11, 3), (11, 4)] u10) hWr (by first | exact Or.inl ⟨by decide, show (PT (NX (J 43) (J 11 2)) 4 (d : Nat) (J 11 4).toInt.toNat (u10 11 4).toInt.toNat (cs (u10 44) (J 11 3).toInt.toNat (u10 11 3).toInt.toNat)) from by first | exact pt_d hd1 (or_l hA (by omega)).1 | exact (or_l hA (by omega)).2.1 | exact (or_l hA (by omega)).2.2 | exact hP0 d | exact hP1 | omega | exact (fun i hi => (congrFun hE1 i).trans (up2_f _ _ _ (by omega))) | exact lnr (by omega) (by omega) (by omega) ((congrArg Int32.toInt ((congrFun hE1 _).trans (up2_s _ _ _ _))).trans (by omega)), show (∀ i : Nat, i < (J 11 3).toInt.toNat → u10 44 i = J 44 i) from by first | exact pt_d hd1 (or_l hA (by omega)).1 | exact (or_l hA (by omega)).2.1 | exact (or_l hA (by omega)).2.2 | exact hP0 d | exact hP1 | omega | exact (fun i hi => (congrFun hE1 i).trans (up2_f _ _ _ (by omega))) | exact lnr (by omega) (by omega) (by omega) ((congrArg Int32.toInt ((congrFun hE1 _).trans (up2_s _ _ _ _))).trans (by omega)), show ((J 11 4).toInt + 1 ≤ (u10 11 4).toInt ∧ (u10 11 4).toInt ≤ (J 11 2).toInt ∧ (J 11 3).toInt ≤ (u10 11 3).toInt ∧ (u10 11 3).toInt - (J 11 3).toInt ≤ (u10 11 4).toInt - (J 11 4).toInt) from by first | exact pt_d hd1 (or_l hA (by omega)).1 | exact (or_l hA (by omega)).2.1 | exact (or_l hA (by omega)).2.2 | exact hP0 d | exact hP1 | omega | exact (fun i hi => (congrFun hE1 i).trans (up2_f _ _ _ (by omega))) | exact lnr (by omega) (by omega) (by omega) ((congrArg Int32.toInt ((congrFun hE1 _).trans (up2_s _ _ _ _))).trans (by omega))⟩) dX10_parseUnit_44
  · have c2 : r1.toInt = 40 := teq rfl kp40 c2
    refine lv_iload_n hx hb dX10_parseUnit_11 rfl (lv_at hl 2 rfl) ?_
    refine lv_iconst (v := 5) hx hb dX10_parseUnit_12 (by decide) ?_
    refine lv_icmp_ge (tgt := 30) hx hb dX10_parseUnit_13 (by decide) (fun c11 => ?_) (fun c11 => ?_)
    · have c11 : 5 ≤ a0.toInt := tle kp5 rfl c11
      refine lv_iconst (v := 0) hx hb dX10_parseUnit_30 (by decide) ?_
      have hWr : WB g A s.heap H locs ((hv J [44] [(11, 3), (11, 4)] J), L, I, P, E, N) (sgX g ++ dy) := by
        rw [← ag_hvE (J := J) (R := [44]) (F := [(11, 3), (11, 4)]) ag_rf]
        exact hW
      exact end_z C hr hlocks (by decide) J hWr (by first | exact Or.inr (⟨by decide, show (PF (NX (J 43) (J 11 2)) 4 (d : Nat) (J 11 4).toInt.toNat (J 11 4).toInt.toNat) from by first | exact pf_d hd1 (or_r hA (by omega)).1 | exact (or_r hA (by omega)).2 | exact un_02 (by omega) (by omega) | exact un_x (by omega) (by omega) (by omega) | omega, show (0 ≤ (J 11 4).toInt) from by first | exact pf_d hd1 (or_r hA (by omega)).1 | exact (or_r hA (by omega)).2 | exact un_02 (by omega) (by omega) | exact un_x (by omega) (by omega) (by omega) | omega⟩)) dX10_parseUnit_31
    · have c11 : a0.toInt < 5 := tnle kp5 rfl c11
      obtain ⟨d1, hd1⟩ : ∃ k : Nat, d = k + 1 := ⟨d - 1, by omega⟩
      refine lv_aload_n hx hb dX10_parseUnit_16 rfl (lv_at hl 1 rfl) ?_
      refine lv_iload_n hx hb dX10_parseUnit_17 rfl (lv_at hl 2 rfl) ?_
      refine lv_iconst (v := 1) hx hb dX10_parseUnit_18 (by decide) ?_
      refine lv_iadd hx hb dX10_parseUnit_19 ?_
      refine lv_topi (fun x12 (e12 : x12 = a0 + 1) => ?_)
      try have t12 : x12.toInt = a0.toInt + 1 := tadd e12 rfl kp1 (by omega)
      refine ci_ C hW (runV (x := (g.2.2.1 11)) (As := [.int x12]) (rest := []) (T := ((J, L, I, P, E, N), sgX g ++ dy)) C hW ((hs d1 hd1) l g J L I P E N dy H.size x12 (show 0 ≤ (J 11 4).toInt ∧ (J 11 4).toInt ≤ (J 11 2).toInt ∧ (J 11 2).toInt ≤ 60 from by omega) (show 0 ≤ (J 11 3).toInt ∧ (J 11 3).toInt ≤ (J 11 4).toInt from by omega) (show x12.toInt = 5 - (d1 : Int) from by omega) (show (d1 : Int) ≤ 5 from by omega) (show NX (J 43) (J 11 2) (J 11 4).toInt.toNat = 40 from by omega)) mi_X10_parseBracket tw_760 (recv_ (T := ((J, L, I, P, E, N), sgX g ++ dy)) C hW (mx_ rfl) rfl rfl) ⟨rfl, rfl, by (simp only [RM]; omega), by (simp only [RM]; omega)⟩ rfl hl.1 rfl (Nat.le_of_ble_eq_true rfl) dX10_parseUnit_20 ⟨Nat.le_of_ble_eq_true rfl, Nat.le_of_ble_eq_true rfl⟩) (fun r13 u13 H locs hp13 hW => ?_)
      have hc13 : ((r13.toInt = 1 ∧ (PT (NX (J 43) (J 11 2)) 4 ((d1 : Nat) + 1) (J 11 4).toInt.toNat (u13 11 4).toInt.toNat (cs (u13 44) (J 11 3).toInt.toNat (u13 11 3).toInt.toNat)) ∧ (∀ i : Nat, i < (J 11 3).toInt.toNat → u13 44 i = J 44 i) ∧ ((J 11 4).toInt + 1 ≤ (u13 11 4).toInt ∧ (u13 11 4).toInt ≤ (J 11 2).toInt ∧ (J 11 3).toInt ≤ (u13 11 3).toInt ∧ (u13 11 3).toInt - (J 11 3).toInt ≤ (u13 11 4).toInt - (J 11 4).toInt)) ∨ (r13.toInt = 0 ∧ (PF (NX (J 43) (J 11 2)) 4 ((d1 : Nat) + 1) (J 11 4).toInt.toNat (u13 11 4).toInt.toNat) ∧ (0 ≤ (u13 11 4).toInt))) := hp13
      clear hp13
      have hW : WB g A s.heap H locs ((hv J [44] [(11, 3), (11, 4)] u13), L, I, P, E, N) (sgX g ++ dy) := hW
      have hA := hc13
      refine lv_if_eq (tgt := 30) hx hb dX10_parseUnit_23 (by decide) (fun c14 => ?_) (fun c14 => ?_)
      · have c14 : r13.toInt = 0 := teq rfl kp0 c14
        refine lv_iconst (v := 0) hx hb dX10_parseUnit_30 (by decide) ?_
        have hWr : WB g A s.heap H locs ((hv J [44] [(11, 3), (11, 4)] (hv J [44] [(11, 3), (11, 4)] u13)), L, I, P, E, N) (sgX g ++ dy) := by
          rw [← ag_hvE (J := J) (R := [44]) (F := [(11, 3), (11, 4)]) (ag_hv rfl rfl ag_rf)]
          exact hW
        exact end_z C hr hlocks (by decide) (hv J [44] [(11, 3), (11, 4)] u13) hWr (by first | exact Or.inr (⟨by decide, show (PF (NX (J 43) (J 11 2)) 4 (d : Nat) (J 11 4).toInt.toNat (u13 11 4).toInt.toNat) from by first | exact pf_d hd1 (or_r hA (by omega)).1 | exact (or_r hA (by omega)).2 | exact un_02 (by omega) (by omega) | exact un_x (by omega) (by omega) (by omega) | omega, show (0 ≤ (u13 11 4).toInt) from by first | exact pf_d hd1 (or_r hA (by omega)).1 | exact (or_r hA (by omega)).2 | exact un_02 (by omega) (by omega) | exact un_x (by omega) (by omega) (by omega) | omega⟩)) dX10_parseUnit_31
      · have c14 : ¬ r13.toInt = 0 := tne rfl kp0 c14
        refine lv_iconst (v := 1) hx hb dX10_parseUnit_26 (by decide) ?_
        refine lv_goto (tgt := 31) hx hb dX10_parseUnit_27 (by decide) ?_
        have hWr : WB g A s.heap H locs ((hv J [44] [(11, 3), (11, 4)] (hv J [44] [(11, 3), (11, 4)] u13)), L, I, P, E, N) (sgX g ++ dy) := by
          rw [← ag_hvE (J := J) (R := [44]) (F := [(11, 3), (11, 4)]) (ag_hv rfl rfl ag_rf)]
          exact hW
        exact end_z C hr hlocks (by decide) (hv J [44] [(11, 3), (11, 4)] u13) hWr (by first | exact Or.inl ⟨by decide, show (PT (NX (J 43) (J 11 2)) 4 (d : Nat) (J 11 4).toInt.toNat (u13 11 4).toInt.toNat (cs (u13 44) (J 11 3).toInt.toNat (u13 11 3).toInt.toNat)) from by first | exact pt_d hd1 (or_l hA (by omega)).1 | exact (or_l hA (by omega)).2.1 | exact (or_l hA (by omega)).2.2 | exact hP0 d | exact hP1 | omega | exact (fun i hi => (congrFun hE1 i).trans (up2_f _ _ _ (by omega))) | exact lnr (by omega) (by omega) (by omega) ((congrArg Int32.toInt ((congrFun hE1 _).trans (up2_s _ _ _ _))).trans (by omega)), show (∀ i : Nat, i < (J 11 3).toInt.toNat → u13 44 i = J 44 i) from by first | exact pt_d hd1 (or_l hA (by omega)).1 | exact (or_l hA (by omega)).2.1 | exact (or_l hA (by omega)).2.2 | exact hP0 d | exact hP1 | omega | exact (fun i hi => (congrFun hE1 i).trans (up2_f _ _ _ (by omega))) | exact lnr (by omega) (by omega) (by omega) ((congrArg Int32.toInt ((congrFun hE1 _).trans (up2_s _ _ _ _))).trans (by omega)), show ((J 11 4).toInt + 1 ≤ (u13 11 4).toInt ∧ (u13 11 4).toInt ≤ (J 11 2).toInt ∧ (J 11 3).toInt ≤ (u13 11 3).toInt ∧ (u13 11 3).toInt - (J 11 3).toInt ≤ (u13 11 4).toInt - (J 11 4).toInt) from by first | exact pt_d hd1 (or_l hA (by omega)).1 | exact (or_l hA (by omega)).2.1 | exact (or_l hA (by omega)).2.2 | exact hP0 d | exact hP1 | omega | exact (fun i hi => (congrFun hE1 i).trans (up2_f _ _ _ (by omega))) | exact lnr (by omega) (by omega) (by omega) ((congrArg Int32.toInt ((congrFun hE1 _).trans (up2_s _ _ _ _))).trans (by omega))⟩) dX10_parseUnit_31

set_option maxHeartbeats 4000000 in
set_option maxRecDepth 100000 in
theorem c_X10_parseProduct_e (d : Nat) (hu : PUNIT_e d) (l : Launch) (g : gG) (J : Nat → Nat → Int32) (L : Nat → Nat → Int64) (I : Nat → Nat → Nat → Int32) (P : Nat → Nat → Nat → Option Nat) (E : Nat → Option Nat) (N : Nat → Nat) (dy : List (Nat × Nat)) (sz : Nat) (a0 : Int32) (hpl : 0 ≤ (J 11 4).toInt ∧ (J 11 4).toInt ≤ (J 11 2).toInt ∧ (J 11 2).toInt ≤ 60) (hcl : 0 ≤ (J 11 3).toInt ∧ (J 11 3).toInt ≤ (J 11 4).toInt) (hd : a0.toInt = 5 - (d : Int)) (hd5 : (d : Int) ≤ 5) : Met l yX10_parseProduct (WS yX10_parseProduct cX10_parseProduct 4 (some .boolean)) (RM (4 * d + 5) 0 0) (PC g [.ref (g.2.2.1 11), .int a0] ((J, L, I, P, E, N), sgX g ++ dy) sz) (va_Qi (fun (r : Int32) (u : (Nat → Nat → Int32)) => ((r.toInt = 1 ∧ (PT (NX (J 43) (J 11 2)) 2 (d : Nat) (J 11 4).toInt.toNat (u 11 4).toInt.toNat (cs (u 44) (J 11 3).toInt.toNat (u 11 3).toInt.toNat)) ∧ (∀ i : Nat, i < (J 11 3).toInt.toNat → u 44 i = J 44 i) ∧ ((J 11 4).toInt + 1 ≤ (u 11 4).toInt ∧ (u 11 4).toInt ≤ (J 11 2).toInt ∧ (J 11 3).toInt ≤ (u 11 3).toInt ∧ (u 11 3).toInt - (J 11 3).toInt ≤ (u 11 4).toInt - (J 11 4).toInt)) ∨ (r.toInt = 0 ∧ (PF (NX (J 43) (J 11 2)) 2 (d : Nat) (J 11 4).toInt.toNat (u 11 4).toInt.toNat) ∧ (0 ≤ (u 11 4).toInt)))) (fun u t => at_ g (FR g ((J, L, I, P, E, N), sgX g ++ dy) sz) (((hv J [44] [(11, 3), (11, 4)] u), L, I, P, E, N), sgX g ++ dy) t) (FR g ((J, L, I, P, E, N), sgX g ++ dy) sz)) 0 0 (FR g ((J, L, I, P, E, N), sgX g ++ dy) sz) := by
  refine ent (by decide +kernel) (Nat.le_of_ble_eq_true rfl) ?_
  intro p e s m below meth c ls hsz C hW hr hlocks hname hl
  generalize FR g ((J, L, I, P, E, N), sgX g ++ dy) sz = A at C hW ⊢
  have hx := C.1.1
  have hb := C.1.2.1
  have hts := C.1.2.2.2.2
  have hl : lv_has ls 4 [(0, .ref (g.2.2.1 11)), (1, .int a0)] := hl
  obtain ⟨H, hH⟩ : ∃ H : Heap, H = s.heap := ⟨_, rfl⟩
  obtain ⟨locs, hlocs⟩ : ∃ q : List Loc, q = [] := ⟨_, rfl⟩
  have hW : WB g A s.heap H locs (J, L, I, P, E, N) (sgX g ++ dy) := by rw [hH, hlocs]; exact hW
  refine start_ hH hlocs ?_
  refine lv_aload_n hx hb dX10_parseProduct_0 rfl (lv_at hl 0 rfl) ?_
  refine lv_iload_n hx hb dX10_parseProduct_1 rfl (lv_at hl 1 rfl) ?_
  refine ci_ C hW (runV (x := (g.2.2.1 11)) (As := [.int a0]) (rest := []) (T := ((J, L, I, P, E, N), sgX g ++ dy)) C hW (hu l g J L I P E N dy H.size a0 (show 0 ≤ (J 11 4).toInt ∧ (J 11 4).toInt ≤ (J 11 2).toInt ∧ (J 11 2).toInt ≤ 60 from by omega) (show 0 ≤ (J 11 3).toInt ∧ (J 11 3).toInt ≤ (J 11 4).toInt from by omega) (show a0.toInt = 5 - (d : Int) from by omega) (show (d : Int) ≤ 5 from by omega)) mi_X10_parseUnit tw_752 (recv_ (T := ((J, L, I, P, E, N), sgX g ++ dy)) C hW (mx_ rfl) rfl rfl) ⟨rfl, rfl, by (simp only [RM]; omega), by (simp only [RM]; omega)⟩ rfl hl.1 rfl (Nat.le_of_ble_eq_true rfl) dX10_parseProduct_2 ⟨Nat.le_of_ble_eq_true rfl, Nat.le_of_ble_eq_true rfl⟩) (fun r1 u1 H locs hp1 hW => ?_)
  have hc1 : ((r1.toInt = 1 ∧ (PT (NX (J 43) (J 11 2)) 4 (d : Nat) (J 11 4).toInt.toNat (u1 11 4).toInt.toNat (cs (u1 44) (J 11 3).toInt.toNat (u1 11 3).toInt.toNat)) ∧ (∀ i : Nat, i < (J 11 3).toInt.toNat → u1 44 i = J 44 i) ∧ ((J 11 4).toInt + 1 ≤ (u1 11 4).toInt ∧ (u1 11 4).toInt ≤ (J 11 2).toInt ∧ (J 11 3).toInt ≤ (u1 11 3).toInt ∧ (u1 11 3).toInt - (J 11 3).toInt ≤ (u1 11 4).toInt - (J 11 4).toInt)) ∨ (r1.toInt = 0 ∧ (PF (NX (J 43) (J 11 2)) 4 (d : Nat) (J 11 4).toInt.toNat (u1 11 4).toInt.toNat) ∧ (0 ≤ (u1 11 4).toInt))) := hp1
  clear hp1
  have hW : WB g A s.heap H locs ((hv J [44] [(11, 3), (11, 4)] u1), L, I, P, E, N) (sgX g ++ dy) := hW
  have hA := hc1
  refine lv_if_ne (tgt := 10) hx hb dX10_parseProduct_5 (by decide) (fun c2 => ?_) (fun c2 => ?_)
  · have c2 : ¬ r1.toInt = 0 := tne rfl kp0 c2
    obtain ⟨hA1, hA2, hA3⟩ := or_l hA (by omega)
    refine lv_iconst (v := 0) hx hb dX10_parseProduct_10 (by decide) ?_
    refine lv_istore_n (lv' := [(2, .int 0), (0, .ref (g.2.2.1 11)), (1, .int a0)]) hx hb dX10_parseProduct_11 rfl hl (by decide) rfl (fun ls hl => ?_)
    have loop12 : ∀ (n : Nat) (m2 : Int32) (Gl3 : Nat → Nat → Int32) (H : Heap) (locs : List Loc) (ls : Array Slot), (60 - m2.toInt).toNat < n → 0 ≤ m2.toInt ∧ m2.toInt + 1 ≤ (Gl3 11 4).toInt → (J 11 4).toInt + 1 ≤ (Gl3 11 4).toInt ∧ (Gl3 11 4).toInt ≤ (J 11 2).toInt ∧ (J 11 3).toInt ≤ (Gl3 11 3).toInt ∧ (Gl3 11 3).toInt - (J 11 3).toInt ≤ (Gl3 11 4).toInt - (J 11 4).toInt → (∀ i : Nat, i < (J 11 3).toInt.toNat → Gl3 44 i = J 44 i) → CT (NX (J 43) (J 11 2)) 3 d (Gl3 11 4).toInt.toNat 2 (J 11 4).toInt.toNat (cs (Gl3 44) (J 11 3).toInt.toNat (Gl3 11 3).toInt.toNat) → WB g A s.heap H locs ((hv (hv J [44] [(11, 3), (11, 4)] u1) [44] [(11, 3), (11, 4)] Gl3), L, I, P, E, N) (sgX g ++ dy) → lv_has ls 4 [(2, .int m2), (0, .ref (g.2.2.1 11)), (1, .int a0)] → W p l e (RM (4 * d + 5) 0 0) s m ([.ref (g.2.2.1 11), .int a0] : List Value).toArray below meth c H locs 0 0 (MQ below (va_Qi (fun (r : Int32) (u : (Nat → Nat → Int32)) => ((r.toInt = 1 ∧ (PT (NX (J 43) (J 11 2)) 2 (d : Nat) (J 11 4).toInt.toNat (u 11 4).toInt.toNat (cs (u 44) (J 11 3).toInt.toNat (u 11 3).toInt.toNat)) ∧ (∀ i : Nat, i < (J 11 3).toInt.toNat → u 44 i = J 44 i) ∧ ((J 11 4).toInt + 1 ≤ (u 11 4).toInt ∧ (u 11 4).toInt ≤ (J 11 2).toInt ∧ (J 11 3).toInt ≤ (u 11 3).toInt ∧ (u 11 3).toInt - (J 11 3).toInt ≤ (u 11 4).toInt - (J 11 4).toInt)) ∨ (r.toInt = 0 ∧ (PF (NX (J 43) (J 11 2)) 2 (d : Nat) (J 11 4).toInt.toNat (u 11 4).toInt.toNat) ∧ (0 ≤ (u 11 4).toInt)))) (fun u t => at_ g A (((hv J [44] [(11, 3), (11, 4)] u), L, I, P, E, N), sgX g ++ dy) t) A) ([.ref (g.2.2.1 11), .int a0] : List Value).toArray s 0 0 A) (F0 m 12 ls []) := by
      intro n
      induction n with
      | zero => intro m2 Gl3 H locs ls hmeas; exact absurd hmeas (Nat.not_lt_zero _)
      | succ n ih =>
        intro m2 Gl3 H locs ls hmeas hi hbd hfr hct hW hl
        refine lv_iload_n hx hb dX10_parseProduct_12 rfl (lv_at hl 0 rfl) ?_
        refine lv_bipush (v := 60) hx hb dX10_parseProduct_13 (by decide) ?_
        refine lv_icmp_ge (tgt := 69) hx hb dX10_parseProduct_15 (by decide) (fun c4 => ?_) (fun c4 => ?_)
        · have c4 : 60 ≤ m2.toInt := tle kp60 rfl c4
          refine lv_iconst (v := 0) hx hb dX10_parseProduct_69 (by decide) ?_
          have hWr : WB g A s.heap H locs ((hv J [44] [(11, 3), (11, 4)] (hv (hv J [44] [(11, 3), (11, 4)] u1) [44] [(11, 3), (11, 4)] Gl3)), L, I, P, E, N) (sgX g ++ dy) := by
            rw [← ag_hvE (J := J) (R := [44]) (F := [(11, 3), (11, 4)]) (ag_hv rfl rfl (ag_hv rfl rfl ag_rf))]
            exact hW
          exact end_z C hr hlocks (by decide) (hv (hv J [44] [(11, 3), (11, 4)] u1) [44] [(11, 3), (11, 4)] Gl3) hWr (by first | exact Or.inr (⟨by decide, show (PF (NX (J 43) (J 11 2)) 2 (d : Nat) (J 11 4).toInt.toNat (Gl3 11 4).toInt.toNat) from by first | (exfalso; omega) | exact ct_fail2 (Or.inr rfl) hct (by omega) (by omega) (or_r hB (by omega)).1 | exact (or_r hB (by omega)).2 | exact su_f (Or.inr rfl) (or_r hA (by omega)).1 | exact (or_r hA (by omega)).2, show (0 ≤ (Gl3 11 4).toInt) from by first | (exfalso; omega) | exact ct_fail2 (Or.inr rfl) hct (by omega) (by omega) (or_r hB (by omega)).1 | exact (or_r hB (by omega)).2 | exact su_f (Or.inr rfl) (or_r hA (by omega)).1 | exact (or_r hA (by omega)).2⟩)) dX10_parseProduct_70
        · have c4 : m2.toInt < 60 := tnle kp60 rfl c4
          refine lv_aload_n hx hb dX10_parseProduct_18 rfl (lv_at hl 1 rfl) ?_
          refine ci_ C hW (runV (x := (g.2.2.1 11)) (As := []) (rest := []) (T := (((hv (hv J [44] [(11, 3), (11, 4)] u1) [44] [(11, 3), (11, 4)] Gl3), L, I, P, E, N), sgX g ++ dy)) C hW (c_X10_next_e l g (hv (hv J [44] [(11, 3), (11, 4)] u1) [44] [(11, 3), (11, 4)] Gl3) L I P E N dy H.size  (show 0 ≤ (Gl3 11 4).toInt ∧ (J 11 2).toInt ≤ 60 from by omega)) mi_X10_next tw_756 (recv_ (T := (((hv (hv J [44] [(11, 3), (11, 4)] u1) [44] [(11, 3), (11, 4)] Gl3), L, I, P, E, N), sgX g ++ dy)) C hW (mx_ rfl) rfl rfl) ⟨rfl, rfl, by (simp only [RM]; omega), by (simp only [RM]; omega)⟩ rfl hl.1 rfl (Nat.le_of_ble_eq_true rfl) dX10_parseProduct_19 ⟨Nat.le_of_ble_eq_true rfl, Nat.le_of_ble_eq_true rfl⟩) (fun r5 u5 H locs hp5 hW => ?_)
          obtain ⟨hf5_0, hf5_1⟩ : (r5.toInt = NX (J 43) (J 11 2) (Gl3 11 4).toInt.toNat) ∧ (r5.toInt = -1 ∨ (Gl3 11 4).toInt < (J 11 2).toInt) := hp5
          have hW : WB g A s.heap H locs ((hv (hv J [44] [(11, 3), (11, 4)] u1) [44] [(11, 3), (11, 4)] Gl3), L, I, P, E, N) (sgX g ++ dy) := hW
          have hN := hf5_0
          refine lv_istore_n (lv' := [(3, .int r5), (2, .int m2), (0, .ref (g.2.2.1 11)), (1, .int a0)]) hx hb dX10_parseProduct_22 rfl hl (by decide) rfl (fun ls hl => ?_)
          refine lv_iload_n hx hb dX10_parseProduct_23 rfl (lv_at hl 0 rfl) ?_
          refine lv_bipush (v := 42) hx hb dX10_parseProduct_24 (by decide) ?_
          refine lv_icmp_eq (tgt := 37) hx hb dX10_parseProduct_26 (by decide) (fun c6 => ?_) (fun c6 => ?_)
          · have c6 : r5.toInt = 42 := teq rfl kp42 c6
            refine lv_aload_n hx hb dX10_parseProduct_37 rfl (lv_at hl 2 rfl) ?_
            refine lv_dup hx hb dX10_parseProduct_38 rfl ?_
            refine rg_11_4 C hW (mx_ rfl) tw_305 dX10_parseProduct_39 ?_
            refine lv_as (Gl3 11 4) rfl ?_
            refine lv_iconst (v := 1) hx hb dX10_parseProduct_42 (by decide) ?_
            refine lv_iadd hx hb dX10_parseProduct_43 ?_
            refine lv_topi (fun x7 (e7 : x7 = (Gl3 11 4) + 1) => ?_)
            try have t7 : x7.toInt = (Gl3 11 4).toInt + 1 := tadd e7 rfl kp1 (by omega)
            refine rp_11_4 C hW (mx_ rfl) tw_305 dX10_parseProduct_44 (fun H locs hW => ?_)
            refine lv_aload_n hx hb dX10_parseProduct_47 rfl (lv_at hl 2 rfl) ?_
            refine lv_iload_n hx hb dX10_parseProduct_48 rfl (lv_at hl 3 rfl) ?_
            refine ci_ C hW (runV (x := (g.2.2.1 11)) (As := [.int a0]) (rest := []) (T := (((up2 (hv (hv J [44] [(11, 3), (11, 4)] u1) [44] [(11, 3), (11, 4)] Gl3) 11 4 x7), L, I, P, E, N), sgX g ++ dy)) C hW (hu l g (up2 (hv (hv J [44] [(11, 3), (11, 4)] u1) [44] [(11, 3), (11, 4)] Gl3) 11 4 x7) L I P E N dy H.size a0 (show 0 ≤ (x7).toInt ∧ (x7).toInt ≤ (J 11 2).toInt ∧ (J 11 2).toInt ≤ 60 from by omega) (show 0 ≤ (Gl3 11 3).toInt ∧ (Gl3 11 3).toInt ≤ (x7).toInt from by omega) (show a0.toInt = 5 - (d : Int) from by omega) (show (d : Int) ≤ 5 from by omega)) mi_X10_parseUnit tw_752 (recv_ (T := (((up2 (hv (hv J [44] [(11, 3), (11, 4)] u1) [44] [(11, 3), (11, 4)] Gl3) 11 4 x7), L, I, P, E, N), sgX g ++ dy)) C hW (mx_ rfl) rfl rfl) ⟨rfl, rfl, by (simp only [RM]; omega), by (simp only [RM]; omega)⟩ rfl hl.1 rfl (Nat.le_of_ble_eq_true rfl) dX10_parseProduct_49 ⟨Nat.le_of_ble_eq_true rfl, Nat.le_of_ble_eq_true rfl⟩) (fun r8 u8 H locs hp8 hW => ?_)
            have hc8 : ((r8.toInt = 1 ∧ (PT (NX (J 43) (J 11 2)) 4 (d : Nat) (x7).toInt.toNat (u8 11 4).toInt.toNat (cs (u8 44) (Gl3 11 3).toInt.toNat (u8 11 3).toInt.toNat)) ∧ (∀ i : Nat, i < (Gl3 11 3).toInt.toNat → u8 44 i = Gl3 44 i) ∧ ((x7).toInt + 1 ≤ (u8 11 4).toInt ∧ (u8 11 4).toInt ≤ (J 11 2).toInt ∧ (Gl3 11 3).toInt ≤ (u8 11 3).toInt ∧ (u8 11 3).toInt - (Gl3 11 3).toInt ≤ (u8 11 4).toInt - (x7).toInt)) ∨ (r8.toInt = 0 ∧ (PF (NX (J 43) (J 11 2)) 4 (d : Nat) (x7).toInt.toNat (u8 11 4).toInt.toNat) ∧ (0 ≤ (u8 11 4).toInt))) := hp8
            clear hp8
            have hW : WB g A s.heap H locs ((hv (up2 (hv (hv J [44] [(11, 3), (11, 4)] u1) [44] [(11, 3), (11, 4)] Gl3) 11 4 x7) [44] [(11, 3), (11, 4)] u8), L, I, P, E, N) (sgX g ++ dy) := hW
            have hB := hc8
            refine lv_if_ne (tgt := 57) hx hb dX10_parseProduct_52 (by decide) (fun c9 => ?_) (fun c9 => ?_)
            · have c9 : ¬ r8.toInt = 0 := tne rfl kp0 c9
              obtain ⟨hB1, hB2, hB3⟩ := or_l hB (by omega)
              refine lv_aload_n hx hb dX10_parseProduct_57 rfl (lv_at hl 2 rfl) ?_
              refine lv_iload_n hx hb dX10_parseProduct_58 rfl (lv_at hl 0 rfl) ?_
              refine lv_ineg hx hb dX10_parseProduct_59 ?_
              refine lv_topi (fun x10 (e10 : x10 = -r5) => ?_)
              try have t10 : x10.toInt = -r5.toInt := tneg e10 rfl (by omega)
              refine cv_ C hW (runV (x := (g.2.2.1 11)) (As := [.int x10]) (rest := []) (T := (((hv (up2 (hv (hv J [44] [(11, 3), (11, 4)] u1) [44] [(11, 3), (11, 4)] Gl3) 11 4 x7) [44] [(11, 3), (11, 4)] u8), L, I, P, E, N), sgX g ++ dy)) C hW (c_X10_emit_e l g (hv (up2 (hv (hv J [44] [(11, 3), (11, 4)] u1) [44] [(11, 3), (11, 4)] Gl3) 11 4 x7) [44] [(11, 3), (11, 4)] u8) L I P E N dy H.size x10 (show 0 ≤ (u8 11 3).toInt ∧ (u8 11 3).toInt ≤ 59 from by omega)) mi_X10_emit tw_764 (recv_ (T := (((hv (up2 (hv (hv J [44] [(11, 3), (11, 4)] u1) [44] [(11, 3), (11, 4)] Gl3) 11 4 x7) [44] [(11, 3), (11, 4)] u8), L, I, P, E, N), sgX g ++ dy)) C hW (mx_ rfl) rfl rfl) ⟨rfl, rfl, by (simp only [RM]; omega), by (simp only [RM]; omega)⟩ rfl hl.1 rfl (Nat.le_of_ble_eq_true rfl) dX10_parseProduct_60 ⟨Nat.le_of_ble_eq_true rfl, Nat.le_of_ble_eq_true rfl⟩) (fun u11 H locs hp11 hW => ?_)
              obtain ⟨hf11_0, hf11_1⟩ : ((u11 11 3).toInt = (u8 11 3).toInt + 1) ∧ (u11 44 = up2 u8 44 (u8 11 3).toInt.toNat x10 44) := hp11
              have hW : WB g A s.heap H locs ((hv (hv (up2 (hv (hv J [44] [(11, 3), (11, 4)] u1) [44] [(11, 3), (11, 4)] Gl3) 11 4 x7) [44] [(11, 3), (11, 4)] u8) [44] [(11, 3)] u11), L, I, P, E, N) (sgX g ++ dy) := hW
              have hE0 := hf11_0
              have hE1 := hf11_1
              obtain ⟨x12, e12⟩ : ∃ y : Int32, y = m2 + 1 := ⟨_, rfl⟩
              refine lv_iinc (v := x12) (lv' := [(2, .int x12), (3, .int r5), (0, .ref (g.2.2.1 11)), (1, .int a0)]) hx hb dX10_parseProduct_63 hl (k := 1) rfl (by rw [e12]; rfl) (by decide) rfl (fun ls hl => ?_)
              try have t12 : x12.toInt = m2.toInt + 1 := tadd e12 rfl kp1 (by omega)
              refine lv_goto (tgt := 12) hx hb dX10_parseProduct_66 (by decide) ?_
              have hWl : WB g A s.heap H locs ((hv (hv J [44] [(11, 3), (11, 4)] u1) [44] [(11, 3), (11, 4)] (hv (hv (up2 (hv (hv J [44] [(11, 3), (11, 4)] u1) [44] [(11, 3), (11, 4)] Gl3) 11 4 x7) [44] [(11, 3), (11, 4)] u8) [44] [(11, 3)] u11)), L, I, P, E, N) (sgX g ++ dy) := by
                rw [← ag_hvE (J := (hv J [44] [(11, 3), (11, 4)] u1)) (R := [44]) (F := [(11, 3), (11, 4)]) (ag_hv rfl rfl (ag_hv rfl rfl (ag_up (Or.inr rfl) (ag_hv rfl rfl ag_rf))))]
                exact hW
              refine ih x12 (hv (hv (up2 (hv (hv J [44] [(11, 3), (11, 4)] u1) [44] [(11, 3), (11, 4)] Gl3) 11 4 x7) [44] [(11, 3), (11, 4)] u8) [44] [(11, 3)] u11) H locs ls ?_ ?_ ?_ ?_ ?_ hWl (lv_sub hl [0, 2, 3] rfl)
              · show (60 - x12.toInt).toNat < n
                omega
              · show 0 ≤ x12.toInt ∧ x12.toInt + 1 ≤ (u8 11 4).toInt
                first | omega | exact hi | assumption
              · show (J 11 4).toInt + 1 ≤ (u8 11 4).toInt ∧ (u8 11 4).toInt ≤ (J 11 2).toInt ∧ (J 11 3).toInt ≤ (u11 11 3).toInt ∧ (u11 11 3).toInt - (J 11 3).toInt ≤ (u8 11 4).toInt - (J 11 4).toInt
                first | omega | exact hbd | assumption
              · show ∀ i : Nat, i < (J 11 3).toInt.toNat → u11 44 i = J 44 i
                intro i hi; exact ((congrFun hE1 i).trans (up2_f _ _ _ (by omega))).trans ((hB2 i (by omega)).trans (hfr i hi))
              · show CT (NX (J 43) (J 11 2)) 3 d (u8 11 4).toInt.toNat 2 (J 11 4).toInt.toNat (cs (u11 44) (J 11 3).toInt.toNat (u11 11 3).toInt.toNat)
                exact ct_step2 (Or.inr rfl) hct (by omega) (by omega) hB1 (by omega) (by omega) (by omega) hB2 (fun i hi => (congrFun hE1 i).trans (up2_f _ _ _ (by omega))) ((congrArg Int32.toInt ((congrFun hE1 _).trans (up2_s _ _ _ _))).trans (by omega))
            · have c9 : r8.toInt = 0 := teq rfl kp0 c9
              refine lv_iconst (v := 0) hx hb dX10_parseProduct_55 (by decide) ?_
              have hWr : WB g A s.heap H locs ((hv J [44] [(11, 3), (11, 4)] (hv (up2 (hv (hv J [44] [(11, 3), (11, 4)] u1) [44] [(11, 3), (11, 4)] Gl3) 11 4 x7) [44] [(11, 3), (11, 4)] u8)), L, I, P, E, N) (sgX g ++ dy) := by
                rw [← ag_hvE (J := J) (R := [44]) (F := [(11, 3), (11, 4)]) (ag_hv rfl rfl (ag_up (Or.inr rfl) (ag_hv rfl rfl (ag_hv rfl rfl ag_rf))))]
                exact hW
              exact end_z C hr hlocks (by decide) (hv (up2 (hv (hv J [44] [(11, 3), (11, 4)] u1) [44] [(11, 3), (11, 4)] Gl3) 11 4 x7) [44] [(11, 3), (11, 4)] u8) hWr (by first | exact Or.inr (⟨by decide, show (PF (NX (J 43) (J 11 2)) 2 (d : Nat) (J 11 4).toInt.toNat (u8 11 4).toInt.toNat) from by first | (exfalso; omega) | exact ct_fail2 (Or.inr rfl) hct (by omega) (by omega) (or_r hB (by omega)).1 | exact (or_r hB (by omega)).2 | exact su_f (Or.inr rfl) (or_r hA (by omega)).1 | exact (or_r hA (by omega)).2, show (0 ≤ (u8 11 4).toInt) from by first | (exfalso; omega) | exact ct_fail2 (Or.inr rfl) hct (by omega) (by omega) (or_r hB (by omega)).1 | exact (or_r hB (by omega)).2 | exact su_f (Or.inr rfl) (or_r hA (by omega)).1 | exact (or_r hA (by omega)).2⟩)) dX10_parseProduct_56
          · have c6 : ¬ r5.toInt = 42 := tne rfl kp42 c6
            refine lv_iload_n hx hb dX10_parseProduct_29 rfl (lv_at hl 0 rfl) ?_
            refine lv_bipush (v := 47) hx hb dX10_parseProduct_30 (by decide) ?_
            refine lv_icmp_eq (tgt := 37) hx hb dX10_parseProduct_32 (by decide) (fun c13 => ?_) (fun c13 => ?_)
            · have c13 : r5.toInt = 47 := teq rfl kp47 c13
              refine lv_aload_n hx hb dX10_parseProduct_37 rfl (lv_at hl 2 rfl) ?_
              refine lv_dup hx hb dX10_parseProduct_38 rfl ?_
              refine rg_11_4 C hW (mx_ rfl) tw_305 dX10_parseProduct_39 ?_
              refine lv_as (Gl3 11 4) rfl ?_
              refine lv_iconst (v := 1) hx hb dX10_parseProduct_42 (by decide) ?_
              refine lv_iadd hx hb dX10_parseProduct_43 ?_
              refine lv_topi (fun x14 (e14 : x14 = (Gl3 11 4) + 1) => ?_)
              try have t14 : x14.toInt = (Gl3 11 4).toInt + 1 := tadd e14 rfl kp1 (by omega)
              refine rp_11_4 C hW (mx_ rfl) tw_305 dX10_parseProduct_44 (fun H locs hW => ?_)
              refine lv_aload_n hx hb dX10_parseProduct_47 rfl (lv_at hl 2 rfl) ?_
              refine lv_iload_n hx hb dX10_parseProduct_48 rfl (lv_at hl 3 rfl) ?_
              refine ci_ C hW (runV (x := (g.2.2.1 11)) (As := [.int a0]) (rest := []) (T := (((up2 (hv (hv J [44] [(11, 3), (11, 4)] u1) [44] [(11, 3), (11, 4)] Gl3) 11 4 x14), L, I, P, E, N), sgX g ++ dy)) C hW (hu l g (up2 (hv (hv J [44] [(11, 3), (11, 4)] u1) [44] [(11, 3), (11, 4)] Gl3) 11 4 x14) L I P E N dy H.size a0 (show 0 ≤ (x14).toInt ∧ (x14).toInt ≤ (J 11 2).toInt ∧ (J 11 2).toInt ≤ 60 from by omega) (show 0 ≤ (Gl3 11 3).toInt ∧ (Gl3 11 3).toInt ≤ (x14).toInt from by omega) (show a0.toInt = 5 - (d : Int) from by omega) (show (d : Int) ≤ 5 from by omega)) mi_X10_parseUnit tw_752 (recv_ (T := (((up2 (hv (hv J [44] [(11, 3), (11, 4)] u1) [44] [(11, 3), (11, 4)] Gl3) 11 4 x14), L, I, P, E, N), sgX g ++ dy)) C hW (mx_ rfl) rfl rfl) ⟨rfl, rfl, by (simp only [RM]; omega), by (simp only [RM]; omega)⟩ rfl hl.1 rfl (Nat.le_of_ble_eq_true rfl) dX10_parseProduct_49 ⟨Nat.le_of_ble_eq_true rfl, Nat.le_of_ble_eq_true rfl⟩) (fun r15 u15 H locs hp15 hW => ?_)
              have hc15 : ((r15.toInt = 1 ∧ (PT (NX (J 43) (J 11 2)) 4 (d : Nat) (x14).toInt.toNat (u15 11 4).toInt.toNat (cs (u15 44) (Gl3 11 3).toInt.toNat (u15 11 3).toInt.toNat)) ∧ (∀ i : Nat, i < (Gl3 11 3).toInt.toNat → u15 44 i = Gl3 44 i) ∧ ((x14).toInt + 1 ≤ (u15 11 4).toInt ∧ (u15 11 4).toInt ≤ (J 11 2).toInt ∧ (Gl3 11 3).toInt ≤ (u15 11 3).toInt ∧ (u15 11 3).toInt - (Gl3 11 3).toInt ≤ (u15 11 4).toInt - (x14).toInt)) ∨ (r15.toInt = 0 ∧ (PF (NX (J 43) (J 11 2)) 4 (d : Nat) (x14).toInt.toNat (u15 11 4).toInt.toNat) ∧ (0 ≤ (u15 11 4).toInt))) := hp15
              clear hp15
              have hW : WB g A s.heap H locs ((hv (up2 (hv (hv J [44] [(11, 3), (11, 4)] u1) [44] [(11, 3), (11, 4)] Gl3) 11 4 x14) [44] [(11, 3), (11, 4)] u15), L, I, P, E, N) (sgX g ++ dy) := hW
              have hB := hc15
              refine lv_if_ne (tgt := 57) hx hb dX10_parseProduct_52 (by decide) (fun c16 => ?_) (fun c16 => ?_)
              · have c16 : ¬ r15.toInt = 0 := tne rfl kp0 c16
                obtain ⟨hB1, hB2, hB3⟩ := or_l hB (by omega)
                refine lv_aload_n hx hb dX10_parseProduct_57 rfl (lv_at hl 2 rfl) ?_
                refine lv_iload_n hx hb dX10_parseProduct_58 rfl (lv_at hl 0 rfl) ?_
                refine lv_ineg hx hb dX10_parseProduct_59 ?_
                refine lv_topi (fun x17 (e17 : x17 = -r5) => ?_)
                try have t17 : x17.toInt = -r5.toInt := tneg e17 rfl (by omega)
                refine cv_ C hW (runV (x := (g.2.2.1 11)) (As := [.int x17]) (rest := []) (T := (((hv (up2 (hv (hv J [44] [(11, 3), (11, 4)] u1) [44] [(11, 3), (11, 4)] Gl3) 11 4 x14) [44] [(11, 3), (11, 4)] u15), L, I, P, E, N), sgX g ++ dy)) C hW (c_X10_emit_e l g (hv (up2 (hv (hv J [44] [(11, 3), (11, 4)] u1) [44] [(11, 3), (11, 4)] Gl3) 11 4 x14) [44] [(11, 3), (11, 4)] u15) L I P E N dy H.size x17 (show 0 ≤ (u15 11 3).toInt ∧ (u15 11 3).toInt ≤ 59 from by omega)) mi_X10_emit tw_764 (recv_ (T := (((hv (up2 (hv (hv J [44] [(11, 3), (11, 4)] u1) [44] [(11, 3), (11, 4)] Gl3) 11 4 x14) [44] [(11, 3), (11, 4)] u15), L, I, P, E, N), sgX g ++ dy)) C hW (mx_ rfl) rfl rfl) ⟨rfl, rfl, by (simp only [RM]; omega), by (simp only [RM]; omega)⟩ rfl hl.1 rfl (Nat.le_of_ble_eq_true rfl) dX10_parseProduct_60 ⟨Nat.le_of_ble_eq_true rfl, Nat.le_of_ble_eq_true rfl⟩) (fun u18 H locs hp18 hW => ?_)
                obtain ⟨hf18_0, hf18_1⟩ : ((u18 11 3).toInt = (u15 11 3).toInt + 1) ∧ (u18 44 = up2 u15 44 (u15 11 3).toInt.toNat x17 44) := hp18
                have hW : WB g A s.heap H locs ((hv (hv (up2 (hv (hv J [44] [(11, 3), (11, 4)] u1) [44] [(11, 3), (11, 4)] Gl3) 11 4 x14) [44] [(11, 3), (11, 4)] u15) [44] [(11, 3)] u18), L, I, P, E, N) (sgX g ++ dy) := hW
                have hE0 := hf18_0
                have hE1 := hf18_1
                obtain ⟨x19, e19⟩ : ∃ y : Int32, y = m2 + 1 := ⟨_, rfl⟩
                refine lv_iinc (v := x19) (lv' := [(2, .int x19), (3, .int r5), (0, .ref (g.2.2.1 11)), (1, .int a0)]) hx hb dX10_parseProduct_63 hl (k := 1) rfl (by rw [e19]; rfl) (by decide) rfl (fun ls hl => ?_)
                try have t19 : x19.toInt = m2.toInt + 1 := tadd e19 rfl kp1 (by omega)
                refine lv_goto (tgt := 12) hx hb dX10_parseProduct_66 (by decide) ?_
                have hWl : WB g A s.heap H locs ((hv (hv J [44] [(11, 3), (11, 4)] u1) [44] [(11, 3), (11, 4)] (hv (hv (up2 (hv (hv J [44] [(11, 3), (11, 4)] u1) [44] [(11, 3), (11, 4)] Gl3) 11 4 x14) [44] [(11, 3), (11, 4)] u15) [44] [(11, 3)] u18)), L, I, P, E, N) (sgX g ++ dy) := by
                  rw [← ag_hvE (J := (hv J [44] [(11, 3), (11, 4)] u1)) (R := [44]) (F := [(11, 3), (11, 4)]) (ag_hv rfl rfl (ag_hv rfl rfl (ag_up (Or.inr rfl) (ag_hv rfl rfl ag_rf))))]
                  exact hW
                refine ih x19 (hv (hv (up2 (hv (hv J [44] [(11, 3), (11, 4)] u1) [44] [(11, 3), (11, 4)] Gl3) 11 4 x14) [44] [(11, 3), (11, 4)] u15) [44] [(11, 3)] u18) H locs ls ?_ ?_ ?_ ?_ ?_ hWl (lv_sub hl [0, 2, 3] rfl)
                · show (60 - x19.toInt).toNat < n
                  omega
                · show 0 ≤ x19.toInt ∧ x19.toInt + 1 ≤ (u15 11 4).toInt
                  first | omega | exact hi | assumption
                · show (J 11 4).toInt + 1 ≤ (u15 11 4).toInt ∧ (u15 11 4).toInt ≤ (J 11 2).toInt ∧ (J 11 3).toInt ≤ (u18 11 3).toInt ∧ (u18 11 3).toInt - (J 11 3).toInt ≤ (u15 11 4).toInt - (J 11 4).toInt
                  first | omega | exact hbd | assumption
                · show ∀ i : Nat, i < (J 11 3).toInt.toNat → u18 44 i = J 44 i
                  intro i hi; exact ((congrFun hE1 i).trans (up2_f _ _ _ (by omega))).trans ((hB2 i (by omega)).trans (hfr i hi))
                · show CT (NX (J 43) (J 11 2)) 3 d (u15 11 4).toInt.toNat 2 (J 11 4).toInt.toNat (cs (u18 44) (J 11 3).toInt.toNat (u18 11 3).toInt.toNat)
                  exact ct_step2 (Or.inr rfl) hct (by omega) (by omega) hB1 (by omega) (by omega) (by omega) hB2 (fun i hi => (congrFun hE1 i).trans (up2_f _ _ _ (by omega))) ((congrArg Int32.toInt ((congrFun hE1 _).trans (up2_s _ _ _ _))).trans (by omega))
              · have c16 : r15.toInt = 0 := teq rfl kp0 c16
                refine lv_iconst (v := 0) hx hb dX10_parseProduct_55 (by decide) ?_
                have hWr : WB g A s.heap H locs ((hv J [44] [(11, 3), (11, 4)] (hv (up2 (hv (hv J [44] [(11, 3), (11, 4)] u1) [44] [(11, 3), (11, 4)] Gl3) 11 4 x14) [44] [(11, 3), (11, 4)] u15)), L, I, P, E, N) (sgX g ++ dy) := by
                  rw [← ag_hvE (J := J) (R := [44]) (F := [(11, 3), (11, 4)]) (ag_hv rfl rfl (ag_up (Or.inr rfl) (ag_hv rfl rfl (ag_hv rfl rfl ag_rf))))]
                  exact hW
                exact end_z C hr hlocks (by decide) (hv (up2 (hv (hv J [44] [(11, 3), (11, 4)] u1) [44] [(11, 3), (11, 4)] Gl3) 11 4 x14) [44] [(11, 3), (11, 4)] u15) hWr (by first | exact Or.inr (⟨by decide, show (PF (NX (J 43) (J 11 2)) 2 (d : Nat) (J 11 4).toInt.toNat (u15 11 4).toInt.toNat) from by first | (exfalso; omega) | exact ct_fail2 (Or.inr rfl) hct (by omega) (by omega) (or_r hB (by omega)).1 | exact (or_r hB (by omega)).2 | exact su_f (Or.inr rfl) (or_r hA (by omega)).1 | exact (or_r hA (by omega)).2, show (0 ≤ (u15 11 4).toInt) from by first | (exfalso; omega) | exact ct_fail2 (Or.inr rfl) hct (by omega) (by omega) (or_r hB (by omega)).1 | exact (or_r hB (by omega)).2 | exact su_f (Or.inr rfl) (or_r hA (by omega)).1 | exact (or_r hA (by omega)).2⟩)) dX10_parseProduct_56
            · have c13 : ¬ r5.toInt = 47 := tne rfl kp47 c13
              refine lv_iconst (v := 1) hx hb dX10_parseProduct_35 (by decide) ?_
              have hWr : WB g A s.heap H locs ((hv J [44] [(11, 3), (11, 4)] (hv (hv J [44] [(11, 3), (11, 4)] u1) [44] [(11, 3), (11, 4)] Gl3)), L, I, P, E, N) (sgX g ++ dy) := by
                rw [← ag_hvE (J := J) (R := [44]) (F := [(11, 3), (11, 4)]) (ag_hv rfl rfl (ag_hv rfl rfl ag_rf))]
                exact hW
              exact end_z C hr hlocks (by decide) (hv (hv J [44] [(11, 3), (11, 4)] u1) [44] [(11, 3), (11, 4)] Gl3) hWr (by first | exact Or.inl ⟨by decide, show (PT (NX (J 43) (J 11 2)) 2 (d : Nat) (J 11 4).toInt.toNat (Gl3 11 4).toInt.toNat (cs (Gl3 44) (J 11 3).toInt.toNat (Gl3 11 3).toInt.toNat)) from by first | exact ct_end (Or.inr rfl) hct (by omega) | exact hfr | omega, show (∀ i : Nat, i < (J 11 3).toInt.toNat → Gl3 44 i = J 44 i) from by first | exact ct_end (Or.inr rfl) hct (by omega) | exact hfr | omega, show ((J 11 4).toInt + 1 ≤ (Gl3 11 4).toInt ∧ (Gl3 11 4).toInt ≤ (J 11 2).toInt ∧ (J 11 3).toInt ≤ (Gl3 11 3).toInt ∧ (Gl3 11 3).toInt - (J 11 3).toInt ≤ (Gl3 11 4).toInt - (J 11 4).toInt) from by first | exact ct_end (Or.inr rfl) hct (by omega) | exact hfr | omega⟩) dX10_parseProduct_36
    -- into the loop
    have hWl : WB g A s.heap H locs ((hv (hv J [44] [(11, 3), (11, 4)] u1) [44] [(11, 3), (11, 4)] (hv J [44] [(11, 3), (11, 4)] u1)), L, I, P, E, N) (sgX g ++ dy) := by
      rw [← ag_hvE (J := (hv J [44] [(11, 3), (11, 4)] u1)) (R := [44]) (F := [(11, 3), (11, 4)]) ag_rf]
      exact hW
    refine loop12 ((60 - (0 : Int32).toInt).toNat + 1) 0 (hv J [44] [(11, 3), (11, 4)] u1) H locs ls ?_ ?_ ?_ ?_ ?_ hWl (lv_sub hl [0, 1, 2] rfl)
    · exact Nat.lt_succ_self _
    · show 0 ≤ (0 : Int32).toInt ∧ (0 : Int32).toInt + 1 ≤ (u1 11 4).toInt
      try rw [kp0]
      first | omega | exact hi | assumption
    · show (J 11 4).toInt + 1 ≤ (u1 11 4).toInt ∧ (u1 11 4).toInt ≤ (J 11 2).toInt ∧ (J 11 3).toInt ≤ (u1 11 3).toInt ∧ (u1 11 3).toInt - (J 11 3).toInt ≤ (u1 11 4).toInt - (J 11 4).toInt
      try rw [kp0]
      first | omega | exact hbd | assumption
    · show ∀ i : Nat, i < (J 11 3).toInt.toNat → u1 44 i = J 44 i
      try rw [kp0]
      exact hA2
    · show CT (NX (J 43) (J 11 2)) 3 d (u1 11 4).toInt.toNat 2 (J 11 4).toInt.toNat (cs (u1 44) (J 11 3).toInt.toNat (u1 11 3).toInt.toNat)
      try rw [kp0]
      exact ct_init (Or.inr rfl) hA1
  · have c2 : r1.toInt = 0 := teq rfl kp0 c2
    refine lv_iconst (v := 0) hx hb dX10_parseProduct_8 (by decide) ?_
    have hWr : WB g A s.heap H locs ((hv J [44] [(11, 3), (11, 4)] (hv J [44] [(11, 3), (11, 4)] u1)), L, I, P, E, N) (sgX g ++ dy) := by
      rw [← ag_hvE (J := J) (R := [44]) (F := [(11, 3), (11, 4)]) (ag_hv rfl rfl ag_rf)]
      exact hW
    exact end_z C hr hlocks (by decide) (hv J [44] [(11, 3), (11, 4)] u1) hWr (by first | exact Or.inr (⟨by decide, show (PF (NX (J 43) (J 11 2)) 2 (d : Nat) (J 11 4).toInt.toNat (u1 11 4).toInt.toNat) from by first | (exfalso; omega) | exact ct_fail2 (Or.inr rfl) hct (by omega) (by omega) (or_r hB (by omega)).1 | exact (or_r hB (by omega)).2 | exact su_f (Or.inr rfl) (or_r hA (by omega)).1 | exact (or_r hA (by omega)).2, show (0 ≤ (u1 11 4).toInt) from by first | (exfalso; omega) | exact ct_fail2 (Or.inr rfl) hct (by omega) (by omega) (or_r hB (by omega)).1 | exact (or_r hB (by omega)).2 | exact su_f (Or.inr rfl) (or_r hA (by omega)).1 | exact (or_r hA (by omega)).2⟩)) dX10_parseProduct_9

set_option maxHeartbeats 4000000 in
set_option maxRecDepth 100000 in
theorem c_X10_parseSum_e (d : Nat) (ht : PPRO_e d) (l : Launch) (g : gG) (J : Nat → Nat → Int32) (L : Nat → Nat → Int64) (I : Nat → Nat → Nat → Int32) (P : Nat → Nat → Nat → Option Nat) (E : Nat → Option Nat) (N : Nat → Nat) (dy : List (Nat × Nat)) (sz : Nat) (a0 : Int32) (hpl : 0 ≤ (J 11 4).toInt ∧ (J 11 4).toInt ≤ (J 11 2).toInt ∧ (J 11 2).toInt ≤ 60) (hcl : 0 ≤ (J 11 3).toInt ∧ (J 11 3).toInt ≤ (J 11 4).toInt) (hd : a0.toInt = 5 - (d : Int)) (hd5 : (d : Int) ≤ 5) : Met l yX10_parseSum (WS yX10_parseSum cX10_parseSum 4 (some .boolean)) (RM (4 * d + 6) 0 0) (PC g [.ref (g.2.2.1 11), .int a0] ((J, L, I, P, E, N), sgX g ++ dy) sz) (va_Qi (fun (r : Int32) (u : (Nat → Nat → Int32)) => ((r.toInt = 1 ∧ (PT (NX (J 43) (J 11 2)) 0 (d : Nat) (J 11 4).toInt.toNat (u 11 4).toInt.toNat (cs (u 44) (J 11 3).toInt.toNat (u 11 3).toInt.toNat)) ∧ (∀ i : Nat, i < (J 11 3).toInt.toNat → u 44 i = J 44 i) ∧ ((J 11 4).toInt + 1 ≤ (u 11 4).toInt ∧ (u 11 4).toInt ≤ (J 11 2).toInt ∧ (J 11 3).toInt ≤ (u 11 3).toInt ∧ (u 11 3).toInt - (J 11 3).toInt ≤ (u 11 4).toInt - (J 11 4).toInt)) ∨ (r.toInt = 0 ∧ (PF (NX (J 43) (J 11 2)) 0 (d : Nat) (J 11 4).toInt.toNat (u 11 4).toInt.toNat) ∧ (0 ≤ (u 11 4).toInt)))) (fun u t => at_ g (FR g ((J, L, I, P, E, N), sgX g ++ dy) sz) (((hv J [44] [(11, 3), (11, 4)] u), L, I, P, E, N), sgX g ++ dy) t) (FR g ((J, L, I, P, E, N), sgX g ++ dy) sz)) 0 0 (FR g ((J, L, I, P, E, N), sgX g ++ dy) sz) := by
  refine ent (by decide +kernel) (Nat.le_of_ble_eq_true rfl) ?_
  intro p e s m below meth c ls hsz C hW hr hlocks hname hl
  generalize FR g ((J, L, I, P, E, N), sgX g ++ dy) sz = A at C hW ⊢
  have hx := C.1.1
  have hb := C.1.2.1
  have hts := C.1.2.2.2.2
  have hl : lv_has ls 4 [(0, .ref (g.2.2.1 11)), (1, .int a0)] := hl
  obtain ⟨H, hH⟩ : ∃ H : Heap, H = s.heap := ⟨_, rfl⟩
  obtain ⟨locs, hlocs⟩ : ∃ q : List Loc, q = [] := ⟨_, rfl⟩
  have hW : WB g A s.heap H locs (J, L, I, P, E, N) (sgX g ++ dy) := by rw [hH, hlocs]; exact hW
  refine start_ hH hlocs ?_
  refine lv_aload_n hx hb dX10_parseSum_0 rfl (lv_at hl 0 rfl) ?_
  refine lv_iload_n hx hb dX10_parseSum_1 rfl (lv_at hl 1 rfl) ?_
  refine ci_ C hW (runV (x := (g.2.2.1 11)) (As := [.int a0]) (rest := []) (T := ((J, L, I, P, E, N), sgX g ++ dy)) C hW (ht l g J L I P E N dy H.size a0 (show 0 ≤ (J 11 4).toInt ∧ (J 11 4).toInt ≤ (J 11 2).toInt ∧ (J 11 2).toInt ≤ 60 from by omega) (show 0 ≤ (J 11 3).toInt ∧ (J 11 3).toInt ≤ (J 11 4).toInt from by omega) (show a0.toInt = 5 - (d : Int) from by omega) (show (d : Int) ≤ 5 from by omega)) mi_X10_parseProduct tw_748 (recv_ (T := ((J, L, I, P, E, N), sgX g ++ dy)) C hW (mx_ rfl) rfl rfl) ⟨rfl, rfl, by (simp only [RM]; omega), by (simp only [RM]; omega)⟩ rfl hl.1 rfl (Nat.le_of_ble_eq_true rfl) dX10_parseSum_2 ⟨Nat.le_of_ble_eq_true rfl, Nat.le_of_ble_eq_true rfl⟩) (fun r1 u1 H locs hp1 hW => ?_)
  have hc1 : ((r1.toInt = 1 ∧ (PT (NX (J 43) (J 11 2)) 2 (d : Nat) (J 11 4).toInt.toNat (u1 11 4).toInt.toNat (cs (u1 44) (J 11 3).toInt.toNat (u1 11 3).toInt.toNat)) ∧ (∀ i : Nat, i < (J 11 3).toInt.toNat → u1 44 i = J 44 i) ∧ ((J 11 4).toInt + 1 ≤ (u1 11 4).toInt ∧ (u1 11 4).toInt ≤ (J 11 2).toInt ∧ (J 11 3).toInt ≤ (u1 11 3).toInt ∧ (u1 11 3).toInt - (J 11 3).toInt ≤ (u1 11 4).toInt - (J 11 4).toInt)) ∨ (r1.toInt = 0 ∧ (PF (NX (J 43) (J 11 2)) 2 (d : Nat) (J 11 4).toInt.toNat (u1 11 4).toInt.toNat) ∧ (0 ≤ (u1 11 4).toInt))) := hp1
  clear hp1
  have hW : WB g A s.heap H locs ((hv J [44] [(11, 3), (11, 4)] u1), L, I, P, E, N) (sgX g ++ dy) := hW
  have hA := hc1
  refine lv_if_ne (tgt := 10) hx hb dX10_parseSum_5 (by decide) (fun c2 => ?_) (fun c2 => ?_)
  · have c2 : ¬ r1.toInt = 0 := tne rfl kp0 c2
    obtain ⟨hA1, hA2, hA3⟩ := or_l hA (by omega)
    refine lv_iconst (v := 0) hx hb dX10_parseSum_10 (by decide) ?_
    refine lv_istore_n (lv' := [(2, .int 0), (0, .ref (g.2.2.1 11)), (1, .int a0)]) hx hb dX10_parseSum_11 rfl hl (by decide) rfl (fun ls hl => ?_)
    have loop12 : ∀ (n : Nat) (m2 : Int32) (Gl3 : Nat → Nat → Int32) (H : Heap) (locs : List Loc) (ls : Array Slot), (60 - m2.toInt).toNat < n → 0 ≤ m2.toInt ∧ m2.toInt + 1 ≤ (Gl3 11 4).toInt → (J 11 4).toInt + 1 ≤ (Gl3 11 4).toInt ∧ (Gl3 11 4).toInt ≤ (J 11 2).toInt ∧ (J 11 3).toInt ≤ (Gl3 11 3).toInt ∧ (Gl3 11 3).toInt - (J 11 3).toInt ≤ (Gl3 11 4).toInt - (J 11 4).toInt → (∀ i : Nat, i < (J 11 3).toInt.toNat → Gl3 44 i = J 44 i) → CT (NX (J 43) (J 11 2)) 1 d (Gl3 11 4).toInt.toNat 0 (J 11 4).toInt.toNat (cs (Gl3 44) (J 11 3).toInt.toNat (Gl3 11 3).toInt.toNat) → WB g A s.heap H locs ((hv (hv J [44] [(11, 3), (11, 4)] u1) [44] [(11, 3), (11, 4)] Gl3), L, I, P, E, N) (sgX g ++ dy) → lv_has ls 4 [(2, .int m2), (0, .ref (g.2.2.1 11)), (1, .int a0)] → W p l e (RM (4 * d + 6) 0 0) s m ([.ref (g.2.2.1 11), .int a0] : List Value).toArray below meth c H locs 0 0 (MQ below (va_Qi (fun (r : Int32) (u : (Nat → Nat → Int32)) => ((r.toInt = 1 ∧ (PT (NX (J 43) (J 11 2)) 0 (d : Nat) (J 11 4).toInt.toNat (u 11 4).toInt.toNat (cs (u 44) (J 11 3).toInt.toNat (u 11 3).toInt.toNat)) ∧ (∀ i : Nat, i < (J 11 3).toInt.toNat → u 44 i = J 44 i) ∧ ((J 11 4).toInt + 1 ≤ (u 11 4).toInt ∧ (u 11 4).toInt ≤ (J 11 2).toInt ∧ (J 11 3).toInt ≤ (u 11 3).toInt ∧ (u 11 3).toInt - (J 11 3).toInt ≤ (u 11 4).toInt - (J 11 4).toInt)) ∨ (r.toInt = 0 ∧ (PF (NX (J 43) (J 11 2)) 0 (d : Nat) (J 11 4).toInt.toNat (u 11 4).toInt.toNat) ∧ (0 ≤ (u 11 4).toInt)))) (fun u t => at_ g A (((hv J [44] [(11, 3), (11, 4)] u), L, I, P, E, N), sgX g ++ dy) t) A) ([.ref (g.2.2.1 11), .int a0] : List Value).toArray s 0 0 A) (F0 m 12 ls []) := by
      intro n
      induction n with
      | zero => intro m2 Gl3 H locs ls hmeas; exact absurd hmeas (Nat.not_lt_zero _)
      | succ n ih =>
        intro m2 Gl3 H locs ls hmeas hi hbd hfr hct hW hl
        refine lv_iload_n hx hb dX10_parseSum_12 rfl (lv_at hl 0 rfl) ?_
        refine lv_bipush (v := 60) hx hb dX10_parseSum_13 (by decide) ?_
        refine lv_icmp_ge (tgt := 69) hx hb dX10_parseSum_15 (by decide) (fun c4 => ?_) (fun c4 => ?_)
        · have c4 : 60 ≤ m2.toInt := tle kp60 rfl c4
          refine lv_iconst (v := 0) hx hb dX10_parseSum_69 (by decide) ?_
          have hWr : WB g A s.heap H locs ((hv J [44] [(11, 3), (11, 4)] (hv (hv J [44] [(11, 3), (11, 4)] u1) [44] [(11, 3), (11, 4)] Gl3)), L, I, P, E, N) (sgX g ++ dy) := by
            rw [← ag_hvE (J := J) (R := [44]) (F := [(11, 3), (11, 4)]) (ag_hv rfl rfl (ag_hv rfl rfl ag_rf))]
            exact hW
          exact end_z C hr hlocks (by decide) (hv (hv J [44] [(11, 3), (11, 4)] u1) [44] [(11, 3), (11, 4)] Gl3) hWr (by first | exact Or.inr (⟨by decide, show (PF (NX (J 43) (J 11 2)) 0 (d : Nat) (J 11 4).toInt.toNat (Gl3 11 4).toInt.toNat) from by first | (exfalso; omega) | exact ct_fail2 (Or.inl rfl) hct (by omega) (by omega) (or_r hB (by omega)).1 | exact (or_r hB (by omega)).2 | exact su_f (Or.inl rfl) (or_r hA (by omega)).1 | exact (or_r hA (by omega)).2, show (0 ≤ (Gl3 11 4).toInt) from by first | (exfalso; omega) | exact ct_fail2 (Or.inl rfl) hct (by omega) (by omega) (or_r hB (by omega)).1 | exact (or_r hB (by omega)).2 | exact su_f (Or.inl rfl) (or_r hA (by omega)).1 | exact (or_r hA (by omega)).2⟩)) dX10_parseSum_70
        · have c4 : m2.toInt < 60 := tnle kp60 rfl c4
          refine lv_aload_n hx hb dX10_parseSum_18 rfl (lv_at hl 1 rfl) ?_
          refine ci_ C hW (runV (x := (g.2.2.1 11)) (As := []) (rest := []) (T := (((hv (hv J [44] [(11, 3), (11, 4)] u1) [44] [(11, 3), (11, 4)] Gl3), L, I, P, E, N), sgX g ++ dy)) C hW (c_X10_next_e l g (hv (hv J [44] [(11, 3), (11, 4)] u1) [44] [(11, 3), (11, 4)] Gl3) L I P E N dy H.size  (show 0 ≤ (Gl3 11 4).toInt ∧ (J 11 2).toInt ≤ 60 from by omega)) mi_X10_next tw_756 (recv_ (T := (((hv (hv J [44] [(11, 3), (11, 4)] u1) [44] [(11, 3), (11, 4)] Gl3), L, I, P, E, N), sgX g ++ dy)) C hW (mx_ rfl) rfl rfl) ⟨rfl, rfl, by (simp only [RM]; omega), by (simp only [RM]; omega)⟩ rfl hl.1 rfl (Nat.le_of_ble_eq_true rfl) dX10_parseSum_19 ⟨Nat.le_of_ble_eq_true rfl, Nat.le_of_ble_eq_true rfl⟩) (fun r5 u5 H locs hp5 hW => ?_)
          obtain ⟨hf5_0, hf5_1⟩ : (r5.toInt = NX (J 43) (J 11 2) (Gl3 11 4).toInt.toNat) ∧ (r5.toInt = -1 ∨ (Gl3 11 4).toInt < (J 11 2).toInt) := hp5
          have hW : WB g A s.heap H locs ((hv (hv J [44] [(11, 3), (11, 4)] u1) [44] [(11, 3), (11, 4)] Gl3), L, I, P, E, N) (sgX g ++ dy) := hW
          have hN := hf5_0
          refine lv_istore_n (lv' := [(3, .int r5), (2, .int m2), (0, .ref (g.2.2.1 11)), (1, .int a0)]) hx hb dX10_parseSum_22 rfl hl (by decide) rfl (fun ls hl => ?_)
          refine lv_iload_n hx hb dX10_parseSum_23 rfl (lv_at hl 0 rfl) ?_
          refine lv_bipush (v := 43) hx hb dX10_parseSum_24 (by decide) ?_
          refine lv_icmp_eq (tgt := 37) hx hb dX10_parseSum_26 (by decide) (fun c6 => ?_) (fun c6 => ?_)
          · have c6 : r5.toInt = 43 := teq rfl kp43 c6
            refine lv_aload_n hx hb dX10_parseSum_37 rfl (lv_at hl 2 rfl) ?_
            refine lv_dup hx hb dX10_parseSum_38 rfl ?_
            refine rg_11_4 C hW (mx_ rfl) tw_305 dX10_parseSum_39 ?_
            refine lv_as (Gl3 11 4) rfl ?_
            refine lv_iconst (v := 1) hx hb dX10_parseSum_42 (by decide) ?_
            refine lv_iadd hx hb dX10_parseSum_43 ?_
            refine lv_topi (fun x7 (e7 : x7 = (Gl3 11 4) + 1) => ?_)
            try have t7 : x7.toInt = (Gl3 11 4).toInt + 1 := tadd e7 rfl kp1 (by omega)
            refine rp_11_4 C hW (mx_ rfl) tw_305 dX10_parseSum_44 (fun H locs hW => ?_)
            refine lv_aload_n hx hb dX10_parseSum_47 rfl (lv_at hl 2 rfl) ?_
            refine lv_iload_n hx hb dX10_parseSum_48 rfl (lv_at hl 3 rfl) ?_
            refine ci_ C hW (runV (x := (g.2.2.1 11)) (As := [.int a0]) (rest := []) (T := (((up2 (hv (hv J [44] [(11, 3), (11, 4)] u1) [44] [(11, 3), (11, 4)] Gl3) 11 4 x7), L, I, P, E, N), sgX g ++ dy)) C hW (ht l g (up2 (hv (hv J [44] [(11, 3), (11, 4)] u1) [44] [(11, 3), (11, 4)] Gl3) 11 4 x7) L I P E N dy H.size a0 (show 0 ≤ (x7).toInt ∧ (x7).toInt ≤ (J 11 2).toInt ∧ (J 11 2).toInt ≤ 60 from by omega) (show 0 ≤ (Gl3 11 3).toInt ∧ (Gl3 11 3).toInt ≤ (x7).toInt from by omega) (show a0.toInt = 5 - (d : Int) from by omega) (show (d : Int) ≤ 5 from by omega)) mi_X10_parseProduct tw_748 (recv_ (T := (((up2 (hv (hv J [44] [(11, 3), (11, 4)] u1) [44] [(11, 3), (11, 4)] Gl3) 11 4 x7), L, I, P, E, N), sgX g ++ dy)) C hW (mx_ rfl) rfl rfl) ⟨rfl, rfl, by (simp only [RM]; omega), by (simp only [RM]; omega)⟩ rfl hl.1 rfl (Nat.le_of_ble_eq_true rfl) dX10_parseSum_49 ⟨Nat.le_of_ble_eq_true rfl, Nat.le_of_ble_eq_true rfl⟩) (fun r8 u8 H locs hp8 hW => ?_)
            have hc8 : ((r8.toInt = 1 ∧ (PT (NX (J 43) (J 11 2)) 2 (d : Nat) (x7).toInt.toNat (u8 11 4).toInt.toNat (cs (u8 44) (Gl3 11 3).toInt.toNat (u8 11 3).toInt.toNat)) ∧ (∀ i : Nat, i < (Gl3 11 3).toInt.toNat → u8 44 i = Gl3 44 i) ∧ ((x7).toInt + 1 ≤ (u8 11 4).toInt ∧ (u8 11 4).toInt ≤ (J 11 2).toInt ∧ (Gl3 11 3).toInt ≤ (u8 11 3).toInt ∧ (u8 11 3).toInt - (Gl3 11 3).toInt ≤ (u8 11 4).toInt - (x7).toInt)) ∨ (r8.toInt = 0 ∧ (PF (NX (J 43) (J 11 2)) 2 (d : Nat) (x7).toInt.toNat (u8 11 4).toInt.toNat) ∧ (0 ≤ (u8 11 4).toInt))) := hp8
            clear hp8
            have hW : WB g A s.heap H locs ((hv (up2 (hv (hv J [44] [(11, 3), (11, 4)] u1) [44] [(11, 3), (11, 4)] Gl3) 11 4 x7) [44] [(11, 3), (11, 4)] u8), L, I, P, E, N) (sgX g ++ dy) := hW
            have hB := hc8
            refine lv_if_ne (tgt := 57) hx hb dX10_parseSum_52 (by decide) (fun c9 => ?_) (fun c9 => ?_)
            · have c9 : ¬ r8.toInt = 0 := tne rfl kp0 c9
              obtain ⟨hB1, hB2, hB3⟩ := or_l hB (by omega)
              refine lv_aload_n hx hb dX10_parseSum_57 rfl (lv_at hl 2 rfl) ?_
              refine lv_iload_n hx hb dX10_parseSum_58 rfl (lv_at hl 0 rfl) ?_
              refine lv_ineg hx hb dX10_parseSum_59 ?_
              refine lv_topi (fun x10 (e10 : x10 = -r5) => ?_)
              try have t10 : x10.toInt = -r5.toInt := tneg e10 rfl (by omega)
              refine cv_ C hW (runV (x := (g.2.2.1 11)) (As := [.int x10]) (rest := []) (T := (((hv (up2 (hv (hv J [44] [(11, 3), (11, 4)] u1) [44] [(11, 3), (11, 4)] Gl3) 11 4 x7) [44] [(11, 3), (11, 4)] u8), L, I, P, E, N), sgX g ++ dy)) C hW (c_X10_emit_e l g (hv (up2 (hv (hv J [44] [(11, 3), (11, 4)] u1) [44] [(11, 3), (11, 4)] Gl3) 11 4 x7) [44] [(11, 3), (11, 4)] u8) L I P E N dy H.size x10 (show 0 ≤ (u8 11 3).toInt ∧ (u8 11 3).toInt ≤ 59 from by omega)) mi_X10_emit tw_764 (recv_ (T := (((hv (up2 (hv (hv J [44] [(11, 3), (11, 4)] u1) [44] [(11, 3), (11, 4)] Gl3) 11 4 x7) [44] [(11, 3), (11, 4)] u8), L, I, P, E, N), sgX g ++ dy)) C hW (mx_ rfl) rfl rfl) ⟨rfl, rfl, by (simp only [RM]; omega), by (simp only [RM]; omega)⟩ rfl hl.1 rfl (Nat.le_of_ble_eq_true rfl) dX10_parseSum_60 ⟨Nat.le_of_ble_eq_true rfl, Nat.le_of_ble_eq_true rfl⟩) (fun u11 H locs hp11 hW => ?_)
              obtain ⟨hf11_0, hf11_1⟩ : ((u11 11 3).toInt = (u8 11 3).toInt + 1) ∧ (u11 44 = up2 u8 44 (u8 11 3).toInt.toNat x10 44) := hp11
              have hW : WB g A s.heap H locs ((hv (hv (up2 (hv (hv J [44] [(11, 3), (11, 4)] u1) [44] [(11, 3), (11, 4)] Gl3) 11 4 x7) [44] [(11, 3), (11, 4)] u8) [44] [(11, 3)] u11), L, I, P, E, N) (sgX g ++ dy) := hW
              have hE0 := hf11_0
              have hE1 := hf11_1
              obtain ⟨x12, e12⟩ : ∃ y : Int32, y = m2 + 1 := ⟨_, rfl⟩
              refine lv_iinc (v := x12) (lv' := [(2, .int x12), (3, .int r5), (0, .ref (g.2.2.1 11)), (1, .int a0)]) hx hb dX10_parseSum_63 hl (k := 1) rfl (by rw [e12]; rfl) (by decide) rfl (fun ls hl => ?_)
              try have t12 : x12.toInt = m2.toInt + 1 := tadd e12 rfl kp1 (by omega)
              refine lv_goto (tgt := 12) hx hb dX10_parseSum_66 (by decide) ?_
              have hWl : WB g A s.heap H locs ((hv (hv J [44] [(11, 3), (11, 4)] u1) [44] [(11, 3), (11, 4)] (hv (hv (up2 (hv (hv J [44] [(11, 3), (11, 4)] u1) [44] [(11, 3), (11, 4)] Gl3) 11 4 x7) [44] [(11, 3), (11, 4)] u8) [44] [(11, 3)] u11)), L, I, P, E, N) (sgX g ++ dy) := by
                rw [← ag_hvE (J := (hv J [44] [(11, 3), (11, 4)] u1)) (R := [44]) (F := [(11, 3), (11, 4)]) (ag_hv rfl rfl (ag_hv rfl rfl (ag_up (Or.inr rfl) (ag_hv rfl rfl ag_rf))))]
                exact hW
              refine ih x12 (hv (hv (up2 (hv (hv J [44] [(11, 3), (11, 4)] u1) [44] [(11, 3), (11, 4)] Gl3) 11 4 x7) [44] [(11, 3), (11, 4)] u8) [44] [(11, 3)] u11) H locs ls ?_ ?_ ?_ ?_ ?_ hWl (lv_sub hl [0, 2, 3] rfl)
              · show (60 - x12.toInt).toNat < n
                omega
              · show 0 ≤ x12.toInt ∧ x12.toInt + 1 ≤ (u8 11 4).toInt
                first | omega | exact hi | assumption
              · show (J 11 4).toInt + 1 ≤ (u8 11 4).toInt ∧ (u8 11 4).toInt ≤ (J 11 2).toInt ∧ (J 11 3).toInt ≤ (u11 11 3).toInt ∧ (u11 11 3).toInt - (J 11 3).toInt ≤ (u8 11 4).toInt - (J 11 4).toInt
                first | omega | exact hbd | assumption
              · show ∀ i : Nat, i < (J 11 3).toInt.toNat → u11 44 i = J 44 i
                intro i hi; exact ((congrFun hE1 i).trans (up2_f _ _ _ (by omega))).trans ((hB2 i (by omega)).trans (hfr i hi))
              · show CT (NX (J 43) (J 11 2)) 1 d (u8 11 4).toInt.toNat 0 (J 11 4).toInt.toNat (cs (u11 44) (J 11 3).toInt.toNat (u11 11 3).toInt.toNat)
                exact ct_step2 (Or.inl rfl) hct (by omega) (by omega) hB1 (by omega) (by omega) (by omega) hB2 (fun i hi => (congrFun hE1 i).trans (up2_f _ _ _ (by omega))) ((congrArg Int32.toInt ((congrFun hE1 _).trans (up2_s _ _ _ _))).trans (by omega))
            · have c9 : r8.toInt = 0 := teq rfl kp0 c9
              refine lv_iconst (v := 0) hx hb dX10_parseSum_55 (by decide) ?_
              have hWr : WB g A s.heap H locs ((hv J [44] [(11, 3), (11, 4)] (hv (up2 (hv (hv J [44] [(11, 3), (11, 4)] u1) [44] [(11, 3), (11, 4)] Gl3) 11 4 x7) [44] [(11, 3), (11, 4)] u8)), L, I, P, E, N) (sgX g ++ dy) := by
                rw [← ag_hvE (J := J) (R := [44]) (F := [(11, 3), (11, 4)]) (ag_hv rfl rfl (ag_up (Or.inr rfl) (ag_hv rfl rfl (ag_hv rfl rfl ag_rf))))]
                exact hW
              exact end_z C hr hlocks (by decide) (hv (up2 (hv (hv J [44] [(11, 3), (11, 4)] u1) [44] [(11, 3), (11, 4)] Gl3) 11 4 x7) [44] [(11, 3), (11, 4)] u8) hWr (by first | exact Or.inr (⟨by decide, show (PF (NX (J 43) (J 11 2)) 0 (d : Nat) (J 11 4).toInt.toNat (u8 11 4).toInt.toNat) from by first | (exfalso; omega) | exact ct_fail2 (Or.inl rfl) hct (by omega) (by omega) (or_r hB (by omega)).1 | exact (or_r hB (by omega)).2 | exact su_f (Or.inl rfl) (or_r hA (by omega)).1 | exact (or_r hA (by omega)).2, show (0 ≤ (u8 11 4).toInt) from by first | (exfalso; omega) | exact ct_fail2 (Or.inl rfl) hct (by omega) (by omega) (or_r hB (by omega)).1 | exact (or_r hB (by omega)).2 | exact su_f (Or.inl rfl) (or_r hA (by omega)).1 | exact (or_r hA (by omega)).2⟩)) dX10_parseSum_56
          · have c6 : ¬ r5.toInt = 43 := tne rfl kp43 c6
            refine lv_iload_n hx hb dX10_parseSum_29 rfl (lv_at hl 0 rfl) ?_
            refine lv_bipush (v := 45) hx hb dX10_parseSum_30 (by decide) ?_
            refine lv_icmp_eq (tgt := 37) hx hb dX10_parseSum_32 (by decide) (fun c13 => ?_) (fun c13 => ?_)
            · have c13 : r5.toInt = 45 := teq rfl kp45 c13
              refine lv_aload_n hx hb dX10_parseSum_37 rfl (lv_at hl 2 rfl) ?_
              refine lv_dup hx hb dX10_parseSum_38 rfl ?_
              refine rg_11_4 C hW (mx_ rfl) tw_305 dX10_parseSum_39 ?_
              refine lv_as (Gl3 11 4) rfl ?_
              refine lv_iconst (v := 1) hx hb dX10_parseSum_42 (by decide) ?_
              refine lv_iadd hx hb dX10_parseSum_43 ?_
              refine lv_topi (fun x14 (e14 : x14 = (Gl3 11 4) + 1) => ?_)
              try have t14 : x14.toInt = (Gl3 11 4).toInt + 1 := tadd e14 rfl kp1 (by omega)
              refine rp_11_4 C hW (mx_ rfl) tw_305 dX10_parseSum_44 (fun H locs hW => ?_)
              refine lv_aload_n hx hb dX10_parseSum_47 rfl (lv_at hl 2 rfl) ?_
              refine lv_iload_n hx hb dX10_parseSum_48 rfl (lv_at hl 3 rfl) ?_
              refine ci_ C hW (runV (x := (g.2.2.1 11)) (As := [.int a0]) (rest := []) (T := (((up2 (hv (hv J [44] [(11, 3), (11, 4)] u1) [44] [(11, 3), (11, 4)] Gl3) 11 4 x14), L, I, P, E, N), sgX g ++ dy)) C hW (ht l g (up2 (hv (hv J [44] [(11, 3), (11, 4)] u1) [44] [(11, 3), (11, 4)] Gl3) 11 4 x14) L I P E N dy H.size a0 (show 0 ≤ (x14).toInt ∧ (x14).toInt ≤ (J 11 2).toInt ∧ (J 11 2).toInt ≤ 60 from by omega) (show 0 ≤ (Gl3 11 3).toInt ∧ (Gl3 11 3).toInt ≤ (x14).toInt from by omega) (show a0.toInt = 5 - (d : Int) from by omega) (show (d : Int) ≤ 5 from by omega)) mi_X10_parseProduct tw_748 (recv_ (T := (((up2 (hv (hv J [44] [(11, 3), (11, 4)] u1) [44] [(11, 3), (11, 4)] Gl3) 11 4 x14), L, I, P, E, N), sgX g ++ dy)) C hW (mx_ rfl) rfl rfl) ⟨rfl, rfl, by (simp only [RM]; omega), by (simp only [RM]; omega)⟩ rfl hl.1 rfl (Nat.le_of_ble_eq_true rfl) dX10_parseSum_49 ⟨Nat.le_of_ble_eq_true rfl, Nat.le_of_ble_eq_true rfl⟩) (fun r15 u15 H locs hp15 hW => ?_)
              have hc15 : ((r15.toInt = 1 ∧ (PT (NX (J 43) (J 11 2)) 2 (d : Nat) (x14).toInt.toNat (u15 11 4).toInt.toNat (cs (u15 44) (Gl3 11 3).toInt.toNat (u15 11 3).toInt.toNat)) ∧ (∀ i : Nat, i < (Gl3 11 3).toInt.toNat → u15 44 i = Gl3 44 i) ∧ ((x14).toInt + 1 ≤ (u15 11 4).toInt ∧ (u15 11 4).toInt ≤ (J 11 2).toInt ∧ (Gl3 11 3).toInt ≤ (u15 11 3).toInt ∧ (u15 11 3).toInt - (Gl3 11 3).toInt ≤ (u15 11 4).toInt - (x14).toInt)) ∨ (r15.toInt = 0 ∧ (PF (NX (J 43) (J 11 2)) 2 (d : Nat) (x14).toInt.toNat (u15 11 4).toInt.toNat) ∧ (0 ≤ (u15 11 4).toInt))) := hp15
              clear hp15
              have hW : WB g A s.heap H locs ((hv (up2 (hv (hv J [44] [(11, 3), (11, 4)] u1) [44] [(11, 3), (11, 4)] Gl3) 11 4 x14) [44] [(11, 3), (11, 4)] u15), L, I, P, E, N) (sgX g ++ dy) := hW
              have hB := hc15
              refine lv_if_ne (tgt := 57) hx hb dX10_parseSum_52 (by decide) (fun c16 => ?_) (fun c16 => ?_)
              · have c16 : ¬ r15.toInt = 0 := tne rfl kp0 c16
                obtain ⟨hB1, hB2, hB3⟩ := or_l hB (by omega)
                refine lv_aload_n hx hb dX10_parseSum_57 rfl (lv_at hl 2 rfl) ?_
                refine lv_iload_n hx hb dX10_parseSum_58 rfl (lv_at hl 0 rfl) ?_
                refine lv_ineg hx hb dX10_parseSum_59 ?_
                refine lv_topi (fun x17 (e17 : x17 = -r5) => ?_)
                try have t17 : x17.toInt = -r5.toInt := tneg e17 rfl (by omega)
                refine cv_ C hW (runV (x := (g.2.2.1 11)) (As := [.int x17]) (rest := []) (T := (((hv (up2 (hv (hv J [44] [(11, 3), (11, 4)] u1) [44] [(11, 3), (11, 4)] Gl3) 11 4 x14) [44] [(11, 3), (11, 4)] u15), L, I, P, E, N), sgX g ++ dy)) C hW (c_X10_emit_e l g (hv (up2 (hv (hv J [44] [(11, 3), (11, 4)] u1) [44] [(11, 3), (11, 4)] Gl3) 11 4 x14) [44] [(11, 3), (11, 4)] u15) L I P E N dy H.size x17 (show 0 ≤ (u15 11 3).toInt ∧ (u15 11 3).toInt ≤ 59 from by omega)) mi_X10_emit tw_764 (recv_ (T := (((hv (up2 (hv (hv J [44] [(11, 3), (11, 4)] u1) [44] [(11, 3), (11, 4)] Gl3) 11 4 x14) [44] [(11, 3), (11, 4)] u15), L, I, P, E, N), sgX g ++ dy)) C hW (mx_ rfl) rfl rfl) ⟨rfl, rfl, by (simp only [RM]; omega), by (simp only [RM]; omega)⟩ rfl hl.1 rfl (Nat.le_of_ble_eq_true rfl) dX10_parseSum_60 ⟨Nat.le_of_ble_eq_true rfl, Nat.le_of_ble_eq_true rfl⟩) (fun u18 H locs hp18 hW => ?_)
                obtain ⟨hf18_0, hf18_1⟩ : ((u18 11 3).toInt = (u15 11 3).toInt + 1) ∧ (u18 44 = up2 u15 44 (u15 11 3).toInt.toNat x17 44) := hp18
                have hW : WB g A s.heap H locs ((hv (hv (up2 (hv (hv J [44] [(11, 3), (11, 4)] u1) [44] [(11, 3), (11, 4)] Gl3) 11 4 x14) [44] [(11, 3), (11, 4)] u15) [44] [(11, 3)] u18), L, I, P, E, N) (sgX g ++ dy) := hW
                have hE0 := hf18_0
                have hE1 := hf18_1
                obtain ⟨x19, e19⟩ : ∃ y : Int32, y = m2 + 1 := ⟨_, rfl⟩
                refine lv_iinc (v := x19) (lv' := [(2, .int x19), (3, .int r5), (0, .ref (g.2.2.1 11)), (1, .int a0)]) hx hb dX10_parseSum_63 hl (k := 1) rfl (by rw [e19]; rfl) (by decide) rfl (fun ls hl => ?_)
                try have t19 : x19.toInt = m2.toInt + 1 := tadd e19 rfl kp1 (by omega)
                refine lv_goto (tgt := 12) hx hb dX10_parseSum_66 (by decide) ?_
                have hWl : WB g A s.heap H locs ((hv (hv J [44] [(11, 3), (11, 4)] u1) [44] [(11, 3), (11, 4)] (hv (hv (up2 (hv (hv J [44] [(11, 3), (11, 4)] u1) [44] [(11, 3), (11, 4)] Gl3) 11 4 x14) [44] [(11, 3), (11, 4)] u15) [44] [(11, 3)] u18)), L, I, P, E, N) (sgX g ++ dy) := by
                  rw [← ag_hvE (J := (hv J [44] [(11, 3), (11, 4)] u1)) (R := [44]) (F := [(11, 3), (11, 4)]) (ag_hv rfl rfl (ag_hv rfl rfl (ag_up (Or.inr rfl) (ag_hv rfl rfl ag_rf))))]
                  exact hW
                refine ih x19 (hv (hv (up2 (hv (hv J [44] [(11, 3), (11, 4)] u1) [44] [(11, 3), (11, 4)] Gl3) 11 4 x14) [44] [(11, 3), (11, 4)] u15) [44] [(11, 3)] u18) H locs ls ?_ ?_ ?_ ?_ ?_ hWl (lv_sub hl [0, 2, 3] rfl)
                · show (60 - x19.toInt).toNat < n
                  omega
                · show 0 ≤ x19.toInt ∧ x19.toInt + 1 ≤ (u15 11 4).toInt
                  first | omega | exact hi | assumption
                · show (J 11 4).toInt + 1 ≤ (u15 11 4).toInt ∧ (u15 11 4).toInt ≤ (J 11 2).toInt ∧ (J 11 3).toInt ≤ (u18 11 3).toInt ∧ (u18 11 3).toInt - (J 11 3).toInt ≤ (u15 11 4).toInt - (J 11 4).toInt
                  first | omega | exact hbd | assumption
                · show ∀ i : Nat, i < (J 11 3).toInt.toNat → u18 44 i = J 44 i
                  intro i hi; exact ((congrFun hE1 i).trans (up2_f _ _ _ (by omega))).trans ((hB2 i (by omega)).trans (hfr i hi))
                · show CT (NX (J 43) (J 11 2)) 1 d (u15 11 4).toInt.toNat 0 (J 11 4).toInt.toNat (cs (u18 44) (J 11 3).toInt.toNat (u18 11 3).toInt.toNat)
                  exact ct_step2 (Or.inl rfl) hct (by omega) (by omega) hB1 (by omega) (by omega) (by omega) hB2 (fun i hi => (congrFun hE1 i).trans (up2_f _ _ _ (by omega))) ((congrArg Int32.toInt ((congrFun hE1 _).trans (up2_s _ _ _ _))).trans (by omega))
              · have c16 : r15.toInt = 0 := teq rfl kp0 c16
                refine lv_iconst (v := 0) hx hb dX10_parseSum_55 (by decide) ?_
                have hWr : WB g A s.heap H locs ((hv J [44] [(11, 3), (11, 4)] (hv (up2 (hv (hv J [44] [(11, 3), (11, 4)] u1) [44] [(11, 3), (11, 4)] Gl3) 11 4 x14) [44] [(11, 3), (11, 4)] u15)), L, I, P, E, N) (sgX g ++ dy) := by
                  rw [← ag_hvE (J := J) (R := [44]) (F := [(11, 3), (11, 4)]) (ag_hv rfl rfl (ag_up (Or.inr rfl) (ag_hv rfl rfl (ag_hv rfl rfl ag_rf))))]
                  exact hW
                exact end_z C hr hlocks (by decide) (hv (up2 (hv (hv J [44] [(11, 3), (11, 4)] u1) [44] [(11, 3), (11, 4)] Gl3) 11 4 x14) [44] [(11, 3), (11, 4)] u15) hWr (by first | exact Or.inr (⟨by decide, show (PF (NX (J 43) (J 11 2)) 0 (d : Nat) (J 11 4).toInt.toNat (u15 11 4).toInt.toNat) from by first | (exfalso; omega) | exact ct_fail2 (Or.inl rfl) hct (by omega) (by omega) (or_r hB (by omega)).1 | exact (or_r hB (by omega)).2 | exact su_f (Or.inl rfl) (or_r hA (by omega)).1 | exact (or_r hA (by omega)).2, show (0 ≤ (u15 11 4).toInt) from by first | (exfalso; omega) | exact ct_fail2 (Or.inl rfl) hct (by omega) (by omega) (or_r hB (by omega)).1 | exact (or_r hB (by omega)).2 | exact su_f (Or.inl rfl) (or_r hA (by omega)).1 | exact (or_r hA (by omega)).2⟩)) dX10_parseSum_56
            · have c13 : ¬ r5.toInt = 45 := tne rfl kp45 c13
              refine lv_iconst (v := 1) hx hb dX10_parseSum_35 (by decide) ?_
              have hWr : WB g A s.heap H locs ((hv J [44] [(11, 3), (11, 4)] (hv (hv J [44] [(11, 3), (11, 4)] u1) [44] [(11, 3), (11, 4)] Gl3)), L, I, P, E, N) (sgX g ++ dy) := by
                rw [← ag_hvE (J := J) (R := [44]) (F := [(11, 3), (11, 4)]) (ag_hv rfl rfl (ag_hv rfl rfl ag_rf))]
                exact hW
              exact end_z C hr hlocks (by decide) (hv (hv J [44] [(11, 3), (11, 4)] u1) [44] [(11, 3), (11, 4)] Gl3) hWr (by first | exact Or.inl ⟨by decide, show (PT (NX (J 43) (J 11 2)) 0 (d : Nat) (J 11 4).toInt.toNat (Gl3 11 4).toInt.toNat (cs (Gl3 44) (J 11 3).toInt.toNat (Gl3 11 3).toInt.toNat)) from by first | exact ct_end (Or.inl rfl) hct (by omega) | exact hfr | omega, show (∀ i : Nat, i < (J 11 3).toInt.toNat → Gl3 44 i = J 44 i) from by first | exact ct_end (Or.inl rfl) hct (by omega) | exact hfr | omega, show ((J 11 4).toInt + 1 ≤ (Gl3 11 4).toInt ∧ (Gl3 11 4).toInt ≤ (J 11 2).toInt ∧ (J 11 3).toInt ≤ (Gl3 11 3).toInt ∧ (Gl3 11 3).toInt - (J 11 3).toInt ≤ (Gl3 11 4).toInt - (J 11 4).toInt) from by first | exact ct_end (Or.inl rfl) hct (by omega) | exact hfr | omega⟩) dX10_parseSum_36
    -- into the loop
    have hWl : WB g A s.heap H locs ((hv (hv J [44] [(11, 3), (11, 4)] u1) [44] [(11, 3), (11, 4)] (hv J [44] [(11, 3), (11, 4)] u1)), L, I, P, E, N) (sgX g ++ dy) := by
      rw [← ag_hvE (J := (hv J [44] [(11, 3), (11, 4)] u1)) (R := [44]) (F := [(11, 3), (11, 4)]) ag_rf]
      exact hW
    refine loop12 ((60 - (0 : Int32).toInt).toNat + 1) 0 (hv J [44] [(11, 3), (11, 4)] u1) H locs ls ?_ ?_ ?_ ?_ ?_ hWl (lv_sub hl [0, 1, 2] rfl)
    · exact Nat.lt_succ_self _
    · show 0 ≤ (0 : Int32).toInt ∧ (0 : Int32).toInt + 1 ≤ (u1 11 4).toInt
      try rw [kp0]
      first | omega | exact hi | assumption
    · show (J 11 4).toInt + 1 ≤ (u1 11 4).toInt ∧ (u1 11 4).toInt ≤ (J 11 2).toInt ∧ (J 11 3).toInt ≤ (u1 11 3).toInt ∧ (u1 11 3).toInt - (J 11 3).toInt ≤ (u1 11 4).toInt - (J 11 4).toInt
      try rw [kp0]
      first | omega | exact hbd | assumption
    · show ∀ i : Nat, i < (J 11 3).toInt.toNat → u1 44 i = J 44 i
      try rw [kp0]
      exact hA2
    · show CT (NX (J 43) (J 11 2)) 1 d (u1 11 4).toInt.toNat 0 (J 11 4).toInt.toNat (cs (u1 44) (J 11 3).toInt.toNat (u1 11 3).toInt.toNat)
      try rw [kp0]
      exact ct_init (Or.inl rfl) hA1
  · have c2 : r1.toInt = 0 := teq rfl kp0 c2
    refine lv_iconst (v := 0) hx hb dX10_parseSum_8 (by decide) ?_
    have hWr : WB g A s.heap H locs ((hv J [44] [(11, 3), (11, 4)] (hv J [44] [(11, 3), (11, 4)] u1)), L, I, P, E, N) (sgX g ++ dy) := by
      rw [← ag_hvE (J := J) (R := [44]) (F := [(11, 3), (11, 4)]) (ag_hv rfl rfl ag_rf)]
      exact hW
    exact end_z C hr hlocks (by decide) (hv J [44] [(11, 3), (11, 4)] u1) hWr (by first | exact Or.inr (⟨by decide, show (PF (NX (J 43) (J 11 2)) 0 (d : Nat) (J 11 4).toInt.toNat (u1 11 4).toInt.toNat) from by first | (exfalso; omega) | exact ct_fail2 (Or.inl rfl) hct (by omega) (by omega) (or_r hB (by omega)).1 | exact (or_r hB (by omega)).2 | exact su_f (Or.inl rfl) (or_r hA (by omega)).1 | exact (or_r hA (by omega)).2, show (0 ≤ (u1 11 4).toInt) from by first | (exfalso; omega) | exact ct_fail2 (Or.inl rfl) hct (by omega) (by omega) (or_r hB (by omega)).1 | exact (or_r hB (by omega)).2 | exact su_f (Or.inl rfl) (or_r hA (by omega)).1 | exact (or_r hA (by omega)).2⟩)) dX10_parseSum_9

set_option maxHeartbeats 4000000 in
set_option maxRecDepth 100000 in
theorem c_X10_parseBracket_e (d : Nat) (ht : PSUM_e d) (l : Launch) (g : gG) (J : Nat → Nat → Int32) (L : Nat → Nat → Int64) (I : Nat → Nat → Nat → Int32) (P : Nat → Nat → Nat → Option Nat) (E : Nat → Option Nat) (N : Nat → Nat) (dy : List (Nat × Nat)) (sz : Nat) (a0 : Int32) (hpl : 0 ≤ (J 11 4).toInt ∧ (J 11 4).toInt ≤ (J 11 2).toInt ∧ (J 11 2).toInt ≤ 60) (hcl : 0 ≤ (J 11 3).toInt ∧ (J 11 3).toInt ≤ (J 11 4).toInt) (hd : a0.toInt = 5 - (d : Int)) (hd5 : (d : Int) ≤ 5) (hbr : NX (J 43) (J 11 2) (J 11 4).toInt.toNat = 40) : Met l yX10_parseBracket (WS yX10_parseBracket cX10_parseBracket 3 (some .boolean)) (RM (4 * d + 7) 0 0) (PC g [.ref (g.2.2.1 11), .int a0] ((J, L, I, P, E, N), sgX g ++ dy) sz) (va_Qi (fun (r : Int32) (u : (Nat → Nat → Int32)) => ((r.toInt = 1 ∧ (PT (NX (J 43) (J 11 2)) 4 ((d : Nat) + 1) (J 11 4).toInt.toNat (u 11 4).toInt.toNat (cs (u 44) (J 11 3).toInt.toNat (u 11 3).toInt.toNat)) ∧ (∀ i : Nat, i < (J 11 3).toInt.toNat → u 44 i = J 44 i) ∧ ((J 11 4).toInt + 1 ≤ (u 11 4).toInt ∧ (u 11 4).toInt ≤ (J 11 2).toInt ∧ (J 11 3).toInt ≤ (u 11 3).toInt ∧ (u 11 3).toInt - (J 11 3).toInt ≤ (u 11 4).toInt - (J 11 4).toInt)) ∨ (r.toInt = 0 ∧ (PF (NX (J 43) (J 11 2)) 4 ((d : Nat) + 1) (J 11 4).toInt.toNat (u 11 4).toInt.toNat) ∧ (0 ≤ (u 11 4).toInt)))) (fun u t => at_ g (FR g ((J, L, I, P, E, N), sgX g ++ dy) sz) (((hv J [44] [(11, 3), (11, 4)] u), L, I, P, E, N), sgX g ++ dy) t) (FR g ((J, L, I, P, E, N), sgX g ++ dy) sz)) 0 0 (FR g ((J, L, I, P, E, N), sgX g ++ dy) sz) := by
  refine ent (by decide +kernel) (Nat.le_of_ble_eq_true rfl) ?_
  intro p e s m below meth c ls hsz C hW hr hlocks hname hl
  generalize FR g ((J, L, I, P, E, N), sgX g ++ dy) sz = A at C hW ⊢
  have hx := C.1.1
  have hb := C.1.2.1
  have hts := C.1.2.2.2.2
  have hl : lv_has ls 3 [(0, .ref (g.2.2.1 11)), (1, .int a0)] := hl
  obtain ⟨H, hH⟩ : ∃ H : Heap, H = s.heap := ⟨_, rfl⟩
  obtain ⟨locs, hlocs⟩ : ∃ q : List Loc, q = [] := ⟨_, rfl⟩
  have hW : WB g A s.heap H locs (J, L, I, P, E, N) (sgX g ++ dy) := by rw [hH, hlocs]; exact hW
  have hPL9 := nx_lt (show ¬ NX (J 43) (J 11 2) (J 11 4).toInt.toNat = -1 by omega)
  refine start_ hH hlocs ?_
  refine lv_aload_n hx hb dX10_parseBracket_0 rfl (lv_at hl 0 rfl) ?_
  refine lv_dup hx hb dX10_parseBracket_1 rfl ?_
  refine rg_11_4 C hW (mx_ rfl) tw_305 dX10_parseBracket_2 ?_
  refine lv_iconst (v := 1) hx hb dX10_parseBracket_5 (by decide) ?_
  refine lv_iadd hx hb dX10_parseBracket_6 ?_
  refine lv_topi (fun x1 (e1 : x1 = (J 11 4) + 1) => ?_)
  try have t1 : x1.toInt = (J 11 4).toInt + 1 := tadd e1 rfl kp1 (by omega)
  refine rp_11_4 C hW (mx_ rfl) tw_305 dX10_parseBracket_7 (fun H locs hW => ?_)
  refine lv_aload_n hx hb dX10_parseBracket_10 rfl (lv_at hl 0 rfl) ?_
  refine lv_iload_n hx hb dX10_parseBracket_11 rfl (lv_at hl 1 rfl) ?_
  refine ci_ C hW (runV (x := (g.2.2.1 11)) (As := [.int a0]) (rest := []) (T := (((up2 J 11 4 x1), L, I, P, E, N), sgX g ++ dy)) C hW (ht l g (up2 J 11 4 x1) L I P E N dy H.size a0 (show 0 ≤ (x1).toInt ∧ (x1).toInt ≤ (J 11 2).toInt ∧ (J 11 2).toInt ≤ 60 from by omega) (show 0 ≤ (J 11 3).toInt ∧ (J 11 3).toInt ≤ (x1).toInt from by omega) (show a0.toInt = 5 - (d : Int) from by omega) (show (d : Int) ≤ 5 from by omega)) mi_X10_parseSum tw_744 (recv_ (T := (((up2 J 11 4 x1), L, I, P, E, N), sgX g ++ dy)) C hW (mx_ rfl) rfl rfl) ⟨rfl, rfl, by (simp only [RM]; omega), by (simp only [RM]; omega)⟩ rfl hl.1 rfl (Nat.le_of_ble_eq_true rfl) dX10_parseBracket_12 ⟨Nat.le_of_ble_eq_true rfl, Nat.le_of_ble_eq_true rfl⟩) (fun r2 u2 H locs hp2 hW => ?_)
  have hc2 : ((r2.toInt = 1 ∧ (PT (NX (J 43) (J 11 2)) 0 (d : Nat) (x1).toInt.toNat (u2 11 4).toInt.toNat (cs (u2 44) (J 11 3).toInt.toNat (u2 11 3).toInt.toNat)) ∧ (∀ i : Nat, i < (J 11 3).toInt.toNat → u2 44 i = J 44 i) ∧ ((x1).toInt + 1 ≤ (u2 11 4).toInt ∧ (u2 11 4).toInt ≤ (J 11 2).toInt ∧ (J 11 3).toInt ≤ (u2 11 3).toInt ∧ (u2 11 3).toInt - (J 11 3).toInt ≤ (u2 11 4).toInt - (x1).toInt)) ∨ (r2.toInt = 0 ∧ (PF (NX (J 43) (J 11 2)) 0 (d : Nat) (x1).toInt.toNat (u2 11 4).toInt.toNat) ∧ (0 ≤ (u2 11 4).toInt))) := hp2
  clear hp2
  have hW : WB g A s.heap H locs ((hv (up2 J 11 4 x1) [44] [(11, 3), (11, 4)] u2), L, I, P, E, N) (sgX g ++ dy) := hW
  have hA := hc2
  refine lv_if_ne (tgt := 20) hx hb dX10_parseBracket_15 (by decide) (fun c3 => ?_) (fun c3 => ?_)
  · have c3 : ¬ r2.toInt = 0 := tne rfl kp0 c3
    obtain ⟨hA1, hA2, hA3⟩ := or_l hA (by omega)
    refine lv_aload_n hx hb dX10_parseBracket_20 rfl (lv_at hl 0 rfl) ?_
    refine ci_ C hW (runV (x := (g.2.2.1 11)) (As := []) (rest := []) (T := (((hv (up2 J 11 4 x1) [44] [(11, 3), (11, 4)] u2), L, I, P, E, N), sgX g ++ dy)) C hW (c_X10_next_e l g (hv (up2 J 11 4 x1) [44] [(11, 3), (11, 4)] u2) L I P E N dy H.size  (show 0 ≤ (u2 11 4).toInt ∧ (J 11 2).toInt ≤ 60 from by omega)) mi_X10_next tw_756 (recv_ (T := (((hv (up2 J 11 4 x1) [44] [(11, 3), (11, 4)] u2), L, I, P, E, N), sgX g ++ dy)) C hW (mx_ rfl) rfl rfl) ⟨rfl, rfl, by (simp only [RM]; omega), by (simp only [RM]; omega)⟩ rfl hl.1 rfl (Nat.le_of_ble_eq_true rfl) dX10_parseBracket_21 ⟨Nat.le_of_ble_eq_true rfl, Nat.le_of_ble_eq_true rfl⟩) (fun r4 u4 H locs hp4 hW => ?_)
    obtain ⟨hf4_0, hf4_1⟩ : (r4.toInt = NX (J 43) (J 11 2) (u2 11 4).toInt.toNat) ∧ (r4.toInt = -1 ∨ (u2 11 4).toInt < (J 11 2).toInt) := hp4
    have hW : WB g A s.heap H locs ((hv (up2 J 11 4 x1) [44] [(11, 3), (11, 4)] u2), L, I, P, E, N) (sgX g ++ dy) := hW
    have hN := hf4_0
    refine lv_istore_n (lv' := [(2, .int r4), (0, .ref (g.2.2.1 11)), (1, .int a0)]) hx hb dX10_parseBracket_24 rfl hl (by decide) rfl (fun ls hl => ?_)
    refine lv_iload_n hx hb dX10_parseBracket_25 rfl (lv_at hl 0 rfl) ?_
    refine lv_bipush (v := 60) hx hb dX10_parseBracket_26 (by decide) ?_
    refine lv_icmp_eq (tgt := 43) hx hb dX10_parseBracket_28 (by decide) (fun c5 => ?_) (fun c5 => ?_)
    · have c5 : r4.toInt = 60 := teq rfl kp60 c5
      refine lv_aload_n hx hb dX10_parseBracket_43 rfl (lv_at hl 1 rfl) ?_
      refine lv_dup hx hb dX10_parseBracket_44 rfl ?_
      refine rg_11_4 C hW (mx_ rfl) tw_305 dX10_parseBracket_45 ?_
      refine lv_as (u2 11 4) rfl ?_
      refine lv_iconst (v := 1) hx hb dX10_parseBracket_48 (by decide) ?_
      refine lv_iadd hx hb dX10_parseBracket_49 ?_
      refine lv_topi (fun x6 (e6 : x6 = (u2 11 4) + 1) => ?_)
      try have t6 : x6.toInt = (u2 11 4).toInt + 1 := tadd e6 rfl kp1 (by omega)
      refine rp_11_4 C hW (mx_ rfl) tw_305 dX10_parseBracket_50 (fun H locs hW => ?_)
      refine lv_aload_n hx hb dX10_parseBracket_53 rfl (lv_at hl 1 rfl) ?_
      refine lv_iload_n hx hb dX10_parseBracket_54 rfl (lv_at hl 2 rfl) ?_
      refine ci_ C hW (runV (x := (g.2.2.1 11)) (As := [.int a0]) (rest := []) (T := (((up2 (hv (up2 J 11 4 x1) [44] [(11, 3), (11, 4)] u2) 11 4 x6), L, I, P, E, N), sgX g ++ dy)) C hW (ht l g (up2 (hv (up2 J 11 4 x1) [44] [(11, 3), (11, 4)] u2) 11 4 x6) L I P E N dy H.size a0 (show 0 ≤ (x6).toInt ∧ (x6).toInt ≤ (J 11 2).toInt ∧ (J 11 2).toInt ≤ 60 from by omega) (show 0 ≤ (u2 11 3).toInt ∧ (u2 11 3).toInt ≤ (x6).toInt from by omega) (show a0.toInt = 5 - (d : Int) from by omega) (show (d : Int) ≤ 5 from by omega)) mi_X10_parseSum tw_744 (recv_ (T := (((up2 (hv (up2 J 11 4 x1) [44] [(11, 3), (11, 4)] u2) 11 4 x6), L, I, P, E, N), sgX g ++ dy)) C hW (mx_ rfl) rfl rfl) ⟨rfl, rfl, by (simp only [RM]; omega), by (simp only [RM]; omega)⟩ rfl hl.1 rfl (Nat.le_of_ble_eq_true rfl) dX10_parseBracket_55 ⟨Nat.le_of_ble_eq_true rfl, Nat.le_of_ble_eq_true rfl⟩) (fun r7 u7 H locs hp7 hW => ?_)
      have hc7 : ((r7.toInt = 1 ∧ (PT (NX (J 43) (J 11 2)) 0 (d : Nat) (x6).toInt.toNat (u7 11 4).toInt.toNat (cs (u7 44) (u2 11 3).toInt.toNat (u7 11 3).toInt.toNat)) ∧ (∀ i : Nat, i < (u2 11 3).toInt.toNat → u7 44 i = u2 44 i) ∧ ((x6).toInt + 1 ≤ (u7 11 4).toInt ∧ (u7 11 4).toInt ≤ (J 11 2).toInt ∧ (u2 11 3).toInt ≤ (u7 11 3).toInt ∧ (u7 11 3).toInt - (u2 11 3).toInt ≤ (u7 11 4).toInt - (x6).toInt)) ∨ (r7.toInt = 0 ∧ (PF (NX (J 43) (J 11 2)) 0 (d : Nat) (x6).toInt.toNat (u7 11 4).toInt.toNat) ∧ (0 ≤ (u7 11 4).toInt))) := hp7
      clear hp7
      have hW : WB g A s.heap H locs ((hv (up2 (hv (up2 J 11 4 x1) [44] [(11, 3), (11, 4)] u2) 11 4 x6) [44] [(11, 3), (11, 4)] u7), L, I, P, E, N) (sgX g ++ dy) := hW
      have hB := hc7
      refine lv_if_ne (tgt := 63) hx hb dX10_parseBracket_58 (by decide) (fun c8 => ?_) (fun c8 => ?_)
      · have c8 : ¬ r7.toInt = 0 := tne rfl kp0 c8
        obtain ⟨hB1, hB2, hB3⟩ := or_l hB (by omega)
        refine lv_aload_n hx hb dX10_parseBracket_63 rfl (lv_at hl 1 rfl) ?_
        refine lv_iload_n hx hb dX10_parseBracket_64 rfl (lv_at hl 0 rfl) ?_
        refine lv_ineg hx hb dX10_parseBracket_65 ?_
        refine lv_topi (fun x9 (e9 : x9 = -r4) => ?_)
        try have t9 : x9.toInt = -r4.toInt := tneg e9 rfl (by omega)
        refine cv_ C hW (runV (x := (g.2.2.1 11)) (As := [.int x9]) (rest := []) (T := (((hv (up2 (hv (up2 J 11 4 x1) [44] [(11, 3), (11, 4)] u2) 11 4 x6) [44] [(11, 3), (11, 4)] u7), L, I, P, E, N), sgX g ++ dy)) C hW (c_X10_emit_e l g (hv (up2 (hv (up2 J 11 4 x1) [44] [(11, 3), (11, 4)] u2) 11 4 x6) [44] [(11, 3), (11, 4)] u7) L I P E N dy H.size x9 (show 0 ≤ (u7 11 3).toInt ∧ (u7 11 3).toInt ≤ 59 from by omega)) mi_X10_emit tw_764 (recv_ (T := (((hv (up2 (hv (up2 J 11 4 x1) [44] [(11, 3), (11, 4)] u2) 11 4 x6) [44] [(11, 3), (11, 4)] u7), L, I, P, E, N), sgX g ++ dy)) C hW (mx_ rfl) rfl rfl) ⟨rfl, rfl, by (simp only [RM]; omega), by (simp only [RM]; omega)⟩ rfl hl.1 rfl (Nat.le_of_ble_eq_true rfl) dX10_parseBracket_66 ⟨Nat.le_of_ble_eq_true rfl, Nat.le_of_ble_eq_true rfl⟩) (fun u10 H locs hp10 hW => ?_)
        obtain ⟨hf10_0, hf10_1⟩ : ((u10 11 3).toInt = (u7 11 3).toInt + 1) ∧ (u10 44 = up2 u7 44 (u7 11 3).toInt.toNat x9 44) := hp10
        have hW : WB g A s.heap H locs ((hv (hv (up2 (hv (up2 J 11 4 x1) [44] [(11, 3), (11, 4)] u2) 11 4 x6) [44] [(11, 3), (11, 4)] u7) [44] [(11, 3)] u10), L, I, P, E, N) (sgX g ++ dy) := hW
        have hE0 := hf10_0
        have hE1 := hf10_1
        refine lv_aload_n hx hb dX10_parseBracket_69 rfl (lv_at hl 1 rfl) ?_
        refine ci_ C hW (runV (x := (g.2.2.1 11)) (As := []) (rest := []) (T := (((hv (hv (up2 (hv (up2 J 11 4 x1) [44] [(11, 3), (11, 4)] u2) 11 4 x6) [44] [(11, 3), (11, 4)] u7) [44] [(11, 3)] u10), L, I, P, E, N), sgX g ++ dy)) C hW (c_X10_next_e l g (hv (hv (up2 (hv (up2 J 11 4 x1) [44] [(11, 3), (11, 4)] u2) 11 4 x6) [44] [(11, 3), (11, 4)] u7) [44] [(11, 3)] u10) L I P E N dy H.size  (show 0 ≤ (u7 11 4).toInt ∧ (J 11 2).toInt ≤ 60 from by omega)) mi_X10_next tw_756 (recv_ (T := (((hv (hv (up2 (hv (up2 J 11 4 x1) [44] [(11, 3), (11, 4)] u2) 11 4 x6) [44] [(11, 3), (11, 4)] u7) [44] [(11, 3)] u10), L, I, P, E, N), sgX g ++ dy)) C hW (mx_ rfl) rfl rfl) ⟨rfl, rfl, by (simp only [RM]; omega), by (simp only [RM]; omega)⟩ rfl hl.1 rfl (Nat.le_of_ble_eq_true rfl) dX10_parseBracket_70 ⟨Nat.le_of_ble_eq_true rfl, Nat.le_of_ble_eq_true rfl⟩) (fun r11 u11 H locs hp11 hW => ?_)
        obtain ⟨hf11_0, hf11_1⟩ : (r11.toInt = NX (J 43) (J 11 2) (u7 11 4).toInt.toNat) ∧ (r11.toInt = -1 ∨ (u7 11 4).toInt < (J 11 2).toInt) := hp11
        have hW : WB g A s.heap H locs ((hv (hv (up2 (hv (up2 J 11 4 x1) [44] [(11, 3), (11, 4)] u2) 11 4 x6) [44] [(11, 3), (11, 4)] u7) [44] [(11, 3)] u10), L, I, P, E, N) (sgX g ++ dy) := hW
        have hM := hf11_0
        refine lv_bipush (v := 41) hx hb dX10_parseBracket_73 (by decide) ?_
        refine lv_icmp_eq (tgt := 80) hx hb dX10_parseBracket_75 (by decide) (fun c12 => ?_) (fun c12 => ?_)
        · have c12 : r11.toInt = 41 := teq rfl kp41 c12
          refine lv_aload_n hx hb dX10_parseBracket_80 rfl (lv_at hl 1 rfl) ?_
          refine lv_dup hx hb dX10_parseBracket_81 rfl ?_
          refine rg_11_4 C hW (mx_ rfl) tw_305 dX10_parseBracket_82 ?_
          refine lv_as (u7 11 4) rfl ?_
          refine lv_iconst (v := 1) hx hb dX10_parseBracket_85 (by decide) ?_
          refine lv_iadd hx hb dX10_parseBracket_86 ?_
          refine lv_topi (fun x13 (e13 : x13 = (u7 11 4) + 1) => ?_)
          try have t13 : x13.toInt = (u7 11 4).toInt + 1 := tadd e13 rfl kp1 (by omega)
          refine rp_11_4 C hW (mx_ rfl) tw_305 dX10_parseBracket_87 (fun H locs hW => ?_)
          refine lv_iconst (v := 1) hx hb dX10_parseBracket_90 (by decide) ?_
          have hWr : WB g A s.heap H locs ((hv J [44] [(11, 3), (11, 4)] (up2 (hv (hv (up2 (hv (up2 J 11 4 x1) [44] [(11, 3), (11, 4)] u2) 11 4 x6) [44] [(11, 3), (11, 4)] u7) [44] [(11, 3)] u10) 11 4 x13)), L, I, P, E, N) (sgX g ++ dy) := by
            rw [← ag_hvE (J := J) (R := [44]) (F := [(11, 3), (11, 4)]) (ag_up (Or.inr rfl) (ag_hv rfl rfl (ag_hv rfl rfl (ag_up (Or.inr rfl) (ag_hv rfl rfl (ag_up (Or.inr rfl) ag_rf))))))]
            exact hW
          exact end_z C hr hlocks (by decide) (up2 (hv (hv (up2 (hv (up2 J 11 4 x1) [44] [(11, 3), (11, 4)] u2) 11 4 x6) [44] [(11, 3), (11, 4)] u7) [44] [(11, 3)] u10) 11 4 x13) hWr (by first | exact Or.inl ⟨by decide, show (PT (NX (J 43) (J 11 2)) 4 ((d : Nat) + 1) (J 11 4).toInt.toNat (x13).toInt.toNat (cs (u10 44) (J 11 3).toInt.toNat (u10 11 3).toInt.toNat)) from by first | omega | exact hA2 | exact bk_t2 hbr (by omega) hA1 (by omega) (by omega) | (intro i hi; exact ((congrFun hE1 i).trans (up2_f _ _ _ (by omega))).trans ((hB2 i (by omega)).trans (hA2 i hi))) | exact bk_ct2 hbr (by omega) hA1 (by omega) (by omega) hB1 (by omega) (by omega) (by omega) (by omega) (by omega) hB2 (fun i hi => (congrFun hE1 i).trans (up2_f _ _ _ (by omega))) ((congrArg Int32.toInt ((congrFun hE1 _).trans (up2_s _ _ _ _))).trans (by omega)), show (∀ i : Nat, i < (J 11 3).toInt.toNat → u10 44 i = J 44 i) from by first | omega | exact hA2 | exact bk_t2 hbr (by omega) hA1 (by omega) (by omega) | (intro i hi; exact ((congrFun hE1 i).trans (up2_f _ _ _ (by omega))).trans ((hB2 i (by omega)).trans (hA2 i hi))) | exact bk_ct2 hbr (by omega) hA1 (by omega) (by omega) hB1 (by omega) (by omega) (by omega) (by omega) (by omega) hB2 (fun i hi => (congrFun hE1 i).trans (up2_f _ _ _ (by omega))) ((congrArg Int32.toInt ((congrFun hE1 _).trans (up2_s _ _ _ _))).trans (by omega)), show ((J 11 4).toInt + 1 ≤ (x13).toInt ∧ (x13).toInt ≤ (J 11 2).toInt ∧ (J 11 3).toInt ≤ (u10 11 3).toInt ∧ (u10 11 3).toInt - (J 11 3).toInt ≤ (x13).toInt - (J 11 4).toInt) from by first | omega | exact hA2 | exact bk_t2 hbr (by omega) hA1 (by omega) (by omega) | (intro i hi; exact ((congrFun hE1 i).trans (up2_f _ _ _ (by omega))).trans ((hB2 i (by omega)).trans (hA2 i hi))) | exact bk_ct2 hbr (by omega) hA1 (by omega) (by omega) hB1 (by omega) (by omega) (by omega) (by omega) (by omega) hB2 (fun i hi => (congrFun hE1 i).trans (up2_f _ _ _ (by omega))) ((congrArg Int32.toInt ((congrFun hE1 _).trans (up2_s _ _ _ _))).trans (by omega))⟩) dX10_parseBracket_91
        · have c12 : ¬ r11.toInt = 41 := tne rfl kp41 c12
          refine lv_iconst (v := 0) hx hb dX10_parseBracket_78 (by decide) ?_
          have hWr : WB g A s.heap H locs ((hv J [44] [(11, 3), (11, 4)] (hv (hv (up2 (hv (up2 J 11 4 x1) [44] [(11, 3), (11, 4)] u2) 11 4 x6) [44] [(11, 3), (11, 4)] u7) [44] [(11, 3)] u10)), L, I, P, E, N) (sgX g ++ dy) := by
            rw [← ag_hvE (J := J) (R := [44]) (F := [(11, 3), (11, 4)]) (ag_hv rfl rfl (ag_hv rfl rfl (ag_up (Or.inr rfl) (ag_hv rfl rfl (ag_up (Or.inr rfl) ag_rf)))))]
            exact hW
          exact end_z C hr hlocks (by decide) (hv (hv (up2 (hv (up2 J 11 4 x1) [44] [(11, 3), (11, 4)] u2) 11 4 x6) [44] [(11, 3), (11, 4)] u7) [44] [(11, 3)] u10) hWr (by first | exact Or.inr (⟨by decide, show (PF (NX (J 43) (J 11 2)) 4 ((d : Nat) + 1) (J 11 4).toInt.toNat (u7 11 4).toInt.toNat) from by first | omega | exact bk_f2 hbr (by omega) (or_r hA (by omega)).1 | exact (or_r hA (by omega)).2 | exact bk_cf2 hbr (by omega) hA1 (by omega) (by omega) (or_r hB (by omega)).1 | exact (or_r hB (by omega)).2 | exact bk_cx2 hbr (by omega) hA1 (by omega) (by omega) hB1 (by omega) | exact bk_x2 hbr (by omega) hA1 (by omega) (by omega), show (0 ≤ (u7 11 4).toInt) from by first | omega | exact bk_f2 hbr (by omega) (or_r hA (by omega)).1 | exact (or_r hA (by omega)).2 | exact bk_cf2 hbr (by omega) hA1 (by omega) (by omega) (or_r hB (by omega)).1 | exact (or_r hB (by omega)).2 | exact bk_cx2 hbr (by omega) hA1 (by omega) (by omega) hB1 (by omega) | exact bk_x2 hbr (by omega) hA1 (by omega) (by omega)⟩)) dX10_parseBracket_79
      · have c8 : r7.toInt = 0 := teq rfl kp0 c8
        refine lv_iconst (v := 0) hx hb dX10_parseBracket_61 (by decide) ?_
        have hWr : WB g A s.heap H locs ((hv J [44] [(11, 3), (11, 4)] (hv (up2 (hv (up2 J 11 4 x1) [44] [(11, 3), (11, 4)] u2) 11 4 x6) [44] [(11, 3), (11, 4)] u7)), L, I, P, E, N) (sgX g ++ dy) := by
          rw [← ag_hvE (J := J) (R := [44]) (F := [(11, 3), (11, 4)]) (ag_hv rfl rfl (ag_up (Or.inr rfl) (ag_hv rfl rfl (ag_up (Or.inr rfl) ag_rf))))]
          exact hW
        exact end_z C hr hlocks (by decide) (hv (up2 (hv (up2 J 11 4 x1) [44] [(11, 3), (11, 4)] u2) 11 4 x6) [44] [(11, 3), (11, 4)] u7) hWr (by first | exact Or.inr (⟨by decide, show (PF (NX (J 43) (J 11 2)) 4 ((d : Nat) + 1) (J 11 4).toInt.toNat (u7 11 4).toInt.toNat) from by first | omega | exact bk_f2 hbr (by omega) (or_r hA (by omega)).1 | exact (or_r hA (by omega)).2 | exact bk_cf2 hbr (by omega) hA1 (by omega) (by omega) (or_r hB (by omega)).1 | exact (or_r hB (by omega)).2 | exact bk_cx2 hbr (by omega) hA1 (by omega) (by omega) hB1 (by omega) | exact bk_x2 hbr (by omega) hA1 (by omega) (by omega), show (0 ≤ (u7 11 4).toInt) from by first | omega | exact bk_f2 hbr (by omega) (or_r hA (by omega)).1 | exact (or_r hA (by omega)).2 | exact bk_cf2 hbr (by omega) hA1 (by omega) (by omega) (or_r hB (by omega)).1 | exact (or_r hB (by omega)).2 | exact bk_cx2 hbr (by omega) hA1 (by omega) (by omega) hB1 (by omega) | exact bk_x2 hbr (by omega) hA1 (by omega) (by omega)⟩)) dX10_parseBracket_62
    · have c5 : ¬ r4.toInt = 60 := tne rfl kp60 c5
      refine lv_iload_n hx hb dX10_parseBracket_31 rfl (lv_at hl 0 rfl) ?_
      refine lv_bipush (v := 61) hx hb dX10_parseBracket_32 (by decide) ?_
      refine lv_icmp_eq (tgt := 43) hx hb dX10_parseBracket_34 (by decide) (fun c14 => ?_) (fun c14 => ?_)
      · have c14 : r4.toInt = 61 := teq rfl kp61 c14
        refine lv_aload_n hx hb dX10_parseBracket_43 rfl (lv_at hl 1 rfl) ?_
        refine lv_dup hx hb dX10_parseBracket_44 rfl ?_
        refine rg_11_4 C hW (mx_ rfl) tw_305 dX10_parseBracket_45 ?_
        refine lv_as (u2 11 4) rfl ?_
        refine lv_iconst (v := 1) hx hb dX10_parseBracket_48 (by decide) ?_
        refine lv_iadd hx hb dX10_parseBracket_49 ?_
        refine lv_topi (fun x15 (e15 : x15 = (u2 11 4) + 1) => ?_)
        try have t15 : x15.toInt = (u2 11 4).toInt + 1 := tadd e15 rfl kp1 (by omega)
        refine rp_11_4 C hW (mx_ rfl) tw_305 dX10_parseBracket_50 (fun H locs hW => ?_)
        refine lv_aload_n hx hb dX10_parseBracket_53 rfl (lv_at hl 1 rfl) ?_
        refine lv_iload_n hx hb dX10_parseBracket_54 rfl (lv_at hl 2 rfl) ?_
        refine ci_ C hW (runV (x := (g.2.2.1 11)) (As := [.int a0]) (rest := []) (T := (((up2 (hv (up2 J 11 4 x1) [44] [(11, 3), (11, 4)] u2) 11 4 x15), L, I, P, E, N), sgX g ++ dy)) C hW (ht l g (up2 (hv (up2 J 11 4 x1) [44] [(11, 3), (11, 4)] u2) 11 4 x15) L I P E N dy H.size a0 (show 0 ≤ (x15).toInt ∧ (x15).toInt ≤ (J 11 2).toInt ∧ (J 11 2).toInt ≤ 60 from by omega) (show 0 ≤ (u2 11 3).toInt ∧ (u2 11 3).toInt ≤ (x15).toInt from by omega) (show a0.toInt = 5 - (d : Int) from by omega) (show (d : Int) ≤ 5 from by omega)) mi_X10_parseSum tw_744 (recv_ (T := (((up2 (hv (up2 J 11 4 x1) [44] [(11, 3), (11, 4)] u2) 11 4 x15), L, I, P, E, N), sgX g ++ dy)) C hW (mx_ rfl) rfl rfl) ⟨rfl, rfl, by (simp only [RM]; omega), by (simp only [RM]; omega)⟩ rfl hl.1 rfl (Nat.le_of_ble_eq_true rfl) dX10_parseBracket_55 ⟨Nat.le_of_ble_eq_true rfl, Nat.le_of_ble_eq_true rfl⟩) (fun r16 u16 H locs hp16 hW => ?_)
        have hc16 : ((r16.toInt = 1 ∧ (PT (NX (J 43) (J 11 2)) 0 (d : Nat) (x15).toInt.toNat (u16 11 4).toInt.toNat (cs (u16 44) (u2 11 3).toInt.toNat (u16 11 3).toInt.toNat)) ∧ (∀ i : Nat, i < (u2 11 3).toInt.toNat → u16 44 i = u2 44 i) ∧ ((x15).toInt + 1 ≤ (u16 11 4).toInt ∧ (u16 11 4).toInt ≤ (J 11 2).toInt ∧ (u2 11 3).toInt ≤ (u16 11 3).toInt ∧ (u16 11 3).toInt - (u2 11 3).toInt ≤ (u16 11 4).toInt - (x15).toInt)) ∨ (r16.toInt = 0 ∧ (PF (NX (J 43) (J 11 2)) 0 (d : Nat) (x15).toInt.toNat (u16 11 4).toInt.toNat) ∧ (0 ≤ (u16 11 4).toInt))) := hp16
        clear hp16
        have hW : WB g A s.heap H locs ((hv (up2 (hv (up2 J 11 4 x1) [44] [(11, 3), (11, 4)] u2) 11 4 x15) [44] [(11, 3), (11, 4)] u16), L, I, P, E, N) (sgX g ++ dy) := hW
        have hB := hc16
        refine lv_if_ne (tgt := 63) hx hb dX10_parseBracket_58 (by decide) (fun c17 => ?_) (fun c17 => ?_)
        · have c17 : ¬ r16.toInt = 0 := tne rfl kp0 c17
          obtain ⟨hB1, hB2, hB3⟩ := or_l hB (by omega)
          refine lv_aload_n hx hb dX10_parseBracket_63 rfl (lv_at hl 1 rfl) ?_
          refine lv_iload_n hx hb dX10_parseBracket_64 rfl (lv_at hl 0 rfl) ?_
          refine lv_ineg hx hb dX10_parseBracket_65 ?_
          refine lv_topi (fun x18 (e18 : x18 = -r4) => ?_)
          try have t18 : x18.toInt = -r4.toInt := tneg e18 rfl (by omega)
          refine cv_ C hW (runV (x := (g.2.2.1 11)) (As := [.int x18]) (rest := []) (T := (((hv (up2 (hv (up2 J 11 4 x1) [44] [(11, 3), (11, 4)] u2) 11 4 x15) [44] [(11, 3), (11, 4)] u16), L, I, P, E, N), sgX g ++ dy)) C hW (c_X10_emit_e l g (hv (up2 (hv (up2 J 11 4 x1) [44] [(11, 3), (11, 4)] u2) 11 4 x15) [44] [(11, 3), (11, 4)] u16) L I P E N dy H.size x18 (show 0 ≤ (u16 11 3).toInt ∧ (u16 11 3).toInt ≤ 59 from by omega)) mi_X10_emit tw_764 (recv_ (T := (((hv (up2 (hv (up2 J 11 4 x1) [44] [(11, 3), (11, 4)] u2) 11 4 x15) [44] [(11, 3), (11, 4)] u16), L, I, P, E, N), sgX g ++ dy)) C hW (mx_ rfl) rfl rfl) ⟨rfl, rfl, by (simp only [RM]; omega), by (simp only [RM]; omega)⟩ rfl hl.1 rfl (Nat.le_of_ble_eq_true rfl) dX10_parseBracket_66 ⟨Nat.le_of_ble_eq_true rfl, Nat.le_of_ble_eq_true rfl⟩) (fun u19 H locs hp19 hW => ?_)
          obtain ⟨hf19_0, hf19_1⟩ : ((u19 11 3).toInt = (u16 11 3).toInt + 1) ∧ (u19 44 = up2 u16 44 (u16 11 3).toInt.toNat x18 44) := hp19
          have hW : WB g A s.heap H locs ((hv (hv (up2 (hv (up2 J 11 4 x1) [44] [(11, 3), (11, 4)] u2) 11 4 x15) [44] [(11, 3), (11, 4)] u16) [44] [(11, 3)] u19), L, I, P, E, N) (sgX g ++ dy) := hW
          have hE0 := hf19_0
          have hE1 := hf19_1
          refine lv_aload_n hx hb dX10_parseBracket_69 rfl (lv_at hl 1 rfl) ?_
          refine ci_ C hW (runV (x := (g.2.2.1 11)) (As := []) (rest := []) (T := (((hv (hv (up2 (hv (up2 J 11 4 x1) [44] [(11, 3), (11, 4)] u2) 11 4 x15) [44] [(11, 3), (11, 4)] u16) [44] [(11, 3)] u19), L, I, P, E, N), sgX g ++ dy)) C hW (c_X10_next_e l g (hv (hv (up2 (hv (up2 J 11 4 x1) [44] [(11, 3), (11, 4)] u2) 11 4 x15) [44] [(11, 3), (11, 4)] u16) [44] [(11, 3)] u19) L I P E N dy H.size  (show 0 ≤ (u16 11 4).toInt ∧ (J 11 2).toInt ≤ 60 from by omega)) mi_X10_next tw_756 (recv_ (T := (((hv (hv (up2 (hv (up2 J 11 4 x1) [44] [(11, 3), (11, 4)] u2) 11 4 x15) [44] [(11, 3), (11, 4)] u16) [44] [(11, 3)] u19), L, I, P, E, N), sgX g ++ dy)) C hW (mx_ rfl) rfl rfl) ⟨rfl, rfl, by (simp only [RM]; omega), by (simp only [RM]; omega)⟩ rfl hl.1 rfl (Nat.le_of_ble_eq_true rfl) dX10_parseBracket_70 ⟨Nat.le_of_ble_eq_true rfl, Nat.le_of_ble_eq_true rfl⟩) (fun r20 u20 H locs hp20 hW => ?_)
          obtain ⟨hf20_0, hf20_1⟩ : (r20.toInt = NX (J 43) (J 11 2) (u16 11 4).toInt.toNat) ∧ (r20.toInt = -1 ∨ (u16 11 4).toInt < (J 11 2).toInt) := hp20
          have hW : WB g A s.heap H locs ((hv (hv (up2 (hv (up2 J 11 4 x1) [44] [(11, 3), (11, 4)] u2) 11 4 x15) [44] [(11, 3), (11, 4)] u16) [44] [(11, 3)] u19), L, I, P, E, N) (sgX g ++ dy) := hW
          have hM := hf20_0
          refine lv_bipush (v := 41) hx hb dX10_parseBracket_73 (by decide) ?_
          refine lv_icmp_eq (tgt := 80) hx hb dX10_parseBracket_75 (by decide) (fun c21 => ?_) (fun c21 => ?_)
          · have c21 : r20.toInt = 41 := teq rfl kp41 c21
            refine lv_aload_n hx hb dX10_parseBracket_80 rfl (lv_at hl 1 rfl) ?_
            refine lv_dup hx hb dX10_parseBracket_81 rfl ?_
            refine rg_11_4 C hW (mx_ rfl) tw_305 dX10_parseBracket_82 ?_
            refine lv_as (u16 11 4) rfl ?_
            refine lv_iconst (v := 1) hx hb dX10_parseBracket_85 (by decide) ?_
            refine lv_iadd hx hb dX10_parseBracket_86 ?_
            refine lv_topi (fun x22 (e22 : x22 = (u16 11 4) + 1) => ?_)
            try have t22 : x22.toInt = (u16 11 4).toInt + 1 := tadd e22 rfl kp1 (by omega)
            refine rp_11_4 C hW (mx_ rfl) tw_305 dX10_parseBracket_87 (fun H locs hW => ?_)
            refine lv_iconst (v := 1) hx hb dX10_parseBracket_90 (by decide) ?_
            have hWr : WB g A s.heap H locs ((hv J [44] [(11, 3), (11, 4)] (up2 (hv (hv (up2 (hv (up2 J 11 4 x1) [44] [(11, 3), (11, 4)] u2) 11 4 x15) [44] [(11, 3), (11, 4)] u16) [44] [(11, 3)] u19) 11 4 x22)), L, I, P, E, N) (sgX g ++ dy) := by
              rw [← ag_hvE (J := J) (R := [44]) (F := [(11, 3), (11, 4)]) (ag_up (Or.inr rfl) (ag_hv rfl rfl (ag_hv rfl rfl (ag_up (Or.inr rfl) (ag_hv rfl rfl (ag_up (Or.inr rfl) ag_rf))))))]
              exact hW
            exact end_z C hr hlocks (by decide) (up2 (hv (hv (up2 (hv (up2 J 11 4 x1) [44] [(11, 3), (11, 4)] u2) 11 4 x15) [44] [(11, 3), (11, 4)] u16) [44] [(11, 3)] u19) 11 4 x22) hWr (by first | exact Or.inl ⟨by decide, show (PT (NX (J 43) (J 11 2)) 4 ((d : Nat) + 1) (J 11 4).toInt.toNat (x22).toInt.toNat (cs (u19 44) (J 11 3).toInt.toNat (u19 11 3).toInt.toNat)) from by first | omega | exact hA2 | exact bk_t2 hbr (by omega) hA1 (by omega) (by omega) | (intro i hi; exact ((congrFun hE1 i).trans (up2_f _ _ _ (by omega))).trans ((hB2 i (by omega)).trans (hA2 i hi))) | exact bk_ct2 hbr (by omega) hA1 (by omega) (by omega) hB1 (by omega) (by omega) (by omega) (by omega) (by omega) hB2 (fun i hi => (congrFun hE1 i).trans (up2_f _ _ _ (by omega))) ((congrArg Int32.toInt ((congrFun hE1 _).trans (up2_s _ _ _ _))).trans (by omega)), show (∀ i : Nat, i < (J 11 3).toInt.toNat → u19 44 i = J 44 i) from by first | omega | exact hA2 | exact bk_t2 hbr (by omega) hA1 (by omega) (by omega) | (intro i hi; exact ((congrFun hE1 i).trans (up2_f _ _ _ (by omega))).trans ((hB2 i (by omega)).trans (hA2 i hi))) | exact bk_ct2 hbr (by omega) hA1 (by omega) (by omega) hB1 (by omega) (by omega) (by omega) (by omega) (by omega) hB2 (fun i hi => (congrFun hE1 i).trans (up2_f _ _ _ (by omega))) ((congrArg Int32.toInt ((congrFun hE1 _).trans (up2_s _ _ _ _))).trans (by omega)), show ((J 11 4).toInt + 1 ≤ (x22).toInt ∧ (x22).toInt ≤ (J 11 2).toInt ∧ (J 11 3).toInt ≤ (u19 11 3).toInt ∧ (u19 11 3).toInt - (J 11 3).toInt ≤ (x22).toInt - (J 11 4).toInt) from by first | omega | exact hA2 | exact bk_t2 hbr (by omega) hA1 (by omega) (by omega) | (intro i hi; exact ((congrFun hE1 i).trans (up2_f _ _ _ (by omega))).trans ((hB2 i (by omega)).trans (hA2 i hi))) | exact bk_ct2 hbr (by omega) hA1 (by omega) (by omega) hB1 (by omega) (by omega) (by omega) (by omega) (by omega) hB2 (fun i hi => (congrFun hE1 i).trans (up2_f _ _ _ (by omega))) ((congrArg Int32.toInt ((congrFun hE1 _).trans (up2_s _ _ _ _))).trans (by omega))⟩) dX10_parseBracket_91
          · have c21 : ¬ r20.toInt = 41 := tne rfl kp41 c21
            refine lv_iconst (v := 0) hx hb dX10_parseBracket_78 (by decide) ?_
            have hWr : WB g A s.heap H locs ((hv J [44] [(11, 3), (11, 4)] (hv (hv (up2 (hv (up2 J 11 4 x1) [44] [(11, 3), (11, 4)] u2) 11 4 x15) [44] [(11, 3), (11, 4)] u16) [44] [(11, 3)] u19)), L, I, P, E, N) (sgX g ++ dy) := by
              rw [← ag_hvE (J := J) (R := [44]) (F := [(11, 3), (11, 4)]) (ag_hv rfl rfl (ag_hv rfl rfl (ag_up (Or.inr rfl) (ag_hv rfl rfl (ag_up (Or.inr rfl) ag_rf)))))]
              exact hW
            exact end_z C hr hlocks (by decide) (hv (hv (up2 (hv (up2 J 11 4 x1) [44] [(11, 3), (11, 4)] u2) 11 4 x15) [44] [(11, 3), (11, 4)] u16) [44] [(11, 3)] u19) hWr (by first | exact Or.inr (⟨by decide, show (PF (NX (J 43) (J 11 2)) 4 ((d : Nat) + 1) (J 11 4).toInt.toNat (u16 11 4).toInt.toNat) from by first | omega | exact bk_f2 hbr (by omega) (or_r hA (by omega)).1 | exact (or_r hA (by omega)).2 | exact bk_cf2 hbr (by omega) hA1 (by omega) (by omega) (or_r hB (by omega)).1 | exact (or_r hB (by omega)).2 | exact bk_cx2 hbr (by omega) hA1 (by omega) (by omega) hB1 (by omega) | exact bk_x2 hbr (by omega) hA1 (by omega) (by omega), show (0 ≤ (u16 11 4).toInt) from by first | omega | exact bk_f2 hbr (by omega) (or_r hA (by omega)).1 | exact (or_r hA (by omega)).2 | exact bk_cf2 hbr (by omega) hA1 (by omega) (by omega) (or_r hB (by omega)).1 | exact (or_r hB (by omega)).2 | exact bk_cx2 hbr (by omega) hA1 (by omega) (by omega) hB1 (by omega) | exact bk_x2 hbr (by omega) hA1 (by omega) (by omega)⟩)) dX10_parseBracket_79
        · have c17 : r16.toInt = 0 := teq rfl kp0 c17
          refine lv_iconst (v := 0) hx hb dX10_parseBracket_61 (by decide) ?_
          have hWr : WB g A s.heap H locs ((hv J [44] [(11, 3), (11, 4)] (hv (up2 (hv (up2 J 11 4 x1) [44] [(11, 3), (11, 4)] u2) 11 4 x15) [44] [(11, 3), (11, 4)] u16)), L, I, P, E, N) (sgX g ++ dy) := by
            rw [← ag_hvE (J := J) (R := [44]) (F := [(11, 3), (11, 4)]) (ag_hv rfl rfl (ag_up (Or.inr rfl) (ag_hv rfl rfl (ag_up (Or.inr rfl) ag_rf))))]
            exact hW
          exact end_z C hr hlocks (by decide) (hv (up2 (hv (up2 J 11 4 x1) [44] [(11, 3), (11, 4)] u2) 11 4 x15) [44] [(11, 3), (11, 4)] u16) hWr (by first | exact Or.inr (⟨by decide, show (PF (NX (J 43) (J 11 2)) 4 ((d : Nat) + 1) (J 11 4).toInt.toNat (u16 11 4).toInt.toNat) from by first | omega | exact bk_f2 hbr (by omega) (or_r hA (by omega)).1 | exact (or_r hA (by omega)).2 | exact bk_cf2 hbr (by omega) hA1 (by omega) (by omega) (or_r hB (by omega)).1 | exact (or_r hB (by omega)).2 | exact bk_cx2 hbr (by omega) hA1 (by omega) (by omega) hB1 (by omega) | exact bk_x2 hbr (by omega) hA1 (by omega) (by omega), show (0 ≤ (u16 11 4).toInt) from by first | omega | exact bk_f2 hbr (by omega) (or_r hA (by omega)).1 | exact (or_r hA (by omega)).2 | exact bk_cf2 hbr (by omega) hA1 (by omega) (by omega) (or_r hB (by omega)).1 | exact (or_r hB (by omega)).2 | exact bk_cx2 hbr (by omega) hA1 (by omega) (by omega) hB1 (by omega) | exact bk_x2 hbr (by omega) hA1 (by omega) (by omega)⟩)) dX10_parseBracket_62
      · have c14 : ¬ r4.toInt = 61 := tne rfl kp61 c14
        refine lv_iload_n hx hb dX10_parseBracket_37 rfl (lv_at hl 0 rfl) ?_
        refine lv_bipush (v := 62) hx hb dX10_parseBracket_38 (by decide) ?_
        refine lv_icmp_ne (tgt := 69) hx hb dX10_parseBracket_40 (by decide) (fun c23 => ?_) (fun c23 => ?_)
        · have c23 : ¬ r4.toInt = 62 := tne rfl kp62 c23
          refine lv_aload_n hx hb dX10_parseBracket_69 rfl (lv_at hl 1 rfl) ?_
          refine ci_ C hW (runV (x := (g.2.2.1 11)) (As := []) (rest := []) (T := (((hv (up2 J 11 4 x1) [44] [(11, 3), (11, 4)] u2), L, I, P, E, N), sgX g ++ dy)) C hW (c_X10_next_e l g (hv (up2 J 11 4 x1) [44] [(11, 3), (11, 4)] u2) L I P E N dy H.size  (show 0 ≤ (u2 11 4).toInt ∧ (J 11 2).toInt ≤ 60 from by omega)) mi_X10_next tw_756 (recv_ (T := (((hv (up2 J 11 4 x1) [44] [(11, 3), (11, 4)] u2), L, I, P, E, N), sgX g ++ dy)) C hW (mx_ rfl) rfl rfl) ⟨rfl, rfl, by (simp only [RM]; omega), by (simp only [RM]; omega)⟩ rfl hl.1 rfl (Nat.le_of_ble_eq_true rfl) dX10_parseBracket_70 ⟨Nat.le_of_ble_eq_true rfl, Nat.le_of_ble_eq_true rfl⟩) (fun r24 u24 H locs hp24 hW => ?_)
          obtain ⟨hf24_0, hf24_1⟩ : (r24.toInt = NX (J 43) (J 11 2) (u2 11 4).toInt.toNat) ∧ (r24.toInt = -1 ∨ (u2 11 4).toInt < (J 11 2).toInt) := hp24
          have hW : WB g A s.heap H locs ((hv (up2 J 11 4 x1) [44] [(11, 3), (11, 4)] u2), L, I, P, E, N) (sgX g ++ dy) := hW
          have hM := hf24_0
          refine lv_bipush (v := 41) hx hb dX10_parseBracket_73 (by decide) ?_
          refine lv_icmp_eq (tgt := 80) hx hb dX10_parseBracket_75 (by decide) (fun c25 => ?_) (fun c25 => ?_)
          · have c25 : r24.toInt = 41 := teq rfl kp41 c25
            refine lv_aload_n hx hb dX10_parseBracket_80 rfl (lv_at hl 1 rfl) ?_
            refine lv_dup hx hb dX10_parseBracket_81 rfl ?_
            refine rg_11_4 C hW (mx_ rfl) tw_305 dX10_parseBracket_82 ?_
            refine lv_as (u2 11 4) rfl ?_
            refine lv_iconst (v := 1) hx hb dX10_parseBracket_85 (by decide) ?_
            refine lv_iadd hx hb dX10_parseBracket_86 ?_
            refine lv_topi (fun x26 (e26 : x26 = (u2 11 4) + 1) => ?_)
            try have t26 : x26.toInt = (u2 11 4).toInt + 1 := tadd e26 rfl kp1 (by omega)
            refine rp_11_4 C hW (mx_ rfl) tw_305 dX10_parseBracket_87 (fun H locs hW => ?_)
            refine lv_iconst (v := 1) hx hb dX10_parseBracket_90 (by decide) ?_
            have hWr : WB g A s.heap H locs ((hv J [44] [(11, 3), (11, 4)] (up2 (hv (up2 J 11 4 x1) [44] [(11, 3), (11, 4)] u2) 11 4 x26)), L, I, P, E, N) (sgX g ++ dy) := by
              rw [← ag_hvE (J := J) (R := [44]) (F := [(11, 3), (11, 4)]) (ag_up (Or.inr rfl) (ag_hv rfl rfl (ag_up (Or.inr rfl) ag_rf)))]
              exact hW
            exact end_z C hr hlocks (by decide) (up2 (hv (up2 J 11 4 x1) [44] [(11, 3), (11, 4)] u2) 11 4 x26) hWr (by first | exact Or.inl ⟨by decide, show (PT (NX (J 43) (J 11 2)) 4 ((d : Nat) + 1) (J 11 4).toInt.toNat (x26).toInt.toNat (cs (u2 44) (J 11 3).toInt.toNat (u2 11 3).toInt.toNat)) from by first | omega | exact hA2 | exact bk_t2 hbr (by omega) hA1 (by omega) (by omega) | (intro i hi; exact ((congrFun hE1 i).trans (up2_f _ _ _ (by omega))).trans ((hB2 i (by omega)).trans (hA2 i hi))) | exact bk_ct2 hbr (by omega) hA1 (by omega) (by omega) hB1 (by omega) (by omega) (by omega) (by omega) (by omega) hB2 (fun i hi => (congrFun hE1 i).trans (up2_f _ _ _ (by omega))) ((congrArg Int32.toInt ((congrFun hE1 _).trans (up2_s _ _ _ _))).trans (by omega)), show (∀ i : Nat, i < (J 11 3).toInt.toNat → u2 44 i = J 44 i) from by first | omega | exact hA2 | exact bk_t2 hbr (by omega) hA1 (by omega) (by omega) | (intro i hi; exact ((congrFun hE1 i).trans (up2_f _ _ _ (by omega))).trans ((hB2 i (by omega)).trans (hA2 i hi))) | exact bk_ct2 hbr (by omega) hA1 (by omega) (by omega) hB1 (by omega) (by omega) (by omega) (by omega) (by omega) hB2 (fun i hi => (congrFun hE1 i).trans (up2_f _ _ _ (by omega))) ((congrArg Int32.toInt ((congrFun hE1 _).trans (up2_s _ _ _ _))).trans (by omega)), show ((J 11 4).toInt + 1 ≤ (x26).toInt ∧ (x26).toInt ≤ (J 11 2).toInt ∧ (J 11 3).toInt ≤ (u2 11 3).toInt ∧ (u2 11 3).toInt - (J 11 3).toInt ≤ (x26).toInt - (J 11 4).toInt) from by first | omega | exact hA2 | exact bk_t2 hbr (by omega) hA1 (by omega) (by omega) | (intro i hi; exact ((congrFun hE1 i).trans (up2_f _ _ _ (by omega))).trans ((hB2 i (by omega)).trans (hA2 i hi))) | exact bk_ct2 hbr (by omega) hA1 (by omega) (by omega) hB1 (by omega) (by omega) (by omega) (by omega) (by omega) hB2 (fun i hi => (congrFun hE1 i).trans (up2_f _ _ _ (by omega))) ((congrArg Int32.toInt ((congrFun hE1 _).trans (up2_s _ _ _ _))).trans (by omega))⟩) dX10_parseBracket_91
          · have c25 : ¬ r24.toInt = 41 := tne rfl kp41 c25
            refine lv_iconst (v := 0) hx hb dX10_parseBracket_78 (by decide) ?_
            have hWr : WB g A s.heap H locs ((hv J [44] [(11, 3), (11, 4)] (hv (up2 J 11 4 x1) [44] [(11, 3), (11, 4)] u2)), L, I, P, E, N) (sgX g ++ dy) := by
              rw [← ag_hvE (J := J) (R := [44]) (F := [(11, 3), (11, 4)]) (ag_hv rfl rfl (ag_up (Or.inr rfl) ag_rf))]
              exact hW
            exact end_z C hr hlocks (by decide) (hv (up2 J 11 4 x1) [44] [(11, 3), (11, 4)] u2) hWr (by first | exact Or.inr (⟨by decide, show (PF (NX (J 43) (J 11 2)) 4 ((d : Nat) + 1) (J 11 4).toInt.toNat (u2 11 4).toInt.toNat) from by first | omega | exact bk_f2 hbr (by omega) (or_r hA (by omega)).1 | exact (or_r hA (by omega)).2 | exact bk_cf2 hbr (by omega) hA1 (by omega) (by omega) (or_r hB (by omega)).1 | exact (or_r hB (by omega)).2 | exact bk_cx2 hbr (by omega) hA1 (by omega) (by omega) hB1 (by omega) | exact bk_x2 hbr (by omega) hA1 (by omega) (by omega), show (0 ≤ (u2 11 4).toInt) from by first | omega | exact bk_f2 hbr (by omega) (or_r hA (by omega)).1 | exact (or_r hA (by omega)).2 | exact bk_cf2 hbr (by omega) hA1 (by omega) (by omega) (or_r hB (by omega)).1 | exact (or_r hB (by omega)).2 | exact bk_cx2 hbr (by omega) hA1 (by omega) (by omega) hB1 (by omega) | exact bk_x2 hbr (by omega) hA1 (by omega) (by omega)⟩)) dX10_parseBracket_79
        · have c23 : r4.toInt = 62 := teq rfl kp62 c23
          refine lv_aload_n hx hb dX10_parseBracket_43 rfl (lv_at hl 1 rfl) ?_
          refine lv_dup hx hb dX10_parseBracket_44 rfl ?_
          refine rg_11_4 C hW (mx_ rfl) tw_305 dX10_parseBracket_45 ?_
          refine lv_as (u2 11 4) rfl ?_
          refine lv_iconst (v := 1) hx hb dX10_parseBracket_48 (by decide) ?_
          refine lv_iadd hx hb dX10_parseBracket_49 ?_
          refine lv_topi (fun x27 (e27 : x27 = (u2 11 4) + 1) => ?_)
          try have t27 : x27.toInt = (u2 11 4).toInt + 1 := tadd e27 rfl kp1 (by omega)
          refine rp_11_4 C hW (mx_ rfl) tw_305 dX10_parseBracket_50 (fun H locs hW => ?_)
          refine lv_aload_n hx hb dX10_parseBracket_53 rfl (lv_at hl 1 rfl) ?_
          refine lv_iload_n hx hb dX10_parseBracket_54 rfl (lv_at hl 2 rfl) ?_
          refine ci_ C hW (runV (x := (g.2.2.1 11)) (As := [.int a0]) (rest := []) (T := (((up2 (hv (up2 J 11 4 x1) [44] [(11, 3), (11, 4)] u2) 11 4 x27), L, I, P, E, N), sgX g ++ dy)) C hW (ht l g (up2 (hv (up2 J 11 4 x1) [44] [(11, 3), (11, 4)] u2) 11 4 x27) L I P E N dy H.size a0 (show 0 ≤ (x27).toInt ∧ (x27).toInt ≤ (J 11 2).toInt ∧ (J 11 2).toInt ≤ 60 from by omega) (show 0 ≤ (u2 11 3).toInt ∧ (u2 11 3).toInt ≤ (x27).toInt from by omega) (show a0.toInt = 5 - (d : Int) from by omega) (show (d : Int) ≤ 5 from by omega)) mi_X10_parseSum tw_744 (recv_ (T := (((up2 (hv (up2 J 11 4 x1) [44] [(11, 3), (11, 4)] u2) 11 4 x27), L, I, P, E, N), sgX g ++ dy)) C hW (mx_ rfl) rfl rfl) ⟨rfl, rfl, by (simp only [RM]; omega), by (simp only [RM]; omega)⟩ rfl hl.1 rfl (Nat.le_of_ble_eq_true rfl) dX10_parseBracket_55 ⟨Nat.le_of_ble_eq_true rfl, Nat.le_of_ble_eq_true rfl⟩) (fun r28 u28 H locs hp28 hW => ?_)
          have hc28 : ((r28.toInt = 1 ∧ (PT (NX (J 43) (J 11 2)) 0 (d : Nat) (x27).toInt.toNat (u28 11 4).toInt.toNat (cs (u28 44) (u2 11 3).toInt.toNat (u28 11 3).toInt.toNat)) ∧ (∀ i : Nat, i < (u2 11 3).toInt.toNat → u28 44 i = u2 44 i) ∧ ((x27).toInt + 1 ≤ (u28 11 4).toInt ∧ (u28 11 4).toInt ≤ (J 11 2).toInt ∧ (u2 11 3).toInt ≤ (u28 11 3).toInt ∧ (u28 11 3).toInt - (u2 11 3).toInt ≤ (u28 11 4).toInt - (x27).toInt)) ∨ (r28.toInt = 0 ∧ (PF (NX (J 43) (J 11 2)) 0 (d : Nat) (x27).toInt.toNat (u28 11 4).toInt.toNat) ∧ (0 ≤ (u28 11 4).toInt))) := hp28
          clear hp28
          have hW : WB g A s.heap H locs ((hv (up2 (hv (up2 J 11 4 x1) [44] [(11, 3), (11, 4)] u2) 11 4 x27) [44] [(11, 3), (11, 4)] u28), L, I, P, E, N) (sgX g ++ dy) := hW
          have hB := hc28
          refine lv_if_ne (tgt := 63) hx hb dX10_parseBracket_58 (by decide) (fun c29 => ?_) (fun c29 => ?_)
          · have c29 : ¬ r28.toInt = 0 := tne rfl kp0 c29
            obtain ⟨hB1, hB2, hB3⟩ := or_l hB (by omega)
            refine lv_aload_n hx hb dX10_parseBracket_63 rfl (lv_at hl 1 rfl) ?_
            refine lv_iload_n hx hb dX10_parseBracket_64 rfl (lv_at hl 0 rfl) ?_
            refine lv_ineg hx hb dX10_parseBracket_65 ?_
            refine lv_topi (fun x30 (e30 : x30 = -r4) => ?_)
            try have t30 : x30.toInt = -r4.toInt := tneg e30 rfl (by omega)
            refine cv_ C hW (runV (x := (g.2.2.1 11)) (As := [.int x30]) (rest := []) (T := (((hv (up2 (hv (up2 J 11 4 x1) [44] [(11, 3), (11, 4)] u2) 11 4 x27) [44] [(11, 3), (11, 4)] u28), L, I, P, E, N), sgX g ++ dy)) C hW (c_X10_emit_e l g (hv (up2 (hv (up2 J 11 4 x1) [44] [(11, 3), (11, 4)] u2) 11 4 x27) [44] [(11, 3), (11, 4)] u28) L I P E N dy H.size x30 (show 0 ≤ (u28 11 3).toInt ∧ (u28 11 3).toInt ≤ 59 from by omega)) mi_X10_emit tw_764 (recv_ (T := (((hv (up2 (hv (up2 J 11 4 x1) [44] [(11, 3), (11, 4)] u2) 11 4 x27) [44] [(11, 3), (11, 4)] u28), L, I, P, E, N), sgX g ++ dy)) C hW (mx_ rfl) rfl rfl) ⟨rfl, rfl, by (simp only [RM]; omega), by (simp only [RM]; omega)⟩ rfl hl.1 rfl (Nat.le_of_ble_eq_true rfl) dX10_parseBracket_66 ⟨Nat.le_of_ble_eq_true rfl, Nat.le_of_ble_eq_true rfl⟩) (fun u31 H locs hp31 hW => ?_)
            obtain ⟨hf31_0, hf31_1⟩ : ((u31 11 3).toInt = (u28 11 3).toInt + 1) ∧ (u31 44 = up2 u28 44 (u28 11 3).toInt.toNat x30 44) := hp31
            have hW : WB g A s.heap H locs ((hv (hv (up2 (hv (up2 J 11 4 x1) [44] [(11, 3), (11, 4)] u2) 11 4 x27) [44] [(11, 3), (11, 4)] u28) [44] [(11, 3)] u31), L, I, P, E, N) (sgX g ++ dy) := hW
            have hE0 := hf31_0
            have hE1 := hf31_1
            refine lv_aload_n hx hb dX10_parseBracket_69 rfl (lv_at hl 1 rfl) ?_
            refine ci_ C hW (runV (x := (g.2.2.1 11)) (As := []) (rest := []) (T := (((hv (hv (up2 (hv (up2 J 11 4 x1) [44] [(11, 3), (11, 4)] u2) 11 4 x27) [44] [(11, 3), (11, 4)] u28) [44] [(11, 3)] u31), L, I, P, E, N), sgX g ++ dy)) C hW (c_X10_next_e l g (hv (hv (up2 (hv (up2 J 11 4 x1) [44] [(11, 3), (11, 4)] u2) 11 4 x27) [44] [(11, 3), (11, 4)] u28) [44] [(11, 3)] u31) L I P E N dy H.size  (show 0 ≤ (u28 11 4).toInt ∧ (J 11 2).toInt ≤ 60 from by omega)) mi_X10_next tw_756 (recv_ (T := (((hv (hv (up2 (hv (up2 J 11 4 x1) [44] [(11, 3), (11, 4)] u2) 11 4 x27) [44] [(11, 3), (11, 4)] u28) [44] [(11, 3)] u31), L, I, P, E, N), sgX g ++ dy)) C hW (mx_ rfl) rfl rfl) ⟨rfl, rfl, by (simp only [RM]; omega), by (simp only [RM]; omega)⟩ rfl hl.1 rfl (Nat.le_of_ble_eq_true rfl) dX10_parseBracket_70 ⟨Nat.le_of_ble_eq_true rfl, Nat.le_of_ble_eq_true rfl⟩) (fun r32 u32 H locs hp32 hW => ?_)
            obtain ⟨hf32_0, hf32_1⟩ : (r32.toInt = NX (J 43) (J 11 2) (u28 11 4).toInt.toNat) ∧ (r32.toInt = -1 ∨ (u28 11 4).toInt < (J 11 2).toInt) := hp32
            have hW : WB g A s.heap H locs ((hv (hv (up2 (hv (up2 J 11 4 x1) [44] [(11, 3), (11, 4)] u2) 11 4 x27) [44] [(11, 3), (11, 4)] u28) [44] [(11, 3)] u31), L, I, P, E, N) (sgX g ++ dy) := hW
            have hM := hf32_0
            refine lv_bipush (v := 41) hx hb dX10_parseBracket_73 (by decide) ?_
            refine lv_icmp_eq (tgt := 80) hx hb dX10_parseBracket_75 (by decide) (fun c33 => ?_) (fun c33 => ?_)
            · have c33 : r32.toInt = 41 := teq rfl kp41 c33
              refine lv_aload_n hx hb dX10_parseBracket_80 rfl (lv_at hl 1 rfl) ?_
              refine lv_dup hx hb dX10_parseBracket_81 rfl ?_
              refine rg_11_4 C hW (mx_ rfl) tw_305 dX10_parseBracket_82 ?_
              refine lv_as (u28 11 4) rfl ?_
              refine lv_iconst (v := 1) hx hb dX10_parseBracket_85 (by decide) ?_
              refine lv_iadd hx hb dX10_parseBracket_86 ?_
              refine lv_topi (fun x34 (e34 : x34 = (u28 11 4) + 1) => ?_)
              try have t34 : x34.toInt = (u28 11 4).toInt + 1 := tadd e34 rfl kp1 (by omega)
              refine rp_11_4 C hW (mx_ rfl) tw_305 dX10_parseBracket_87 (fun H locs hW => ?_)
              refine lv_iconst (v := 1) hx hb dX10_parseBracket_90 (by decide) ?_
              have hWr : WB g A s.heap H locs ((hv J [44] [(11, 3), (11, 4)] (up2 (hv (hv (up2 (hv (up2 J 11 4 x1) [44] [(11, 3), (11, 4)] u2) 11 4 x27) [44] [(11, 3), (11, 4)] u28) [44] [(11, 3)] u31) 11 4 x34)), L, I, P, E, N) (sgX g ++ dy) := by
                rw [← ag_hvE (J := J) (R := [44]) (F := [(11, 3), (11, 4)]) (ag_up (Or.inr rfl) (ag_hv rfl rfl (ag_hv rfl rfl (ag_up (Or.inr rfl) (ag_hv rfl rfl (ag_up (Or.inr rfl) ag_rf))))))]
                exact hW
              exact end_z C hr hlocks (by decide) (up2 (hv (hv (up2 (hv (up2 J 11 4 x1) [44] [(11, 3), (11, 4)] u2) 11 4 x27) [44] [(11, 3), (11, 4)] u28) [44] [(11, 3)] u31) 11 4 x34) hWr (by first | exact Or.inl ⟨by decide, show (PT (NX (J 43) (J 11 2)) 4 ((d : Nat) + 1) (J 11 4).toInt.toNat (x34).toInt.toNat (cs (u31 44) (J 11 3).toInt.toNat (u31 11 3).toInt.toNat)) from by first | omega | exact hA2 | exact bk_t2 hbr (by omega) hA1 (by omega) (by omega) | (intro i hi; exact ((congrFun hE1 i).trans (up2_f _ _ _ (by omega))).trans ((hB2 i (by omega)).trans (hA2 i hi))) | exact bk_ct2 hbr (by omega) hA1 (by omega) (by omega) hB1 (by omega) (by omega) (by omega) (by omega) (by omega) hB2 (fun i hi => (congrFun hE1 i).trans (up2_f _ _ _ (by omega))) ((congrArg Int32.toInt ((congrFun hE1 _).trans (up2_s _ _ _ _))).trans (by omega)), show (∀ i : Nat, i < (J 11 3).toInt.toNat → u31 44 i = J 44 i) from by first | omega | exact hA2 | exact bk_t2 hbr (by omega) hA1 (by omega) (by omega) | (intro i hi; exact ((congrFun hE1 i).trans (up2_f _ _ _ (by omega))).trans ((hB2 i (by omega)).trans (hA2 i hi))) | exact bk_ct2 hbr (by omega) hA1 (by omega) (by omega) hB1 (by omega) (by omega) (by omega) (by omega) (by omega) hB2 (fun i hi => (congrFun hE1 i).trans (up2_f _ _ _ (by omega))) ((congrArg Int32.toInt ((congrFun hE1 _).trans (up2_s _ _ _ _))).trans (by omega)), show ((J 11 4).toInt + 1 ≤ (x34).toInt ∧ (x34).toInt ≤ (J 11 2).toInt ∧ (J 11 3).toInt ≤ (u31 11 3).toInt ∧ (u31 11 3).toInt - (J 11 3).toInt ≤ (x34).toInt - (J 11 4).toInt) from by first | omega | exact hA2 | exact bk_t2 hbr (by omega) hA1 (by omega) (by omega) | (intro i hi; exact ((congrFun hE1 i).trans (up2_f _ _ _ (by omega))).trans ((hB2 i (by omega)).trans (hA2 i hi))) | exact bk_ct2 hbr (by omega) hA1 (by omega) (by omega) hB1 (by omega) (by omega) (by omega) (by omega) (by omega) hB2 (fun i hi => (congrFun hE1 i).trans (up2_f _ _ _ (by omega))) ((congrArg Int32.toInt ((congrFun hE1 _).trans (up2_s _ _ _ _))).trans (by omega))⟩) dX10_parseBracket_91
            · have c33 : ¬ r32.toInt = 41 := tne rfl kp41 c33
              refine lv_iconst (v := 0) hx hb dX10_parseBracket_78 (by decide) ?_
              have hWr : WB g A s.heap H locs ((hv J [44] [(11, 3), (11, 4)] (hv (hv (up2 (hv (up2 J 11 4 x1) [44] [(11, 3), (11, 4)] u2) 11 4 x27) [44] [(11, 3), (11, 4)] u28) [44] [(11, 3)] u31)), L, I, P, E, N) (sgX g ++ dy) := by
                rw [← ag_hvE (J := J) (R := [44]) (F := [(11, 3), (11, 4)]) (ag_hv rfl rfl (ag_hv rfl rfl (ag_up (Or.inr rfl) (ag_hv rfl rfl (ag_up (Or.inr rfl) ag_rf)))))]
                exact hW
              exact end_z C hr hlocks (by decide) (hv (hv (up2 (hv (up2 J 11 4 x1) [44] [(11, 3), (11, 4)] u2) 11 4 x27) [44] [(11, 3), (11, 4)] u28) [44] [(11, 3)] u31) hWr (by first | exact Or.inr (⟨by decide, show (PF (NX (J 43) (J 11 2)) 4 ((d : Nat) + 1) (J 11 4).toInt.toNat (u28 11 4).toInt.toNat) from by first | omega | exact bk_f2 hbr (by omega) (or_r hA (by omega)).1 | exact (or_r hA (by omega)).2 | exact bk_cf2 hbr (by omega) hA1 (by omega) (by omega) (or_r hB (by omega)).1 | exact (or_r hB (by omega)).2 | exact bk_cx2 hbr (by omega) hA1 (by omega) (by omega) hB1 (by omega) | exact bk_x2 hbr (by omega) hA1 (by omega) (by omega), show (0 ≤ (u28 11 4).toInt) from by first | omega | exact bk_f2 hbr (by omega) (or_r hA (by omega)).1 | exact (or_r hA (by omega)).2 | exact bk_cf2 hbr (by omega) hA1 (by omega) (by omega) (or_r hB (by omega)).1 | exact (or_r hB (by omega)).2 | exact bk_cx2 hbr (by omega) hA1 (by omega) (by omega) hB1 (by omega) | exact bk_x2 hbr (by omega) hA1 (by omega) (by omega)⟩)) dX10_parseBracket_79
          · have c29 : r28.toInt = 0 := teq rfl kp0 c29
            refine lv_iconst (v := 0) hx hb dX10_parseBracket_61 (by decide) ?_
            have hWr : WB g A s.heap H locs ((hv J [44] [(11, 3), (11, 4)] (hv (up2 (hv (up2 J 11 4 x1) [44] [(11, 3), (11, 4)] u2) 11 4 x27) [44] [(11, 3), (11, 4)] u28)), L, I, P, E, N) (sgX g ++ dy) := by
              rw [← ag_hvE (J := J) (R := [44]) (F := [(11, 3), (11, 4)]) (ag_hv rfl rfl (ag_up (Or.inr rfl) (ag_hv rfl rfl (ag_up (Or.inr rfl) ag_rf))))]
              exact hW
            exact end_z C hr hlocks (by decide) (hv (up2 (hv (up2 J 11 4 x1) [44] [(11, 3), (11, 4)] u2) 11 4 x27) [44] [(11, 3), (11, 4)] u28) hWr (by first | exact Or.inr (⟨by decide, show (PF (NX (J 43) (J 11 2)) 4 ((d : Nat) + 1) (J 11 4).toInt.toNat (u28 11 4).toInt.toNat) from by first | omega | exact bk_f2 hbr (by omega) (or_r hA (by omega)).1 | exact (or_r hA (by omega)).2 | exact bk_cf2 hbr (by omega) hA1 (by omega) (by omega) (or_r hB (by omega)).1 | exact (or_r hB (by omega)).2 | exact bk_cx2 hbr (by omega) hA1 (by omega) (by omega) hB1 (by omega) | exact bk_x2 hbr (by omega) hA1 (by omega) (by omega), show (0 ≤ (u28 11 4).toInt) from by first | omega | exact bk_f2 hbr (by omega) (or_r hA (by omega)).1 | exact (or_r hA (by omega)).2 | exact bk_cf2 hbr (by omega) hA1 (by omega) (by omega) (or_r hB (by omega)).1 | exact (or_r hB (by omega)).2 | exact bk_cx2 hbr (by omega) hA1 (by omega) (by omega) hB1 (by omega) | exact bk_x2 hbr (by omega) hA1 (by omega) (by omega)⟩)) dX10_parseBracket_62
  · have c3 : r2.toInt = 0 := teq rfl kp0 c3
    refine lv_iconst (v := 0) hx hb dX10_parseBracket_18 (by decide) ?_
    have hWr : WB g A s.heap H locs ((hv J [44] [(11, 3), (11, 4)] (hv (up2 J 11 4 x1) [44] [(11, 3), (11, 4)] u2)), L, I, P, E, N) (sgX g ++ dy) := by
      rw [← ag_hvE (J := J) (R := [44]) (F := [(11, 3), (11, 4)]) (ag_hv rfl rfl (ag_up (Or.inr rfl) ag_rf))]
      exact hW
    exact end_z C hr hlocks (by decide) (hv (up2 J 11 4 x1) [44] [(11, 3), (11, 4)] u2) hWr (by first | exact Or.inr (⟨by decide, show (PF (NX (J 43) (J 11 2)) 4 ((d : Nat) + 1) (J 11 4).toInt.toNat (u2 11 4).toInt.toNat) from by first | omega | exact bk_f2 hbr (by omega) (or_r hA (by omega)).1 | exact (or_r hA (by omega)).2 | exact bk_cf2 hbr (by omega) hA1 (by omega) (by omega) (or_r hB (by omega)).1 | exact (or_r hB (by omega)).2 | exact bk_cx2 hbr (by omega) hA1 (by omega) (by omega) hB1 (by omega) | exact bk_x2 hbr (by omega) hA1 (by omega) (by omega), show (0 ≤ (u2 11 4).toInt) from by first | omega | exact bk_f2 hbr (by omega) (or_r hA (by omega)).1 | exact (or_r hA (by omega)).2 | exact bk_cf2 hbr (by omega) hA1 (by omega) (by omega) (or_r hB (by omega)).1 | exact (or_r hB (by omega)).2 | exact bk_cx2 hbr (by omega) hA1 (by omega) (by omega) hB1 (by omega) | exact bk_x2 hbr (by omega) hA1 (by omega) (by omega)⟩)) dX10_parseBracket_19

theorem px_all_e : ∀ d : Nat, PSUM_e d := by
  intro d
  induction d with
  | zero => exact c_X10_parseSum_e 0 (c_X10_parseProduct_e 0 (c_X10_parseUnit_e 0 (fun k h => absurd h (by omega))))
  | succ d ih => exact c_X10_parseSum_e (d + 1) (c_X10_parseProduct_e (d + 1) (c_X10_parseUnit_e (d + 1) (fun k h => by cases h; exact c_X10_parseBracket_e d ih)))
set_option maxHeartbeats 4000000 in
set_option maxRecDepth 100000 in
theorem c_X10_parse_e (l : Launch) (g : gG) (J : Nat → Nat → Int32) (L : Nat → Nat → Int64) (I : Nat → Nat → Nat → Int32) (P : Nat → Nat → Nat → Option Nat) (E : Nat → Option Nat) (N : Nat → Nat) (dy : List (Nat × Nat)) (sz : Nat)  (hlen : 0 ≤ (J 11 2).toInt ∧ (J 11 2).toInt ≤ 60) : Met l yX10_parse (WS yX10_parse cX10_parse 1 (some .boolean)) (RM (27) 0 0) (PC g [.ref (g.2.2.1 11)] ((J, L, I, P, E, N), sgX g ++ dy) sz) (va_Qi (fun (r : Int32) (u : (Nat → Nat → Int32)) => ((r.toInt = 1 ∧ (PT (NX (J 43) (J 11 2)) 0 5 0 (u 11 4).toInt.toNat (cs (u 44) 0 (u 11 3).toInt.toNat)) ∧ ((J 11 2).toInt ≤ (u 11 4).toInt ∧ 0 ≤ (u 11 3).toInt ∧ (u 11 3).toInt ≤ 60)) ∨ (r.toInt = 0 ∧ ((PF (NX (J 43) (J 11 2)) 0 5 0 (u 11 4).toInt.toNat) ∨ ((∃ c, PT (NX (J 43) (J 11 2)) 0 5 0 (u 11 4).toInt.toNat c) ∧ (u 11 4).toInt < (J 11 2).toInt)) ∧ (0 ≤ (u 11 4).toInt)))) (fun u t => at_ g (FR g ((J, L, I, P, E, N), sgX g ++ dy) sz) (((hv J [44] [(11, 3), (11, 4)] u), L, I, P, E, N), sgX g ++ dy) t) (FR g ((J, L, I, P, E, N), sgX g ++ dy) sz)) 0 0 (FR g ((J, L, I, P, E, N), sgX g ++ dy) sz) := by
  refine ent (by decide +kernel) (Nat.le_of_ble_eq_true rfl) ?_
  intro p e s m below meth c ls hsz C hW hr hlocks hname hl
  generalize FR g ((J, L, I, P, E, N), sgX g ++ dy) sz = A at C hW ⊢
  have hx := C.1.1
  have hb := C.1.2.1
  have hts := C.1.2.2.2.2
  have hl : lv_has ls 1 [(0, .ref (g.2.2.1 11))] := hl
  obtain ⟨H, hH⟩ : ∃ H : Heap, H = s.heap := ⟨_, rfl⟩
  obtain ⟨locs, hlocs⟩ : ∃ q : List Loc, q = [] := ⟨_, rfl⟩
  have hW : WB g A s.heap H locs (J, L, I, P, E, N) (sgX g ++ dy) := by rw [hH, hlocs]; exact hW
  refine start_ hH hlocs ?_
  refine lv_aload_n hx hb dX10_parse_0 rfl (lv_at hl 0 rfl) ?_
  refine lv_iconst (v := 0) hx hb dX10_parse_1 (by decide) ?_
  refine rp_11_4 C hW (mx_ rfl) tw_305 dX10_parse_2 (fun H locs hW => ?_)
  refine lv_aload_n hx hb dX10_parse_5 rfl (lv_at hl 0 rfl) ?_
  refine lv_iconst (v := 0) hx hb dX10_parse_6 (by decide) ?_
  refine rp_11_3 C hW (mx_ rfl) tw_304 dX10_parse_7 (fun H locs hW => ?_)
  refine lv_aload_n hx hb dX10_parse_10 rfl (lv_at hl 0 rfl) ?_
  refine lv_iconst (v := 0) hx hb dX10_parse_11 (by decide) ?_
  refine ci_ C hW (runV (x := (g.2.2.1 11)) (As := [.int 0]) (rest := []) (T := (((up2 (up2 J 11 4 0) 11 3 0), L, I, P, E, N), sgX g ++ dy)) C hW ((px_all_e 5) l g (up2 (up2 J 11 4 0) 11 3 0) L I P E N dy H.size 0 (show 0 ≤ ((0 : Int32)).toInt ∧ ((0 : Int32)).toInt ≤ (J 11 2).toInt ∧ (J 11 2).toInt ≤ 60 from by (try simp only [kp0]); omega) (show 0 ≤ ((0 : Int32)).toInt ∧ ((0 : Int32)).toInt ≤ ((0 : Int32)).toInt from by (try simp only [kp0]); omega) (show (0 : Int32).toInt = 5 - ((5 : Nat) : Int) from by (try simp only [kp0]); omega) (show ((5 : Nat) : Int) ≤ 5 from by (try simp only [kp0]); omega)) mi_X10_parseSum tw_744 (recv_ (T := (((up2 (up2 J 11 4 0) 11 3 0), L, I, P, E, N), sgX g ++ dy)) C hW (mx_ rfl) rfl rfl) ⟨rfl, rfl, Nat.le_of_ble_eq_true rfl, Nat.le_of_ble_eq_true rfl⟩ rfl hl.1 rfl (Nat.le_of_ble_eq_true rfl) dX10_parse_12 ⟨Nat.le_of_ble_eq_true rfl, Nat.le_of_ble_eq_true rfl⟩) (fun r1 u1 H locs hp1 hW => ?_)
  have hc1 : ((r1.toInt = 1 ∧ (PT (NX (J 43) (J 11 2)) 0 ((5 : Nat) : Nat) ((0 : Int32)).toInt.toNat (u1 11 4).toInt.toNat (cs (u1 44) ((0 : Int32)).toInt.toNat (u1 11 3).toInt.toNat)) ∧ (∀ i : Nat, i < ((0 : Int32)).toInt.toNat → u1 44 i = J 44 i) ∧ (((0 : Int32)).toInt + 1 ≤ (u1 11 4).toInt ∧ (u1 11 4).toInt ≤ (J 11 2).toInt ∧ ((0 : Int32)).toInt ≤ (u1 11 3).toInt ∧ (u1 11 3).toInt - ((0 : Int32)).toInt ≤ (u1 11 4).toInt - ((0 : Int32)).toInt)) ∨ (r1.toInt = 0 ∧ (PF (NX (J 43) (J 11 2)) 0 ((5 : Nat) : Nat) ((0 : Int32)).toInt.toNat (u1 11 4).toInt.toNat) ∧ (0 ≤ (u1 11 4).toInt))) := hp1
  clear hp1
  have hW : WB g A s.heap H locs ((hv (up2 (up2 J 11 4 0) 11 3 0) [44] [(11, 3), (11, 4)] u1), L, I, P, E, N) (sgX g ++ dy) := hW
  have hA := hc1
  simp only [kp0] at hA
  refine lv_if_eq (tgt := 33) hx hb dX10_parse_15 (by decide) (fun c2 => ?_) (fun c2 => ?_)
  · have c2 : r1.toInt = 0 := teq rfl kp0 c2
    refine lv_iconst (v := 0) hx hb dX10_parse_33 (by decide) ?_
    have hWr : WB g A s.heap H locs ((hv J [44] [(11, 3), (11, 4)] (hv (up2 (up2 J 11 4 0) 11 3 0) [44] [(11, 3), (11, 4)] u1)), L, I, P, E, N) (sgX g ++ dy) := by
      rw [← ag_hvE (J := J) (R := [44]) (F := [(11, 3), (11, 4)]) (ag_hv rfl rfl (ag_up (Or.inr rfl) (ag_up (Or.inr rfl) ag_rf)))]
      exact hW
    exact end_z C hr hlocks (by decide) (hv (up2 (up2 J 11 4 0) 11 3 0) [44] [(11, 3), (11, 4)] u1) hWr (by first | exact Or.inr (⟨by decide, show ((PF (NX (J 43) (J 11 2)) 0 5 0 (u1 11 4).toInt.toNat) ∨ ((∃ c, PT (NX (J 43) (J 11 2)) 0 5 0 (u1 11 4).toInt.toNat c) ∧ (u1 11 4).toInt < (J 11 2).toInt)) from by first | omega | exact Or.inl (or_r hA (by omega)).1 | exact (or_r hA (by omega)).2 | exact Or.inr ⟨⟨_, hA1⟩, by omega⟩, show (0 ≤ (u1 11 4).toInt) from by first | omega | exact Or.inl (or_r hA (by omega)).1 | exact (or_r hA (by omega)).2 | exact Or.inr ⟨⟨_, hA1⟩, by omega⟩⟩)) dX10_parse_34
  · have c2 : ¬ r1.toInt = 0 := tne rfl kp0 c2
    obtain ⟨hA1, hA2, hA3⟩ := or_l hA (by omega)
    refine lv_aload_n hx hb dX10_parse_18 rfl (lv_at hl 0 rfl) ?_
    refine rg_11_4 C hW (mx_ rfl) tw_305 dX10_parse_19 ?_
    refine lv_as (u1 11 4) rfl ?_
    refine lv_aload_n hx hb dX10_parse_22 rfl (lv_at hl 0 rfl) ?_
    refine rg_11_2 C hW (mx_ rfl) tw_302 dX10_parse_23 ?_
    refine lv_as (J 11 2) rfl ?_
    refine lv_icmp_lt (tgt := 33) hx hb dX10_parse_26 (by decide) (fun c3 => ?_) (fun c3 => ?_)
    · have c3 : (u1 11 4).toInt < (J 11 2).toInt := tlt rfl rfl c3
      refine lv_iconst (v := 0) hx hb dX10_parse_33 (by decide) ?_
      have hWr : WB g A s.heap H locs ((hv J [44] [(11, 3), (11, 4)] (hv (up2 (up2 J 11 4 0) 11 3 0) [44] [(11, 3), (11, 4)] u1)), L, I, P, E, N) (sgX g ++ dy) := by
        rw [← ag_hvE (J := J) (R := [44]) (F := [(11, 3), (11, 4)]) (ag_hv rfl rfl (ag_up (Or.inr rfl) (ag_up (Or.inr rfl) ag_rf)))]
        exact hW
      exact end_z C hr hlocks (by decide) (hv (up2 (up2 J 11 4 0) 11 3 0) [44] [(11, 3), (11, 4)] u1) hWr (by first | exact Or.inr (⟨by decide, show ((PF (NX (J 43) (J 11 2)) 0 5 0 (u1 11 4).toInt.toNat) ∨ ((∃ c, PT (NX (J 43) (J 11 2)) 0 5 0 (u1 11 4).toInt.toNat c) ∧ (u1 11 4).toInt < (J 11 2).toInt)) from by first | omega | exact Or.inl (or_r hA (by omega)).1 | exact (or_r hA (by omega)).2 | exact Or.inr ⟨⟨_, hA1⟩, by omega⟩, show (0 ≤ (u1 11 4).toInt) from by first | omega | exact Or.inl (or_r hA (by omega)).1 | exact (or_r hA (by omega)).2 | exact Or.inr ⟨⟨_, hA1⟩, by omega⟩⟩)) dX10_parse_34
    · have c3 : (J 11 2).toInt ≤ (u1 11 4).toInt := tnlt rfl rfl c3
      refine lv_iconst (v := 1) hx hb dX10_parse_29 (by decide) ?_
      refine lv_goto (tgt := 34) hx hb dX10_parse_30 (by decide) ?_
      have hWr : WB g A s.heap H locs ((hv J [44] [(11, 3), (11, 4)] (hv (up2 (up2 J 11 4 0) 11 3 0) [44] [(11, 3), (11, 4)] u1)), L, I, P, E, N) (sgX g ++ dy) := by
        rw [← ag_hvE (J := J) (R := [44]) (F := [(11, 3), (11, 4)]) (ag_hv rfl rfl (ag_up (Or.inr rfl) (ag_up (Or.inr rfl) ag_rf)))]
        exact hW
      exact end_z C hr hlocks (by decide) (hv (up2 (up2 J 11 4 0) 11 3 0) [44] [(11, 3), (11, 4)] u1) hWr (by first | exact Or.inl ⟨by decide, show (PT (NX (J 43) (J 11 2)) 0 5 0 (u1 11 4).toInt.toNat (cs (u1 44) 0 (u1 11 3).toInt.toNat)) from by first | omega | exact hA1, show ((J 11 2).toInt ≤ (u1 11 4).toInt ∧ 0 ≤ (u1 11 3).toInt ∧ (u1 11 3).toInt ≤ 60) from by first | omega | exact hA1⟩) dX10_parse_34
