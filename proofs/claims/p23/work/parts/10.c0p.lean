section NETG
variable {p p' : Nat → Option Nat} {el el' el2 el2' : Nat → Nat} {on on' cn cf ct cn' cf' ct' f t f' t' e s m e' s' m' hn ea su ma hn' ea' su' ma' : Nat → Int32} {n n' nc nc' nh nh' i : Int} {k o b a : Nat} {G : Nat → Nat → Int32} {I I' : Nat → Nat → Nat → Int32} {E E' : Nat → Option Nat} {P P' : Nat → Nat → Nat → Option Nat} {dy : List (Nat × Nat)}
theorem nt_none (h : NTR p el on n) (ho : o = el k) (hk : (k : Int) < n) (hb : p o = none) : k = 0 := by
  subst ho
  rcases Nat.eq_zero_or_pos k with q | q
  · exact q
  · rw [((h k hk).2 q).1] at hb; cases hb
theorem nt_some (h : NTR p el on n) (ho : o = el k) (hk : (k : Int) < n) (hb : p o = some b) : 1 ≤ k := by
  subst ho
  rcases Nat.eq_zero_or_pos k with q | q
  · rw [(h k hk).1 q] at hb; cases hb
  · exact q
theorem ntr_keep (h : NTR p el on n) (hn : n' = n) (he : ∀ k : Nat, el' k = el k) (hp : ∀ a : Nat, p' a = p a) (e : on' = on) : NTR p' el' on' n' := by
  subst hn e
  intro k hk
  rw [he k, hp, he]; exact h k hk
theorem ntr_new {w v : Int32} (h : NTR p el (G 101) n) (hN : ∀ k : Nat, (k : Int) < n → el' k = el k) (h1 : ∀ j : Nat, (j : Int) = n → p' (el' j) = some (el v.toNatClampNeg)) (h2 : ∀ a : Nat, (6, a) ∈ dy → p' a = p a) (hd : ∀ k : Nat, (k : Int) < n → (6, el k) ∈ dy) (hn : n' = n + 1) (hw : n = w.toInt) (hv : 0 ≤ v.toInt ∧ v.toInt < n) (e : on' = up2 G 101 w.toNatClampNeg v 101) : NTR p' el' on' n' := by
  subst hn e
  have h8 := tcl w
  have h9 := tcl v
  intro k hk
  by_cases q : (k : Int) < n
  · obtain ⟨a1, a2⟩ := h k q
    rw [hN k q, h2 _ (hd k q), up2_f _ _ _ (by omega)]
    refine ⟨a1, fun z => ?_⟩
    obtain ⟨b1, b2, b3⟩ := a2 z
    have h7 := tcl (G 101 k)
    rw [hN _ (by omega)]; exact ⟨b1, b2, b3⟩
  · have ek : k = w.toNatClampNeg := by omega
    refine ⟨fun z => by omega, fun _ => ?_⟩
    have e1 := h1 k (by omega)
    rw [← ek, up2_s, hN v.toNatClampNeg (by omega)]
    exact ⟨e1, hv.1, by omega⟩
theorem fld_app {l ro ff R : Nat} {w v : Int32} {J2' : Nat → Int32} (h : FLD I E P (G R) l ro ff n) (hN : NOBJ I I' E E' P P' l ro n dy) (hF : ∀ j : Nat, (j : Int) = n → I' ro ff (elt E' P' l j) = v) (hd : ∀ k : Nat, (k : Int) < n → (ro, elt E P l k) ∈ dy) (hn : n' = n + 1) (hw : n = w.toInt) (h0 : 0 ≤ n) (e : J2' = up2 G R w.toNatClampNeg v R) : FLD I' E' P' J2' l ro ff n' := by
  subst hn e
  have h8 := tcl w
  intro k hk
  by_cases q : (k : Int) < n
  · rw [hN.1 k q, hN.2.1 _ (hd k q) ff, up2_f _ _ _ (by omega)]; exact h k q
  · have ek : k = w.toNatClampNeg := by omega
    rw [hF k (by omega), ← ek, up2_s]
theorem exz_keep (h : ∀ k : Nat, (k : Int) < n → (I 6 5 (elt E P 20 k)).toInt = 0) (hn : n' = n) (he : ∀ k : Nat, elt E' P' 20 k = elt E P 20 k) (hI : I' 6 = I 6) : ∀ k : Nat, (k : Int) < n' → (I' 6 5 (elt E' P' 20 k)).toInt = 0 := fun k hk => by
  subst hn
  rw [he k, hI]; exact h k hk
theorem exz_new (h : ∀ k : Nat, (k : Int) < n → (I 6 5 (elt E P 20 k)).toInt = 0) (hN : NOBJ I I' E E' P P' 20 6 n dy) (hF : ∀ j : Nat, (j : Int) = n → I' 6 5 (elt E' P' 20 j) = 0) (hd : ∀ k : Nat, (k : Int) < n → (6, elt E P 20 k) ∈ dy) (hn : n' = n + 1) : ∀ k : Nat, (k : Int) < n' → (I' 6 5 (elt E' P' 20 k)).toInt = 0 := fun k hk => by
  subst hn
  by_cases q : (k : Int) < n
  · rw [hN.1 k q, hN.2.1 _ (hd k q) 5]; exact h k q
  · rw [hF k (by omega)]; decide
theorem cur_el (h : CUR p f t el2 el cn cf ct nc n) (he : ∀ k : Nat, (k : Int) < n → el' k = el k) (hn : n ≤ n') : CUR p f t el2 el' cn cf ct nc n' := fun j hj => by
  obtain ⟨h1, h2, h3, h4⟩ := h j hj
  have h8 := tcl (cn j)
  rw [he _ (by omega)]; exact ⟨h1, h2, by omega, h4⟩
theorem cur_keep (h : CUR p f t el2 el cn cf ct nc n) (hn : nc' = nc) (he2 : ∀ k : Nat, el2' k = el2 k) (he : ∀ k : Nat, el' k = el k) (h1 : f' = f) (h2 : t' = t) (hp : ∀ a : Nat, p' a = p a) (e1 : cn' = cn) (e2 : cf' = cf) (e3 : ct' = ct) : CUR p' f' t' el2' el' cn' cf' ct' nc' n := by
  subst hn h1 h2 e1 e2 e3
  intro j hj
  rw [he2 j, hp, he]; exact h j hj
theorem cur_new {w v x y : Int32} (h : CUR (P 1 0) (I 1 1) (I 1 2) (elt E P 21) el (G 105) (G 106) (G 107) nc n) (he : ∀ k : Nat, el' k = el k) (hN : NOBJ I I' E E' P P' 21 1 nc dy) (hF : ∀ j : Nat, (j : Int) = nc → I' 1 1 (elt E' P' 21 j) = x ∧ I' 1 2 (elt E' P' 21 j) = y) (h1 : ∀ j : Nat, (j : Int) = nc → P' 1 0 (elt E' P' 21 j) = some (el v.toNatClampNeg)) (h2 : ∀ a : Nat, (1, a) ∈ dy → P' 1 0 a = P 1 0 a) (hd : ∀ k : Nat, (k : Int) < nc → (1, elt E P 21 k) ∈ dy) (hn : nc' = nc + 1) (hw : nc = w.toInt) (h0 : 0 ≤ nc) (hv : 0 ≤ v.toInt ∧ v.toInt < n) (hx : 0 ≤ x.toInt) (e1 : cn' = up2 G 105 w.toNatClampNeg v 105) (e2 : cf' = up2 G 106 w.toNatClampNeg x 106) (e3 : ct' = up2 G 107 w.toNatClampNeg y 107) : CUR (P' 1 0) (I' 1 1) (I' 1 2) (elt E' P' 21) el' cn' cf' ct' nc' n := by
  subst hn e1 e2 e3
  have h8 := tcl w
  intro j hj
  by_cases q : (j : Int) < nc
  · rw [hN.1 j q, h2 _ (hd j q), hN.2.1 _ (hd j q) 1, hN.2.1 _ (hd j q) 2, up2_f _ _ _ (by omega), up2_f _ _ _ (by omega), up2_f _ _ _ (by omega), he]; exact h j q
  · have ek : j = w.toNatClampNeg := by omega
    obtain ⟨f1, f2⟩ := hF j (by omega)
    rw [h1 j (by omega), f1, f2, ← ek, up2_s, up2_s, up2_s, he]
    exact ⟨rfl, hv.1, hv.2, rfl, rfl, hx⟩
theorem hmr_el (h : HMR p e s m el2 el hn ea su ma nh n) (he : ∀ k : Nat, (k : Int) < n → el' k = el k) (hn' : n ≤ n') : HMR p e s m el2 el' hn ea su ma nh n' := fun j hj => by
  obtain ⟨h1, h2, h3, h4⟩ := h j hj
  have h8 := tcl (hn j)
  rw [he _ (by omega)]; exact ⟨h1, h2, by omega, h4⟩
theorem hmr_keep (h : HMR p e s m el2 el hn ea su ma nh n) (hnn : nh' = nh) (he2 : ∀ k : Nat, el2' k = el2 k) (he : ∀ k : Nat, el' k = el k) (h1 : e' = e) (h2 : s' = s) (h3 : m' = m) (hp : ∀ a : Nat, p' a = p a) (e1 : hn' = hn) (e2 : ea' = ea) (e3 : su' = su) (e4 : ma' = ma) : HMR p' e' s' m' el2' el' hn' ea' su' ma' nh' n := by
  subst hnn h1 h2 h3 e1 e2 e3 e4
  intro j hj
  rw [he2 j, hp, he]; exact h j hj
theorem hmr_new {w v x y z : Int32} (h : HMR (P 2 0) (I 2 1) (I 2 2) (I 2 3) (elt E P 22) el (G 108) (G 109) (G 110) (G 111) nh n) (he : ∀ k : Nat, el' k = el k) (hN : NOBJ I I' E E' P P' 22 2 nh dy) (hF : ∀ j : Nat, (j : Int) = nh → I' 2 1 (elt E' P' 22 j) = x ∧ I' 2 2 (elt E' P' 22 j) = y ∧ I' 2 3 (elt E' P' 22 j) = z) (h1 : ∀ j : Nat, (j : Int) = nh → P' 2 0 (elt E' P' 22 j) = some (el v.toNatClampNeg)) (h2 : ∀ a : Nat, (2, a) ∈ dy → P' 2 0 a = P 2 0 a) (hd : ∀ k : Nat, (k : Int) < nh → (2, elt E P 22 k) ∈ dy) (hnn : nh' = nh + 1) (hw : nh = w.toInt) (h0 : 0 ≤ nh) (hv : 0 ≤ v.toInt ∧ v.toInt < n) (hx : 1 ≤ x.toInt ∧ x.toInt ≤ 9) (e1 : hn' = up2 G 108 w.toNatClampNeg v 108) (e2 : ea' = up2 G 109 w.toNatClampNeg x 109) (e3 : su' = up2 G 110 w.toNatClampNeg y 110) (e4 : ma' = up2 G 111 w.toNatClampNeg z 111) : HMR (P' 2 0) (I' 2 1) (I' 2 2) (I' 2 3) (elt E' P' 22) el' hn' ea' su' ma' nh' n := by
  subst hnn e1 e2 e3 e4
  have h8 := tcl w
  intro j hj
  by_cases q : (j : Int) < nh
  · rw [hN.1 j q, h2 _ (hd j q), hN.2.1 _ (hd j q) 1, hN.2.1 _ (hd j q) 2, hN.2.1 _ (hd j q) 3, up2_f _ _ _ (by omega), up2_f _ _ _ (by omega), up2_f _ _ _ (by omega), up2_f _ _ _ (by omega), he]; exact h j q
  · have ek : j = w.toNatClampNeg := by omega
    obtain ⟨f1, f2, f3⟩ := hF j (by omega)
    rw [h1 j (by omega), f1, f2, f3, ← ek, up2_s, up2_s, up2_s, up2_s, he]
    exact ⟨rfl, hv.1, hv.2, rfl, rfl, rfl, hx.1, hx.2⟩
theorem lb_e {a b : Int32} (h : b = a) (h2 : 1 ≤ a.toInt ∧ a.toInt ≤ 99) : 1 ≤ b.toInt ∧ b.toInt ≤ 99 := by subst h; exact h2
theorem z_i {x : Int32} (h : x.toInt = 0) : x = 0 := ext_i (h.trans (by decide))
end NETG
theorem sh0 {a s x y : Int32} (ha : a.toInt = 0) (ex : x = a >>> s) (ey : y = x &&& 1) : y.toInt = 0 := by
  have e : a = 0 := ext_i (ha.trans (by decide))
  subst ex ey e
  have h1 : (0 : Int32) >>> s = 0 := Int32.toBitVec_inj.mp (by
    show (0#32).sshiftRight' (s.toBitVec.smod 32#32) = 0#32
    simp)
  rw [h1]; decide
set_option maxHeartbeats 4000000 in
set_option maxRecDepth 100000 in
theorem c_X11_home_p_p (l : Launch) (g : gG) (J : Nat → Nat → Int32) (L : Nat → Nat → Int64) (I : Nat → Nat → Nat → Int32) (P : Nat → Nat → Nat → Option Nat) (E : Nat → Option Nat) (N : Nat → Nat) (dy : List (Nat × Nat)) (sz : Nat) (a0 : Int32) (a1 : Int32) (a2 : Int32) (a3 : Int32) (hwf : WXF g J P E N dy) : Met l yX11_home (WS yX11_home cX11_home 7 (some .int)) (RM (8) 10 20100) (PC g [.ref (g.2.2.1 12), .int a0, .int a1, .int a2, .int a3] ((J, L, I, P, E, N), sgX g ++ dy) sz) (va_Qi (fun (r : Int32) (u : (Nat → Nat → Int32) × (Nat → Nat → Nat → Int32) × (Nat → Nat → Nat → Option Nat) × (Nat → Option Nat) × (Nat → Nat) × List (Nat × Nat)) => ((r.toInt = (-1) ∧ (¬ (0 ≤ a0.toInt ∧ a0.toInt < (J 20 2).toInt)) ∧ u.1 22 2 = J 22 2 ∧ (∀ k : Nat, elt (hv1 E [22] u.2.2.2.1) (hv P [2, 32] [] u.2.2.1) 22 k = elt E P 22 k) ∧ u.2.1 2 = I 2 ∧ (∀ a : Nat, (hv P [2, 32] [] u.2.2.1) 2 0 a = P 2 0 a)) ∨ (r.toInt = (-4) ∧ (0 ≤ a0.toInt ∧ a0.toInt < (J 20 2).toInt ∧ (a1.toInt < 1 ∨ a2.toInt < 0 ∨ a3.toInt < 0)) ∧ u.1 22 2 = J 22 2 ∧ (∀ k : Nat, elt (hv1 E [22] u.2.2.2.1) (hv P [2, 32] [] u.2.2.1) 22 k = elt E P 22 k) ∧ u.2.1 2 = I 2 ∧ (∀ a : Nat, (hv P [2, 32] [] u.2.2.1) 2 0 a = P 2 0 a)) ∨ (r.toInt = (-6) ∧ (0 ≤ a0.toInt ∧ a0.toInt < (J 20 2).toInt ∧ 1 ≤ a1.toInt ∧ 0 ≤ a2.toInt ∧ 0 ≤ a3.toInt ∧ (9 < a1.toInt ∨ 16777215 < a2.toInt ∨ 16777215 < a3.toInt ∨ 40 ≤ (J 22 2).toInt)) ∧ u.1 22 2 = J 22 2 ∧ (∀ k : Nat, elt (hv1 E [22] u.2.2.2.1) (hv P [2, 32] [] u.2.2.1) 22 k = elt E P 22 k) ∧ u.2.1 2 = I 2 ∧ (∀ a : Nat, (hv P [2, 32] [] u.2.2.1) 2 0 a = P 2 0 a)) ∨ (r.toInt = (J 22 2).toInt ∧ (0 ≤ a0.toInt ∧ a0.toInt < (J 20 2).toInt ∧ 1 ≤ a1.toInt ∧ 0 ≤ a2.toInt ∧ 0 ≤ a3.toInt ∧ a1.toInt ≤ 9 ∧ a2.toInt ≤ 16777215 ∧ a3.toInt ≤ 16777215 ∧ (J 22 2).toInt ≤ 39) ∧ (u.1 22 2).toInt = (J 22 2).toInt + 1 ∧ NOBJ I u.2.1 E (hv1 E [22] u.2.2.2.1) P (hv P [2, 32] [] u.2.2.1) 22 2 (J 22 2).toInt dy ∧ (∀ j : Nat, (j : Int) = (J 22 2).toInt → u.2.1 2 1 (elt (hv1 E [22] u.2.2.2.1) (hv P [2, 32] [] u.2.2.1) 22 j) = a1 ∧ u.2.1 2 2 (elt (hv1 E [22] u.2.2.2.1) (hv P [2, 32] [] u.2.2.1) 22 j) = a2 ∧ u.2.1 2 3 (elt (hv1 E [22] u.2.2.2.1) (hv P [2, 32] [] u.2.2.1) 22 j) = a3 ∧ u.2.1 2 4 (elt (hv1 E [22] u.2.2.2.1) (hv P [2, 32] [] u.2.2.1) 22 j) = 0) ∧ (∀ j9 : Nat, (j9 : Int) = (J 22 2).toInt → (hv P [2, 32] [] u.2.2.1) 2 0 (elt (hv1 E [22] u.2.2.2.1) (hv P [2, 32] [] u.2.2.1) 22 j9) = some (elt E P 20 a0.toNatClampNeg)) ∧ (∀ a9 : Nat, (2, a9) ∈ dy → (hv P [2, 32] [] u.2.2.1) 2 0 a9 = P 2 0 a9))) ∧ WXF g (hv J [42] [(22, 0), (22, 2)] u.1) (hv P [2, 32] [] u.2.2.1) (hv1 E [22] u.2.2.2.1) u.2.2.2.2.1 u.2.2.2.2.2 ∧ (∀ x ∈ dy, x ∈ u.2.2.2.2.2) ∧ (∀ x ∈ dy, u.2.2.2.2.1 x.2 = N x.2)) (fun u t => at_ g (FR g ((J, L, I, P, E, N), sgX g ++ dy) sz) ((((hv J [42] [(22, 0), (22, 2)] u.1), L, (hv I [2] [] u.2.1), (hv P [2, 32] [] u.2.2.1), (hv1 E [22] u.2.2.2.1), u.2.2.2.2.1), sgX g ++ u.2.2.2.2.2)) t) (FR g ((J, L, I, P, E, N), sgX g ++ dy) sz)) 10 20100 (FR g ((J, L, I, P, E, N), sgX g ++ dy) sz) := by
  refine ent (by decide +kernel) (Nat.le_of_ble_eq_true rfl) ?_
  intro p e s m below meth c ls hsz C hW hr hlocks hname hl
  generalize FR g ((J, L, I, P, E, N), sgX g ++ dy) sz = A at C hW ⊢
  generalize hQ9 : (va_Qi (fun (r : Int32) (u : (Nat → Nat → Int32) × (Nat → Nat → Nat → Int32) × (Nat → Nat → Nat → Option Nat) × (Nat → Option Nat) × (Nat → Nat) × List (Nat × Nat)) => ((r.toInt = (-1) ∧ (¬ (0 ≤ a0.toInt ∧ a0.toInt < (J 20 2).toInt)) ∧ u.1 22 2 = J 22 2 ∧ (∀ k : Nat, elt (hv1 E [22] u.2.2.2.1) (hv P [2, 32] [] u.2.2.1) 22 k = elt E P 22 k) ∧ u.2.1 2 = I 2 ∧ (∀ a : Nat, (hv P [2, 32] [] u.2.2.1) 2 0 a = P 2 0 a)) ∨ (r.toInt = (-4) ∧ (0 ≤ a0.toInt ∧ a0.toInt < (J 20 2).toInt ∧ (a1.toInt < 1 ∨ a2.toInt < 0 ∨ a3.toInt < 0)) ∧ u.1 22 2 = J 22 2 ∧ (∀ k : Nat, elt (hv1 E [22] u.2.2.2.1) (hv P [2, 32] [] u.2.2.1) 22 k = elt E P 22 k) ∧ u.2.1 2 = I 2 ∧ (∀ a : Nat, (hv P [2, 32] [] u.2.2.1) 2 0 a = P 2 0 a)) ∨ (r.toInt = (-6) ∧ (0 ≤ a0.toInt ∧ a0.toInt < (J 20 2).toInt ∧ 1 ≤ a1.toInt ∧ 0 ≤ a2.toInt ∧ 0 ≤ a3.toInt ∧ (9 < a1.toInt ∨ 16777215 < a2.toInt ∨ 16777215 < a3.toInt ∨ 40 ≤ (J 22 2).toInt)) ∧ u.1 22 2 = J 22 2 ∧ (∀ k : Nat, elt (hv1 E [22] u.2.2.2.1) (hv P [2, 32] [] u.2.2.1) 22 k = elt E P 22 k) ∧ u.2.1 2 = I 2 ∧ (∀ a : Nat, (hv P [2, 32] [] u.2.2.1) 2 0 a = P 2 0 a)) ∨ (r.toInt = (J 22 2).toInt ∧ (0 ≤ a0.toInt ∧ a0.toInt < (J 20 2).toInt ∧ 1 ≤ a1.toInt ∧ 0 ≤ a2.toInt ∧ 0 ≤ a3.toInt ∧ a1.toInt ≤ 9 ∧ a2.toInt ≤ 16777215 ∧ a3.toInt ≤ 16777215 ∧ (J 22 2).toInt ≤ 39) ∧ (u.1 22 2).toInt = (J 22 2).toInt + 1 ∧ NOBJ I u.2.1 E (hv1 E [22] u.2.2.2.1) P (hv P [2, 32] [] u.2.2.1) 22 2 (J 22 2).toInt dy ∧ (∀ j : Nat, (j : Int) = (J 22 2).toInt → u.2.1 2 1 (elt (hv1 E [22] u.2.2.2.1) (hv P [2, 32] [] u.2.2.1) 22 j) = a1 ∧ u.2.1 2 2 (elt (hv1 E [22] u.2.2.2.1) (hv P [2, 32] [] u.2.2.1) 22 j) = a2 ∧ u.2.1 2 3 (elt (hv1 E [22] u.2.2.2.1) (hv P [2, 32] [] u.2.2.1) 22 j) = a3 ∧ u.2.1 2 4 (elt (hv1 E [22] u.2.2.2.1) (hv P [2, 32] [] u.2.2.1) 22 j) = 0) ∧ (∀ j9 : Nat, (j9 : Int) = (J 22 2).toInt → (hv P [2, 32] [] u.2.2.1) 2 0 (elt (hv1 E [22] u.2.2.2.1) (hv P [2, 32] [] u.2.2.1) 22 j9) = some (elt E P 20 a0.toNatClampNeg)) ∧ (∀ a9 : Nat, (2, a9) ∈ dy → (hv P [2, 32] [] u.2.2.1) 2 0 a9 = P 2 0 a9))) ∧ WXF g (hv J [42] [(22, 0), (22, 2)] u.1) (hv P [2, 32] [] u.2.2.1) (hv1 E [22] u.2.2.2.1) u.2.2.2.2.1 u.2.2.2.2.2 ∧ (∀ x ∈ dy, x ∈ u.2.2.2.2.2) ∧ (∀ x ∈ dy, u.2.2.2.2.1 x.2 = N x.2)) (fun u t => at_ g A ((((hv J [42] [(22, 0), (22, 2)] u.1), L, (hv I [2] [] u.2.1), (hv P [2, 32] [] u.2.2.1), (hv1 E [22] u.2.2.2.1), u.2.2.2.2.1), sgX g ++ u.2.2.2.2.2)) t) A) = Q9
  have hx := C.1.1
  have hb := C.1.2.1
  have hts := C.1.2.2.2.2
  have hl : lv_has ls 7 [(0, .ref (g.2.2.1 12)), (1, .int a0), (2, .int a1), (3, .int a2), (4, .int a3)] := hl
  obtain ⟨H, hH⟩ : ∃ H : Heap, H = s.heap := ⟨_, rfl⟩
  obtain ⟨locs, hlocs⟩ : ∃ q : List Loc, q = [] := ⟨_, rfl⟩
  have hW : WB g A s.heap H locs (J, L, I, P, E, N) (sgX g ++ dy) := by rw [hH, hlocs]; exact hW
  refine start_ hH hlocs ?_
  refine lv_aload_n hx hb dX11_home_0 rfl (lv_at hl 0 rfl) ?_
  refine rg_12_0 C hW (mx_ rfl) tw_364 dX11_home_1 ?_
  refine lv_iload_n hx hb dX11_home_4 rfl (lv_at hl 1 rfl) ?_
  refine cq_ C hW (runV (x := (g.2.2.1 4)) (As := [.int a0]) (rest := []) (T := ((J, L, I, P, E, N), sgX g ++ dy)) C hW (c_X3_nodeOf l g J L I P E N dy H.size a0 hwf) mi_X3_nodeOf tw_463 (recv_ (T := ((J, L, I, P, E, N), sgX g ++ dy)) C hW (mx_ rfl) rfl rfl) ⟨rfl, rfl, Nat.le_of_ble_eq_true rfl, Nat.le_of_ble_eq_true rfl⟩ rfl hl.1 rfl (Nat.le_of_ble_eq_true rfl) dX11_home_5 ⟨Nat.le_of_ble_eq_true rfl, Nat.le_of_ble_eq_true rfl⟩) (fun q1 u1 H locs hp1 hW => ?_)
  have hq1 : ((q1 = none ∧ (¬ (0 ≤ a0.toInt ∧ a0.toInt < (J 20 2).toInt))) ∨ (q1 = some (elt E P 20 a0.toNatClampNeg) ∧ (0 ≤ a0.toInt ∧ a0.toInt < (J 20 2).toInt))) := hp1
  clear hp1
  have hW : WB g A s.heap H locs (J, L, I, P, E, N) (sgX g ++ dy) := hW
  rcases hq1 with ⟨rfl, hn1⟩ | ⟨rfl, hs1⟩
  · refine lv_asv (v' := .null) rfl ?_
    refine lv_astoreN (lv' := [(5, .null), (0, .ref (g.2.2.1 12)), (1, .int a0), (2, .int a1), (3, .int a2), (4, .int a3)]) hx hb dX11_home_8 hl (by decide) rfl (fun ls hl => ?_)
    refine lv_aloadN hx hb dX11_home_10 (lv_at hl 0 rfl) ?_
    refine lv_ifnonnullN hx hb dX11_home_12 ?_
    refine lv_aload_n hx hb dX11_home_15 rfl (lv_at hl 1 rfl) ?_
    refine lv_iconst (v := (-1)) hx hb dX11_home_16 (by decide) ?_
    refine ci_ C hW (runV (x := (g.2.2.1 12)) (As := [.int (-1)]) (rest := []) (T := ((J, L, I, P, E, N), sgX g ++ dy)) C hW (c_X11_refuse l g J L I P E N dy H.size (-1) hwf) mi_X11_refuse tw_411 (recv_ (T := ((J, L, I, P, E, N), sgX g ++ dy)) C hW (mx_ rfl) rfl rfl) ⟨rfl, rfl, Nat.le_of_ble_eq_true rfl, Nat.le_of_ble_eq_true rfl⟩ rfl hl.1 rfl (Nat.le_of_ble_eq_true rfl) dX11_home_17 ⟨Nat.le_of_ble_eq_true rfl, Nat.le_of_ble_eq_true rfl⟩) (fun r2 u2 H locs hp2 hW => ?_)
    have hc2 : ((r2 = (-1))) := hp2
    clear hp2
    have hr2 : r2.toInt = (-1) := by rw [hc2]; exact kn1
    have hW : WB g A s.heap H locs ((hv J [42] [] u2), L, I, P, E, N) (sgX g ++ dy) := hW
    have hJe : (hv J [42] [] u2) = hv J [42] [(22, 0), (22, 2)] (hv J [42] [] u2) := ag_hvE (J := J) (R := [42]) (F := [(22, 0), (22, 2)]) (ag_hv rfl rfl ag_rf)
    have hIe : I = hv I [2] [] I := ag_hvE (J := I) (R := [2]) (F := []) ag_rf
    have hPe : P = hv P [2, 32] [] P := ag_hvE (J := P) (R := [2, 32]) (F := []) ag_rf
    have hEe : E = hv1 E [22] E := hv1_e (R := [22]) (fun _ _ => rfl)
    have hWr : WB g A s.heap H locs (hv J [42] [(22, 0), (22, 2)] (hv J [42] [] u2), L, hv I [2] [] I, hv P [2, 32] [] P, hv1 E [22] E, N) (sgX g ++ dy) := by
      rw [← hJe, ← hIe, ← hPe, ← hEe]; exact hW
    have hwr : WXF g (hv J [42] [(22, 0), (22, 2)] (hv J [42] [] u2)) (hv P [2, 32] [] P) (hv1 E [22] E) N dy := by
      rw [← hJe, ← hPe, ← hEe]; exact hwf
    refine W.widen (k := 10) (n := 20100) (Nat.le_of_ble_eq_true rfl) (Nat.le_of_ble_eq_true rfl) ?_
    subst hQ9
    exact end_i C hr hlocks ((hv J [42] [] u2), I, P, E, N, dy) hWr ⟨by first | exact Or.inl ⟨by omega, by omega, show J 22 2 = J 22 2 from by first | rfl | (intro k hk; rfl) | (intro k; rfl), show (∀ k : Nat, elt E P 22 k = elt E P 22 k) from by first | rfl | (intro k hk; rfl) | (intro k; rfl), show I 2 = I 2 from by first | rfl | (intro k hk; rfl) | (intro k; rfl), show (∀ a : Nat, P 2 0 a = P 2 0 a) from by first | rfl | (intro k hk; rfl) | (intro k; rfl)⟩ | exact Or.inr (Or.inl ⟨by omega, by omega, show J 22 2 = J 22 2 from by first | rfl | (intro k hk; rfl) | (intro k; rfl), show (∀ k : Nat, elt E P 22 k = elt E P 22 k) from by first | rfl | (intro k hk; rfl) | (intro k; rfl), show I 2 = I 2 from by first | rfl | (intro k hk; rfl) | (intro k; rfl), show (∀ a : Nat, P 2 0 a = P 2 0 a) from by first | rfl | (intro k hk; rfl) | (intro k; rfl)⟩) | exact Or.inr (Or.inr (Or.inl ⟨by omega, by omega, show J 22 2 = J 22 2 from by first | rfl | (intro k hk; rfl) | (intro k; rfl), show (∀ k : Nat, elt E P 22 k = elt E P 22 k) from by first | rfl | (intro k hk; rfl) | (intro k; rfl), show I 2 = I 2 from by first | rfl | (intro k hk; rfl) | (intro k; rfl), show (∀ a : Nat, P 2 0 a = P 2 0 a) from by first | rfl | (intro k hk; rfl) | (intro k; rfl)⟩)) | exact Or.inr (Or.inr (Or.inr (⟨by omega, by omega, show (J 22 2).toInt = (J 22 2).toInt + 1 from by first | rfl | omega | assumption, show NOBJ I I E E P P 22 2 (J 22 2).toInt dy from by first | rfl | omega | assumption, show (∀ j : Nat, (j : Int) = (J 22 2).toInt → I 2 1 (elt E P 22 j) = a1 ∧ I 2 2 (elt E P 22 j) = a2 ∧ I 2 3 (elt E P 22 j) = a3 ∧ I 2 4 (elt E P 22 j) = 0) from by first | rfl | omega | assumption, show (∀ j9 : Nat, (j9 : Int) = (J 22 2).toInt → P 2 0 (elt E P 22 j9) = some (elt E P 20 a0.toNatClampNeg)) from by first | rfl | omega | assumption, show (∀ a9 : Nat, (2, a9) ∈ dy → P 2 0 a9 = P 2 0 a9) from by first | rfl | omega | assumption⟩))), hwr, fun x hx => hx, show ∀ x ∈ dy, N x.2 = N x.2 from by exact fun _ _ => rfl⟩ dX11_home_20
  · skip
    obtain ⟨o1, ho1⟩ : ∃ z : Nat, z = elt E P 20 a0.toNatClampNeg := ⟨_, rfl⟩
    have hm1 : (6, o1) ∈ dy := by rw [ho1]; exact (lw_mem (er := 6) hwf.1.1 (show (a0.toNatClampNeg : Int) < (J 20 2).toInt from by have := tcl a0; omega))
    refine lv_asv (v' := .ref o1) (by rw [ho1]; rfl) ?_
    refine lv_astore (lv' := [(5, .ref o1), (0, .ref (g.2.2.1 12)), (1, .int a0), (2, .int a1), (3, .int a2), (4, .int a3)]) hx hb dX11_home_8 hl (by decide) rfl (fun ls hl => ?_)
    refine lv_aload hx hb dX11_home_10 (lv_at hl 0 rfl) ?_
    refine lv_ifnonnull (tgt := 21) hx hb dX11_home_12 (by decide) ?_
    refine lv_iload_n hx hb dX11_home_21 rfl (lv_at hl 3 rfl) ?_
    refine lv_iconst (v := 1) hx hb dX11_home_22 (by decide) ?_
    refine lv_icmp_lt (tgt := 35) hx hb dX11_home_23 (by decide) (fun c3 => ?_) (fun c3 => ?_)
    · have c3 : a1.toInt < 1 := tlt rfl kp1 c3
      refine lv_aload_n hx hb dX11_home_35 rfl (lv_at hl 1 rfl) ?_
      refine lv_bipush (v := (-4)) hx hb dX11_home_36 (by decide) ?_
      refine ci_ C hW (runV (x := (g.2.2.1 12)) (As := [.int (-4)]) (rest := []) (T := ((J, L, I, P, E, N), sgX g ++ dy)) C hW (c_X11_refuse l g J L I P E N dy H.size (-4) hwf) mi_X11_refuse tw_411 (recv_ (T := ((J, L, I, P, E, N), sgX g ++ dy)) C hW (mx_ rfl) rfl rfl) ⟨rfl, rfl, Nat.le_of_ble_eq_true rfl, Nat.le_of_ble_eq_true rfl⟩ rfl hl.1 rfl (Nat.le_of_ble_eq_true rfl) dX11_home_38 ⟨Nat.le_of_ble_eq_true rfl, Nat.le_of_ble_eq_true rfl⟩) (fun r4 u4 H locs hp4 hW => ?_)
      have hc4 : ((r4 = (-4))) := hp4
      clear hp4
      have hr4 : r4.toInt = (-4) := by rw [hc4]; exact kn4
      have hW : WB g A s.heap H locs ((hv J [42] [] u4), L, I, P, E, N) (sgX g ++ dy) := hW
      have hJe : (hv J [42] [] u4) = hv J [42] [(22, 0), (22, 2)] (hv J [42] [] u4) := ag_hvE (J := J) (R := [42]) (F := [(22, 0), (22, 2)]) (ag_hv rfl rfl ag_rf)
      have hIe : I = hv I [2] [] I := ag_hvE (J := I) (R := [2]) (F := []) ag_rf
      have hPe : P = hv P [2, 32] [] P := ag_hvE (J := P) (R := [2, 32]) (F := []) ag_rf
      have hEe : E = hv1 E [22] E := hv1_e (R := [22]) (fun _ _ => rfl)
      have hWr : WB g A s.heap H locs (hv J [42] [(22, 0), (22, 2)] (hv J [42] [] u4), L, hv I [2] [] I, hv P [2, 32] [] P, hv1 E [22] E, N) (sgX g ++ dy) := by
        rw [← hJe, ← hIe, ← hPe, ← hEe]; exact hW
      have hwr : WXF g (hv J [42] [(22, 0), (22, 2)] (hv J [42] [] u4)) (hv P [2, 32] [] P) (hv1 E [22] E) N dy := by
        rw [← hJe, ← hPe, ← hEe]; exact hwf
      refine W.widen (k := 10) (n := 20100) (Nat.le_of_ble_eq_true rfl) (Nat.le_of_ble_eq_true rfl) ?_
      subst hQ9
      exact end_i C hr hlocks ((hv J [42] [] u4), I, P, E, N, dy) hWr ⟨by first | exact Or.inl ⟨by omega, by omega, show J 22 2 = J 22 2 from by first | rfl | (intro k hk; rfl) | (intro k; rfl), show (∀ k : Nat, elt E P 22 k = elt E P 22 k) from by first | rfl | (intro k hk; rfl) | (intro k; rfl), show I 2 = I 2 from by first | rfl | (intro k hk; rfl) | (intro k; rfl), show (∀ a : Nat, P 2 0 a = P 2 0 a) from by first | rfl | (intro k hk; rfl) | (intro k; rfl)⟩ | exact Or.inr (Or.inl ⟨by omega, by omega, show J 22 2 = J 22 2 from by first | rfl | (intro k hk; rfl) | (intro k; rfl), show (∀ k : Nat, elt E P 22 k = elt E P 22 k) from by first | rfl | (intro k hk; rfl) | (intro k; rfl), show I 2 = I 2 from by first | rfl | (intro k hk; rfl) | (intro k; rfl), show (∀ a : Nat, P 2 0 a = P 2 0 a) from by first | rfl | (intro k hk; rfl) | (intro k; rfl)⟩) | exact Or.inr (Or.inr (Or.inl ⟨by omega, by omega, show J 22 2 = J 22 2 from by first | rfl | (intro k hk; rfl) | (intro k; rfl), show (∀ k : Nat, elt E P 22 k = elt E P 22 k) from by first | rfl | (intro k hk; rfl) | (intro k; rfl), show I 2 = I 2 from by first | rfl | (intro k hk; rfl) | (intro k; rfl), show (∀ a : Nat, P 2 0 a = P 2 0 a) from by first | rfl | (intro k hk; rfl) | (intro k; rfl)⟩)) | exact Or.inr (Or.inr (Or.inr (⟨by omega, by omega, show (J 22 2).toInt = (J 22 2).toInt + 1 from by first | rfl | omega | assumption, show NOBJ I I E E P P 22 2 (J 22 2).toInt dy from by first | rfl | omega | assumption, show (∀ j : Nat, (j : Int) = (J 22 2).toInt → I 2 1 (elt E P 22 j) = a1 ∧ I 2 2 (elt E P 22 j) = a2 ∧ I 2 3 (elt E P 22 j) = a3 ∧ I 2 4 (elt E P 22 j) = 0) from by first | rfl | omega | assumption, show (∀ j9 : Nat, (j9 : Int) = (J 22 2).toInt → P 2 0 (elt E P 22 j9) = some (elt E P 20 a0.toNatClampNeg)) from by first | rfl | omega | assumption, show (∀ a9 : Nat, (2, a9) ∈ dy → P 2 0 a9 = P 2 0 a9) from by first | rfl | omega | assumption⟩))), hwr, fun x hx => hx, show ∀ x ∈ dy, N x.2 = N x.2 from by exact fun _ _ => rfl⟩ dX11_home_41
    · have c3 : 1 ≤ a1.toInt := tnlt rfl kp1 c3
      refine lv_iload_n hx hb dX11_home_26 rfl (lv_at hl 4 rfl) ?_
      refine lv_if_lt (tgt := 35) hx hb dX11_home_27 (by decide) (fun c5 => ?_) (fun c5 => ?_)
      · have c5 : a2.toInt < 0 := tlt rfl kp0 c5
        refine lv_aload_n hx hb dX11_home_35 rfl (lv_at hl 1 rfl) ?_
        refine lv_bipush (v := (-4)) hx hb dX11_home_36 (by decide) ?_
        refine ci_ C hW (runV (x := (g.2.2.1 12)) (As := [.int (-4)]) (rest := []) (T := ((J, L, I, P, E, N), sgX g ++ dy)) C hW (c_X11_refuse l g J L I P E N dy H.size (-4) hwf) mi_X11_refuse tw_411 (recv_ (T := ((J, L, I, P, E, N), sgX g ++ dy)) C hW (mx_ rfl) rfl rfl) ⟨rfl, rfl, Nat.le_of_ble_eq_true rfl, Nat.le_of_ble_eq_true rfl⟩ rfl hl.1 rfl (Nat.le_of_ble_eq_true rfl) dX11_home_38 ⟨Nat.le_of_ble_eq_true rfl, Nat.le_of_ble_eq_true rfl⟩) (fun r6 u6 H locs hp6 hW => ?_)
        have hc6 : ((r6 = (-4))) := hp6
        clear hp6
        have hr6 : r6.toInt = (-4) := by rw [hc6]; exact kn4
        have hW : WB g A s.heap H locs ((hv J [42] [] u6), L, I, P, E, N) (sgX g ++ dy) := hW
        have hJe : (hv J [42] [] u6) = hv J [42] [(22, 0), (22, 2)] (hv J [42] [] u6) := ag_hvE (J := J) (R := [42]) (F := [(22, 0), (22, 2)]) (ag_hv rfl rfl ag_rf)
        have hIe : I = hv I [2] [] I := ag_hvE (J := I) (R := [2]) (F := []) ag_rf
        have hPe : P = hv P [2, 32] [] P := ag_hvE (J := P) (R := [2, 32]) (F := []) ag_rf
        have hEe : E = hv1 E [22] E := hv1_e (R := [22]) (fun _ _ => rfl)
        have hWr : WB g A s.heap H locs (hv J [42] [(22, 0), (22, 2)] (hv J [42] [] u6), L, hv I [2] [] I, hv P [2, 32] [] P, hv1 E [22] E, N) (sgX g ++ dy) := by
          rw [← hJe, ← hIe, ← hPe, ← hEe]; exact hW
        have hwr : WXF g (hv J [42] [(22, 0), (22, 2)] (hv J [42] [] u6)) (hv P [2, 32] [] P) (hv1 E [22] E) N dy := by
          rw [← hJe, ← hPe, ← hEe]; exact hwf
        refine W.widen (k := 10) (n := 20100) (Nat.le_of_ble_eq_true rfl) (Nat.le_of_ble_eq_true rfl) ?_
        subst hQ9
        exact end_i C hr hlocks ((hv J [42] [] u6), I, P, E, N, dy) hWr ⟨by first | exact Or.inl ⟨by omega, by omega, show J 22 2 = J 22 2 from by first | rfl | (intro k hk; rfl) | (intro k; rfl), show (∀ k : Nat, elt E P 22 k = elt E P 22 k) from by first | rfl | (intro k hk; rfl) | (intro k; rfl), show I 2 = I 2 from by first | rfl | (intro k hk; rfl) | (intro k; rfl), show (∀ a : Nat, P 2 0 a = P 2 0 a) from by first | rfl | (intro k hk; rfl) | (intro k; rfl)⟩ | exact Or.inr (Or.inl ⟨by omega, by omega, show J 22 2 = J 22 2 from by first | rfl | (intro k hk; rfl) | (intro k; rfl), show (∀ k : Nat, elt E P 22 k = elt E P 22 k) from by first | rfl | (intro k hk; rfl) | (intro k; rfl), show I 2 = I 2 from by first | rfl | (intro k hk; rfl) | (intro k; rfl), show (∀ a : Nat, P 2 0 a = P 2 0 a) from by first | rfl | (intro k hk; rfl) | (intro k; rfl)⟩) | exact Or.inr (Or.inr (Or.inl ⟨by omega, by omega, show J 22 2 = J 22 2 from by first | rfl | (intro k hk; rfl) | (intro k; rfl), show (∀ k : Nat, elt E P 22 k = elt E P 22 k) from by first | rfl | (intro k hk; rfl) | (intro k; rfl), show I 2 = I 2 from by first | rfl | (intro k hk; rfl) | (intro k; rfl), show (∀ a : Nat, P 2 0 a = P 2 0 a) from by first | rfl | (intro k hk; rfl) | (intro k; rfl)⟩)) | exact Or.inr (Or.inr (Or.inr (⟨by omega, by omega, show (J 22 2).toInt = (J 22 2).toInt + 1 from by first | rfl | omega | assumption, show NOBJ I I E E P P 22 2 (J 22 2).toInt dy from by first | rfl | omega | assumption, show (∀ j : Nat, (j : Int) = (J 22 2).toInt → I 2 1 (elt E P 22 j) = a1 ∧ I 2 2 (elt E P 22 j) = a2 ∧ I 2 3 (elt E P 22 j) = a3 ∧ I 2 4 (elt E P 22 j) = 0) from by first | rfl | omega | assumption, show (∀ j9 : Nat, (j9 : Int) = (J 22 2).toInt → P 2 0 (elt E P 22 j9) = some (elt E P 20 a0.toNatClampNeg)) from by first | rfl | omega | assumption, show (∀ a9 : Nat, (2, a9) ∈ dy → P 2 0 a9 = P 2 0 a9) from by first | rfl | omega | assumption⟩))), hwr, fun x hx => hx, show ∀ x ∈ dy, N x.2 = N x.2 from by exact fun _ _ => rfl⟩ dX11_home_41
      · have c5 : 0 ≤ a2.toInt := tnlt rfl kp0 c5
        refine lv_iload hx hb dX11_home_30 (lv_at hl 5 rfl) ?_
        refine lv_if_ge (tgt := 42) hx hb dX11_home_32 (by decide) (fun c7 => ?_) (fun c7 => ?_)
        · have c7 : 0 ≤ a3.toInt := tle kp0 rfl c7
          refine lv_aload_n hx hb dX11_home_42 rfl (lv_at hl 1 rfl) ?_
          refine rg_12_0 C hW (mx_ rfl) tw_364 dX11_home_43 ?_
          refine rg_4_2 C hW (mx_ rfl) tw_237 dX11_home_46 ?_
          refine ci_ C hW (runV (x := (g.2.2.1 22)) (As := []) (rest := []) (T := ((J, L, I, P, E, N), sgX g ++ dy)) C hW (c_Jx4a65c_size_8abf5 l g J L I P E N dy H.size 22 rfl ) mi_Jx4a65c_size_8abf5 tw_485 (recv_ (T := ((J, L, I, P, E, N), sgX g ++ dy)) C hW (mx_ rfl) (cel_list rfl) rfl) ⟨rfl, rfl, Nat.le_of_ble_eq_true rfl, Nat.le_of_ble_eq_true rfl⟩ rfl hl.1 rfl (Nat.le_of_ble_eq_true rfl) dX11_home_49 ⟨Nat.le_of_ble_eq_true rfl, Nat.le_of_ble_eq_true rfl⟩) (fun r8 u8 H locs hp8 hW => ?_)
          have hc8 : ((r8 = J 22 2)) := hp8
          clear hp8
          have hr8 : r8 = J 22 2 := hc8
          refine lv_as (J 22 2) hr8 ?_
          have hW : WB g A s.heap H locs (J, L, I, P, E, N) (sgX g ++ dy) := hW
          refine lv_istore (lv' := [(6, .int (J 22 2)), (5, .ref o1), (0, .ref (g.2.2.1 12)), (1, .int a0), (2, .int a1), (3, .int a2), (4, .int a3)]) hx hb dX11_home_52 hl (by decide) rfl (fun ls hl => ?_)
          refine lv_iload_n hx hb dX11_home_54 rfl (lv_at hl 4 rfl) ?_
          refine lv_bipush (v := 9) hx hb dX11_home_55 (by decide) ?_
          refine lv_icmp_gt (tgt := 80) hx hb dX11_home_57 (by decide) (fun c9 => ?_) (fun c9 => ?_)
          · have c9 : 9 < a1.toInt := tlt kp9 rfl c9
            refine lv_aload_n hx hb dX11_home_80 rfl (lv_at hl 2 rfl) ?_
            refine lv_bipush (v := (-6)) hx hb dX11_home_81 (by decide) ?_
            refine ci_ C hW (runV (x := (g.2.2.1 12)) (As := [.int (-6)]) (rest := []) (T := ((J, L, I, P, E, N), sgX g ++ dy)) C hW (c_X11_refuse l g J L I P E N dy H.size (-6) hwf) mi_X11_refuse tw_411 (recv_ (T := ((J, L, I, P, E, N), sgX g ++ dy)) C hW (mx_ rfl) rfl rfl) ⟨rfl, rfl, Nat.le_of_ble_eq_true rfl, Nat.le_of_ble_eq_true rfl⟩ rfl hl.1 rfl (Nat.le_of_ble_eq_true rfl) dX11_home_83 ⟨Nat.le_of_ble_eq_true rfl, Nat.le_of_ble_eq_true rfl⟩) (fun r10 u10 H locs hp10 hW => ?_)
            have hc10 : ((r10 = (-6))) := hp10
            clear hp10
            have hr10 : r10.toInt = (-6) := by rw [hc10]; exact kn6
            have hW : WB g A s.heap H locs ((hv J [42] [] u10), L, I, P, E, N) (sgX g ++ dy) := hW
            have hJe : (hv J [42] [] u10) = hv J [42] [(22, 0), (22, 2)] (hv J [42] [] u10) := ag_hvE (J := J) (R := [42]) (F := [(22, 0), (22, 2)]) (ag_hv rfl rfl ag_rf)
            have hIe : I = hv I [2] [] I := ag_hvE (J := I) (R := [2]) (F := []) ag_rf
            have hPe : P = hv P [2, 32] [] P := ag_hvE (J := P) (R := [2, 32]) (F := []) ag_rf
            have hEe : E = hv1 E [22] E := hv1_e (R := [22]) (fun _ _ => rfl)
            have hWr : WB g A s.heap H locs (hv J [42] [(22, 0), (22, 2)] (hv J [42] [] u10), L, hv I [2] [] I, hv P [2, 32] [] P, hv1 E [22] E, N) (sgX g ++ dy) := by
              rw [← hJe, ← hIe, ← hPe, ← hEe]; exact hW
            have hwr : WXF g (hv J [42] [(22, 0), (22, 2)] (hv J [42] [] u10)) (hv P [2, 32] [] P) (hv1 E [22] E) N dy := by
              rw [← hJe, ← hPe, ← hEe]; exact hwf
            refine W.widen (k := 10) (n := 20100) (Nat.le_of_ble_eq_true rfl) (Nat.le_of_ble_eq_true rfl) ?_
            subst hQ9
            exact end_i C hr hlocks ((hv J [42] [] u10), I, P, E, N, dy) hWr ⟨by first | exact Or.inl ⟨by omega, by omega, show J 22 2 = J 22 2 from by first | rfl | (intro k hk; rfl) | (intro k; rfl), show (∀ k : Nat, elt E P 22 k = elt E P 22 k) from by first | rfl | (intro k hk; rfl) | (intro k; rfl), show I 2 = I 2 from by first | rfl | (intro k hk; rfl) | (intro k; rfl), show (∀ a : Nat, P 2 0 a = P 2 0 a) from by first | rfl | (intro k hk; rfl) | (intro k; rfl)⟩ | exact Or.inr (Or.inl ⟨by omega, by omega, show J 22 2 = J 22 2 from by first | rfl | (intro k hk; rfl) | (intro k; rfl), show (∀ k : Nat, elt E P 22 k = elt E P 22 k) from by first | rfl | (intro k hk; rfl) | (intro k; rfl), show I 2 = I 2 from by first | rfl | (intro k hk; rfl) | (intro k; rfl), show (∀ a : Nat, P 2 0 a = P 2 0 a) from by first | rfl | (intro k hk; rfl) | (intro k; rfl)⟩) | exact Or.inr (Or.inr (Or.inl ⟨by omega, by omega, show J 22 2 = J 22 2 from by first | rfl | (intro k hk; rfl) | (intro k; rfl), show (∀ k : Nat, elt E P 22 k = elt E P 22 k) from by first | rfl | (intro k hk; rfl) | (intro k; rfl), show I 2 = I 2 from by first | rfl | (intro k hk; rfl) | (intro k; rfl), show (∀ a : Nat, P 2 0 a = P 2 0 a) from by first | rfl | (intro k hk; rfl) | (intro k; rfl)⟩)) | exact Or.inr (Or.inr (Or.inr (⟨by omega, by omega, show (J 22 2).toInt = (J 22 2).toInt + 1 from by first | rfl | omega | assumption, show NOBJ I I E E P P 22 2 (J 22 2).toInt dy from by first | rfl | omega | assumption, show (∀ j : Nat, (j : Int) = (J 22 2).toInt → I 2 1 (elt E P 22 j) = a1 ∧ I 2 2 (elt E P 22 j) = a2 ∧ I 2 3 (elt E P 22 j) = a3 ∧ I 2 4 (elt E P 22 j) = 0) from by first | rfl | omega | assumption, show (∀ j9 : Nat, (j9 : Int) = (J 22 2).toInt → P 2 0 (elt E P 22 j9) = some (elt E P 20 a0.toNatClampNeg)) from by first | rfl | omega | assumption, show (∀ a9 : Nat, (2, a9) ∈ dy → P 2 0 a9 = P 2 0 a9) from by first | rfl | omega | assumption⟩))), hwr, fun x hx => hx, show ∀ x ∈ dy, N x.2 = N x.2 from by exact fun _ _ => rfl⟩ dX11_home_86
          · have c9 : a1.toInt ≤ 9 := tnlt kp9 rfl c9
            refine lv_iload_n hx hb dX11_home_60 rfl (lv_at hl 5 rfl) ?_
            refine lv_ldc hx hb C.1.2.2.2.1 (hts _ tw_541) dX11_home_61 ?_
            refine lv_icmp_gt (tgt := 80) hx hb dX11_home_63 (by decide) (fun c11 => ?_) (fun c11 => ?_)
            · have c11 : 16777215 < a2.toInt := tlt kp16777215 rfl c11
              refine lv_aload_n hx hb dX11_home_80 rfl (lv_at hl 2 rfl) ?_
              refine lv_bipush (v := (-6)) hx hb dX11_home_81 (by decide) ?_
              refine ci_ C hW (runV (x := (g.2.2.1 12)) (As := [.int (-6)]) (rest := []) (T := ((J, L, I, P, E, N), sgX g ++ dy)) C hW (c_X11_refuse l g J L I P E N dy H.size (-6) hwf) mi_X11_refuse tw_411 (recv_ (T := ((J, L, I, P, E, N), sgX g ++ dy)) C hW (mx_ rfl) rfl rfl) ⟨rfl, rfl, Nat.le_of_ble_eq_true rfl, Nat.le_of_ble_eq_true rfl⟩ rfl hl.1 rfl (Nat.le_of_ble_eq_true rfl) dX11_home_83 ⟨Nat.le_of_ble_eq_true rfl, Nat.le_of_ble_eq_true rfl⟩) (fun r12 u12 H locs hp12 hW => ?_)
              have hc12 : ((r12 = (-6))) := hp12
              clear hp12
              have hr12 : r12.toInt = (-6) := by rw [hc12]; exact kn6
              have hW : WB g A s.heap H locs ((hv J [42] [] u12), L, I, P, E, N) (sgX g ++ dy) := hW
              have hJe : (hv J [42] [] u12) = hv J [42] [(22, 0), (22, 2)] (hv J [42] [] u12) := ag_hvE (J := J) (R := [42]) (F := [(22, 0), (22, 2)]) (ag_hv rfl rfl ag_rf)
              have hIe : I = hv I [2] [] I := ag_hvE (J := I) (R := [2]) (F := []) ag_rf
              have hPe : P = hv P [2, 32] [] P := ag_hvE (J := P) (R := [2, 32]) (F := []) ag_rf
              have hEe : E = hv1 E [22] E := hv1_e (R := [22]) (fun _ _ => rfl)
              have hWr : WB g A s.heap H locs (hv J [42] [(22, 0), (22, 2)] (hv J [42] [] u12), L, hv I [2] [] I, hv P [2, 32] [] P, hv1 E [22] E, N) (sgX g ++ dy) := by
                rw [← hJe, ← hIe, ← hPe, ← hEe]; exact hW
              have hwr : WXF g (hv J [42] [(22, 0), (22, 2)] (hv J [42] [] u12)) (hv P [2, 32] [] P) (hv1 E [22] E) N dy := by
                rw [← hJe, ← hPe, ← hEe]; exact hwf
              refine W.widen (k := 10) (n := 20100) (Nat.le_of_ble_eq_true rfl) (Nat.le_of_ble_eq_true rfl) ?_
              subst hQ9
              exact end_i C hr hlocks ((hv J [42] [] u12), I, P, E, N, dy) hWr ⟨by first | exact Or.inl ⟨by omega, by omega, show J 22 2 = J 22 2 from by first | rfl | (intro k hk; rfl) | (intro k; rfl), show (∀ k : Nat, elt E P 22 k = elt E P 22 k) from by first | rfl | (intro k hk; rfl) | (intro k; rfl), show I 2 = I 2 from by first | rfl | (intro k hk; rfl) | (intro k; rfl), show (∀ a : Nat, P 2 0 a = P 2 0 a) from by first | rfl | (intro k hk; rfl) | (intro k; rfl)⟩ | exact Or.inr (Or.inl ⟨by omega, by omega, show J 22 2 = J 22 2 from by first | rfl | (intro k hk; rfl) | (intro k; rfl), show (∀ k : Nat, elt E P 22 k = elt E P 22 k) from by first | rfl | (intro k hk; rfl) | (intro k; rfl), show I 2 = I 2 from by first | rfl | (intro k hk; rfl) | (intro k; rfl), show (∀ a : Nat, P 2 0 a = P 2 0 a) from by first | rfl | (intro k hk; rfl) | (intro k; rfl)⟩) | exact Or.inr (Or.inr (Or.inl ⟨by omega, by omega, show J 22 2 = J 22 2 from by first | rfl | (intro k hk; rfl) | (intro k; rfl), show (∀ k : Nat, elt E P 22 k = elt E P 22 k) from by first | rfl | (intro k hk; rfl) | (intro k; rfl), show I 2 = I 2 from by first | rfl | (intro k hk; rfl) | (intro k; rfl), show (∀ a : Nat, P 2 0 a = P 2 0 a) from by first | rfl | (intro k hk; rfl) | (intro k; rfl)⟩)) | exact Or.inr (Or.inr (Or.inr (⟨by omega, by omega, show (J 22 2).toInt = (J 22 2).toInt + 1 from by first | rfl | omega | assumption, show NOBJ I I E E P P 22 2 (J 22 2).toInt dy from by first | rfl | omega | assumption, show (∀ j : Nat, (j : Int) = (J 22 2).toInt → I 2 1 (elt E P 22 j) = a1 ∧ I 2 2 (elt E P 22 j) = a2 ∧ I 2 3 (elt E P 22 j) = a3 ∧ I 2 4 (elt E P 22 j) = 0) from by first | rfl | omega | assumption, show (∀ j9 : Nat, (j9 : Int) = (J 22 2).toInt → P 2 0 (elt E P 22 j9) = some (elt E P 20 a0.toNatClampNeg)) from by first | rfl | omega | assumption, show (∀ a9 : Nat, (2, a9) ∈ dy → P 2 0 a9 = P 2 0 a9) from by first | rfl | omega | assumption⟩))), hwr, fun x hx => hx, show ∀ x ∈ dy, N x.2 = N x.2 from by exact fun _ _ => rfl⟩ dX11_home_86
            · have c11 : a2.toInt ≤ 16777215 := tnlt kp16777215 rfl c11
              refine lv_iload hx hb dX11_home_66 (lv_at hl 6 rfl) ?_
              refine lv_ldc hx hb C.1.2.2.2.1 (hts _ tw_541) dX11_home_68 ?_
              refine lv_icmp_gt (tgt := 80) hx hb dX11_home_70 (by decide) (fun c13 => ?_) (fun c13 => ?_)
              · have c13 : 16777215 < a3.toInt := tlt kp16777215 rfl c13
                refine lv_aload_n hx hb dX11_home_80 rfl (lv_at hl 2 rfl) ?_
                refine lv_bipush (v := (-6)) hx hb dX11_home_81 (by decide) ?_
                refine ci_ C hW (runV (x := (g.2.2.1 12)) (As := [.int (-6)]) (rest := []) (T := ((J, L, I, P, E, N), sgX g ++ dy)) C hW (c_X11_refuse l g J L I P E N dy H.size (-6) hwf) mi_X11_refuse tw_411 (recv_ (T := ((J, L, I, P, E, N), sgX g ++ dy)) C hW (mx_ rfl) rfl rfl) ⟨rfl, rfl, Nat.le_of_ble_eq_true rfl, Nat.le_of_ble_eq_true rfl⟩ rfl hl.1 rfl (Nat.le_of_ble_eq_true rfl) dX11_home_83 ⟨Nat.le_of_ble_eq_true rfl, Nat.le_of_ble_eq_true rfl⟩) (fun r14 u14 H locs hp14 hW => ?_)
                have hc14 : ((r14 = (-6))) := hp14
                clear hp14
                have hr14 : r14.toInt = (-6) := by rw [hc14]; exact kn6
                have hW : WB g A s.heap H locs ((hv J [42] [] u14), L, I, P, E, N) (sgX g ++ dy) := hW
                have hJe : (hv J [42] [] u14) = hv J [42] [(22, 0), (22, 2)] (hv J [42] [] u14) := ag_hvE (J := J) (R := [42]) (F := [(22, 0), (22, 2)]) (ag_hv rfl rfl ag_rf)
                have hIe : I = hv I [2] [] I := ag_hvE (J := I) (R := [2]) (F := []) ag_rf
                have hPe : P = hv P [2, 32] [] P := ag_hvE (J := P) (R := [2, 32]) (F := []) ag_rf
                have hEe : E = hv1 E [22] E := hv1_e (R := [22]) (fun _ _ => rfl)
                have hWr : WB g A s.heap H locs (hv J [42] [(22, 0), (22, 2)] (hv J [42] [] u14), L, hv I [2] [] I, hv P [2, 32] [] P, hv1 E [22] E, N) (sgX g ++ dy) := by
                  rw [← hJe, ← hIe, ← hPe, ← hEe]; exact hW
                have hwr : WXF g (hv J [42] [(22, 0), (22, 2)] (hv J [42] [] u14)) (hv P [2, 32] [] P) (hv1 E [22] E) N dy := by
                  rw [← hJe, ← hPe, ← hEe]; exact hwf
                refine W.widen (k := 10) (n := 20100) (Nat.le_of_ble_eq_true rfl) (Nat.le_of_ble_eq_true rfl) ?_
                subst hQ9
                exact end_i C hr hlocks ((hv J [42] [] u14), I, P, E, N, dy) hWr ⟨by first | exact Or.inl ⟨by omega, by omega, show J 22 2 = J 22 2 from by first | rfl | (intro k hk; rfl) | (intro k; rfl), show (∀ k : Nat, elt E P 22 k = elt E P 22 k) from by first | rfl | (intro k hk; rfl) | (intro k; rfl), show I 2 = I 2 from by first | rfl | (intro k hk; rfl) | (intro k; rfl), show (∀ a : Nat, P 2 0 a = P 2 0 a) from by first | rfl | (intro k hk; rfl) | (intro k; rfl)⟩ | exact Or.inr (Or.inl ⟨by omega, by omega, show J 22 2 = J 22 2 from by first | rfl | (intro k hk; rfl) | (intro k; rfl), show (∀ k : Nat, elt E P 22 k = elt E P 22 k) from by first | rfl | (intro k hk; rfl) | (intro k; rfl), show I 2 = I 2 from by first | rfl | (intro k hk; rfl) | (intro k; rfl), show (∀ a : Nat, P 2 0 a = P 2 0 a) from by first | rfl | (intro k hk; rfl) | (intro k; rfl)⟩) | exact Or.inr (Or.inr (Or.inl ⟨by omega, by omega, show J 22 2 = J 22 2 from by first | rfl | (intro k hk; rfl) | (intro k; rfl), show (∀ k : Nat, elt E P 22 k = elt E P 22 k) from by first | rfl | (intro k hk; rfl) | (intro k; rfl), show I 2 = I 2 from by first | rfl | (intro k hk; rfl) | (intro k; rfl), show (∀ a : Nat, P 2 0 a = P 2 0 a) from by first | rfl | (intro k hk; rfl) | (intro k; rfl)⟩)) | exact Or.inr (Or.inr (Or.inr (⟨by omega, by omega, show (J 22 2).toInt = (J 22 2).toInt + 1 from by first | rfl | omega | assumption, show NOBJ I I E E P P 22 2 (J 22 2).toInt dy from by first | rfl | omega | assumption, show (∀ j : Nat, (j : Int) = (J 22 2).toInt → I 2 1 (elt E P 22 j) = a1 ∧ I 2 2 (elt E P 22 j) = a2 ∧ I 2 3 (elt E P 22 j) = a3 ∧ I 2 4 (elt E P 22 j) = 0) from by first | rfl | omega | assumption, show (∀ j9 : Nat, (j9 : Int) = (J 22 2).toInt → P 2 0 (elt E P 22 j9) = some (elt E P 20 a0.toNatClampNeg)) from by first | rfl | omega | assumption, show (∀ a9 : Nat, (2, a9) ∈ dy → P 2 0 a9 = P 2 0 a9) from by first | rfl | omega | assumption⟩))), hwr, fun x hx => hx, show ∀ x ∈ dy, N x.2 = N x.2 from by exact fun _ _ => rfl⟩ dX11_home_86
              · have c13 : a3.toInt ≤ 16777215 := tnlt kp16777215 rfl c13
                refine lv_iload hx hb dX11_home_73 (lv_at hl 0 rfl) ?_
                refine lv_bipush (v := 40) hx hb dX11_home_75 (by decide) ?_
                refine lv_icmp_lt (tgt := 87) hx hb dX11_home_77 (by decide) (fun c15 => ?_) (fun c15 => ?_)
                · have c15 : (J 22 2).toInt < 40 := tlt rfl kp40 c15
                  refine lv_aload_n hx hb dX11_home_87 rfl (lv_at hl 2 rfl) ?_
                  refine rg_12_0 C hW (mx_ rfl) tw_364 dX11_home_88 ?_
                  refine rg_4_2 C hW (mx_ rfl) tw_237 dX11_home_91 ?_
                  refine g_new (r := 2) (S' := fun q => (J, L, clr I 2 q 0, clr P 2 q none, E, N)) (ci := 2) (fs := [.null, .int 0, .int 0, .int 0, .int 0]) C hW rfl rfl in_X1 tyX1 tyX1_ok tw_542 tw_543 tw_85 (fun j hj => by rcases (show j = 0 ∨ j = 1 ∨ j = 2 ∨ j = 3 ∨ j = 4 by omega) with rfl | rfl | rfl | rfl | rfl <;> rfl) (fun q => by simp only [cel, celc, clr_s] <;> rfl) (fun q r' a h => cel_clr 2 q r' a h) ⟨Nat.le_of_ble_eq_true rfl, Nat.le_of_ble_eq_true rfl⟩ dX11_home_94 (fun q16 H hfr16 hW => ?_)
                  rw [List.append_assoc] at hW
                  have hW : WB g A s.heap H locs (J, L, (clr I 2 q16 0), (clr P 2 q16 none), E, N) (sgX g ++ (dy ++ [(2, q16)])) := hW
                  refine lv_dup hx hb dX11_home_97 rfl ?_
                  refine lv_aload hx hb dX11_home_98 (lv_at hl 1 rfl) ?_
                  refine lv_iload_n hx hb dX11_home_100 rfl (lv_at hl 4 rfl) ?_
                  refine lv_iload_n hx hb dX11_home_101 rfl (lv_at hl 5 rfl) ?_
                  refine lv_iload hx hb dX11_home_102 (lv_at hl 6 rfl) ?_
                  refine cv_ C hW (runI (x := q16) (As := [.ref o1, .int a1, .int a2, .int a3]) (rest := [.ref q16, .ref (g.2.2.1 22)]) (T := ((J, L, (clr I 2 q16 0), (clr P 2 q16 none), E, N), sgX g ++ (dy ++ [(2, q16)]))) C hW (c_X1_init l g J L (clr I 2 q16 0) (clr P 2 q16 none) E N (dy ++ [(2, q16)]) H.size q16 (List.mem_append_right _ (List.mem_singleton.mpr rfl)) o1 (List.mem_append_left _ hm1) a1 a2 a3 ) mi_X1_init tw_544 ⟨rfl, rfl, Nat.le_of_ble_eq_true rfl, Nat.le_of_ble_eq_true rfl⟩ rfl hl.1 rfl (Nat.le_of_ble_eq_true rfl) dX11_home_104 ⟨Nat.le_of_ble_eq_true rfl, Nat.le_of_ble_eq_true rfl⟩) (fun u17 H locs hp17 hW => ?_)
                  have hW : WB g A s.heap H locs (J, L, (up3 (up3 (up3 (clr I 2 q16 0) 2 1 q16 a1) 2 2 q16 a2) 2 3 q16 a3), (up3 (clr P 2 q16 none) 2 0 q16 (some o1)), E, N) (sgX g ++ (dy ++ [(2, q16)])) := hW
                  have hwf : WXF g J (up3 (clr P 2 q16 none) 2 0 q16 (some o1)) E N (dy ++ [(2, q16)]) := wxf_new (J := J) hwf (fun x hx => hfr16 x (List.mem_append_right _ hx)) (fun r f a h => (up3_a _ _ _ _ h _ _).trans (clr_o _ _ _ h _ _)) (fun _ _ => rfl) ⟨fun h => absurd h (by decide), fun h => absurd h (by decide), fun _ => ⟨_, up3_s _ _ _ _ _, hm1⟩, fun h => absurd h (by decide)⟩
                  refine ci_ C hW (runV (x := (g.2.2.1 22)) (As := [.ref q16]) (rest := []) (T := ((J, L, (up3 (up3 (up3 (clr I 2 q16 0) 2 1 q16 a1) 2 2 q16 a2) 2 3 q16 a3), (up3 (clr P 2 q16 none) 2 0 q16 (some o1)), E, N), sgX g ++ (dy ++ [(2, q16)]))) C hW (c_Jx4a65c_add_9ea2d l g J L (up3 (up3 (up3 (clr I 2 q16 0) 2 1 q16 a1) 2 2 q16 a2) 2 3 q16 a3) (up3 (clr P 2 q16 none) 2 0 q16 (some o1)) E N (dy ++ [(2, q16)]) H.size 2 22 rfl rfl q16 (List.mem_append_right _ (List.mem_singleton.mpr rfl)) hwf.1.2.2.1 (show (J 22 2).toInt ≤ 9999 from by omega)) mi_Jx4a65c_add_9ea2d tw_488 (recv_ (T := ((J, L, (up3 (up3 (up3 (clr I 2 q16 0) 2 1 q16 a1) 2 2 q16 a2) 2 3 q16 a3), (up3 (clr P 2 q16 none) 2 0 q16 (some o1)), E, N), sgX g ++ (dy ++ [(2, q16)]))) C hW (mx_ rfl) (cel_list rfl) rfl) ⟨rfl, rfl, Nat.le_of_ble_eq_true rfl, Nat.le_of_ble_eq_true rfl⟩ rfl hl.1 rfl (Nat.le_of_ble_eq_true rfl) dX11_home_107 ⟨Nat.le_of_ble_eq_true rfl, Nat.le_of_ble_eq_true rfl⟩) (fun r18 u18 H locs hp18 hW => ?_)
                  obtain ⟨hc18, hG18, hL18, hE18, hF18⟩ := hp18
                  have hlo18 : 0 ≤ (J 22 2).toInt := (hwf.1.2.2.1).1
                  have ht18 : (J 22 2 + 1).toInt = (J 22 2).toInt + 1 := tadd rfl rfl kp1 (by omega)
                  have hW : WB g A s.heap H locs ((up2 (up2 J 22 0 u18.1) 22 2 (J 22 2 + 1)), L, (up3 (up3 (up3 (clr I 2 q16 0) 2 1 q16 a1) 2 2 q16 a2) 2 3 q16 a3), (hv (up3 (clr P 2 q16 none) 2 0 q16 (some o1)) [32] [] u18.2.1), (up1 E 22 u18.2.2.1), u18.2.2.2.1) (sgX g ++ u18.2.2.2.2) := hW
                  have hwf : WXF g (up2 (up2 J 22 0 u18.1) 22 2 (J 22 2 + 1)) (hv (up3 (clr P 2 q16 none) 2 0 q16 (some o1)) [32] [] u18.2.1) (up1 E 22 u18.2.2.1) u18.2.2.2.1 u18.2.2.2.2 := wxf_add22 hwf hG18 hL18
                  refine lv_pop hx hb dX11_home_110 rfl ?_
                  refine lv_iload hx hb dX11_home_111 (lv_at hl 0 rfl) ?_
                  have hF9 : elt (up1 E 22 u18.2.2.1) (hv (up3 (clr P 2 q16 none) 2 0 q16 (some o1)) [32] [] u18.2.1) 22 (J 22 2).toNatClampNeg = q16 := hF18
                  have hJe : (up2 (up2 J 22 0 u18.1) 22 2 (J 22 2 + 1)) = hv J [42] [(22, 0), (22, 2)] (up2 (up2 J 22 0 u18.1) 22 2 (J 22 2 + 1)) := ag_hvE (J := J) (R := [42]) (F := [(22, 0), (22, 2)]) (ag_up (Or.inr rfl) (ag_up (Or.inr rfl) ag_rf))
                  have hIe : (up3 (up3 (up3 (clr I 2 q16 0) 2 1 q16 a1) 2 2 q16 a2) 2 3 q16 a3) = hv I [2] [] (up3 (up3 (up3 (clr I 2 q16 0) 2 1 q16 a1) 2 2 q16 a2) 2 3 q16 a3) := ag_hvE (J := I) (R := [2]) (F := []) (ag_up3 (Or.inl rfl) (ag_up3 (Or.inl rfl) (ag_up3 (Or.inl rfl) (ag_clr rfl ag_rf))))
                  have hPe : (hv (up3 (clr P 2 q16 none) 2 0 q16 (some o1)) [32] [] u18.2.1) = hv P [2, 32] [] (hv (up3 (clr P 2 q16 none) 2 0 q16 (some o1)) [32] [] u18.2.1) := ag_hvE (J := P) (R := [2, 32]) (F := []) (ag_hv rfl rfl (ag_up3 (Or.inl rfl) (ag_clr rfl ag_rf)))
                  have hEe : (up1 E 22 u18.2.2.1) = hv1 E [22] (up1 E 22 u18.2.2.1) := hv1_e (R := [22]) (up1_ag rfl (fun _ _ => rfl))
                  have hWr : WB g A s.heap H locs (hv J [42] [(22, 0), (22, 2)] (up2 (up2 J 22 0 u18.1) 22 2 (J 22 2 + 1)), L, hv I [2] [] (up3 (up3 (up3 (clr I 2 q16 0) 2 1 q16 a1) 2 2 q16 a2) 2 3 q16 a3), hv P [2, 32] [] (hv (up3 (clr P 2 q16 none) 2 0 q16 (some o1)) [32] [] u18.2.1), hv1 E [22] (up1 E 22 u18.2.2.1), u18.2.2.2.1) (sgX g ++ u18.2.2.2.2) := by
                    rw [← hJe, ← hIe, ← hPe, ← hEe]; exact hW
                  have hwr : WXF g (hv J [42] [(22, 0), (22, 2)] (up2 (up2 J 22 0 u18.1) 22 2 (J 22 2 + 1))) (hv P [2, 32] [] (hv (up3 (clr P 2 q16 none) 2 0 q16 (some o1)) [32] [] u18.2.1)) (hv1 E [22] (up1 E 22 u18.2.2.1)) u18.2.2.2.1 u18.2.2.2.2 := by
                    rw [← hJe, ← hPe, ← hEe]; exact hwf
                  refine W.widen (k := 10) (n := 20100) (Nat.le_of_ble_eq_true rfl) (Nat.le_of_ble_eq_true rfl) ?_
                  subst hQ9
                  exact end_i C hr hlocks ((up2 (up2 J 22 0 u18.1) 22 2 (J 22 2 + 1)), (up3 (up3 (up3 (clr I 2 q16 0) 2 1 q16 a1) 2 2 q16 a2) 2 3 q16 a3), (hv (up3 (clr P 2 q16 none) 2 0 q16 (some o1)) [32] [] u18.2.1), (up1 E 22 u18.2.2.1), u18.2.2.2.1, u18.2.2.2.2) hWr ⟨by first | exact Or.inl ⟨by omega, by omega, show J 22 2 + 1 = J 22 2 from by first | rfl | (intro k hk; rfl) | (intro k; rfl), show (∀ k : Nat, elt (up1 E 22 u18.2.2.1) (hv (up3 (clr P 2 q16 none) 2 0 q16 (some o1)) [32] [] u18.2.1) 22 k = elt E P 22 k) from by first | rfl | (intro k hk; rfl) | (intro k; rfl), show (up3 (up3 (up3 (clr I 2 q16 0) 2 1 q16 a1) 2 2 q16 a2) 2 3 q16 a3) 2 = I 2 from by first | rfl | (intro k hk; rfl) | (intro k; rfl), show (∀ a : Nat, (hv (up3 (clr P 2 q16 none) 2 0 q16 (some o1)) [32] [] u18.2.1) 2 0 a = P 2 0 a) from by first | rfl | (intro k hk; rfl) | (intro k; rfl)⟩ | exact Or.inr (Or.inl ⟨by omega, by omega, show J 22 2 + 1 = J 22 2 from by first | rfl | (intro k hk; rfl) | (intro k; rfl), show (∀ k : Nat, elt (up1 E 22 u18.2.2.1) (hv (up3 (clr P 2 q16 none) 2 0 q16 (some o1)) [32] [] u18.2.1) 22 k = elt E P 22 k) from by first | rfl | (intro k hk; rfl) | (intro k; rfl), show (up3 (up3 (up3 (clr I 2 q16 0) 2 1 q16 a1) 2 2 q16 a2) 2 3 q16 a3) 2 = I 2 from by first | rfl | (intro k hk; rfl) | (intro k; rfl), show (∀ a : Nat, (hv (up3 (clr P 2 q16 none) 2 0 q16 (some o1)) [32] [] u18.2.1) 2 0 a = P 2 0 a) from by first | rfl | (intro k hk; rfl) | (intro k; rfl)⟩) | exact Or.inr (Or.inr (Or.inl ⟨by omega, by omega, show J 22 2 + 1 = J 22 2 from by first | rfl | (intro k hk; rfl) | (intro k; rfl), show (∀ k : Nat, elt (up1 E 22 u18.2.2.1) (hv (up3 (clr P 2 q16 none) 2 0 q16 (some o1)) [32] [] u18.2.1) 22 k = elt E P 22 k) from by first | rfl | (intro k hk; rfl) | (intro k; rfl), show (up3 (up3 (up3 (clr I 2 q16 0) 2 1 q16 a1) 2 2 q16 a2) 2 3 q16 a3) 2 = I 2 from by first | rfl | (intro k hk; rfl) | (intro k; rfl), show (∀ a : Nat, (hv (up3 (clr P 2 q16 none) 2 0 q16 (some o1)) [32] [] u18.2.1) 2 0 a = P 2 0 a) from by first | rfl | (intro k hk; rfl) | (intro k; rfl)⟩)) | exact Or.inr (Or.inr (Or.inr (⟨by omega, by omega, show (J 22 2 + 1).toInt = (J 22 2).toInt + 1 from by first | rfl | omega, show NOBJ I (up3 (up3 (up3 (clr I 2 q16 0) 2 1 q16 a1) 2 2 q16 a2) 2 3 q16 a3) E (up1 E 22 u18.2.2.1) P (hv (up3 (clr P 2 q16 none) 2 0 q16 (some o1)) [32] [] u18.2.1) 22 2 (J 22 2).toInt dy from by (exact ⟨fun k9 hk9 => hE18 k9 hk9, fun a9 ha9 f9 => (by have h9 : a9 ≠ q16 := hfr16 (2, a9) (List.mem_append_right _ ha9); show (up3 (up3 (up3 (clr I 2 q16 0) 2 1 q16 a1) 2 2 q16 a2) 2 3 q16 a3) 2 f9 a9 = I 2 f9 a9; exact (up3_a _ _ _ _ h9 _ _).trans ((up3_a _ _ _ _ h9 _ _).trans ((up3_a _ _ _ _ h9 _ _).trans (clr_o _ _ _ h9 _ _)))), fun j9 hj9 x9 hx9 => (by have e9 : j9 = (J 22 2).toNatClampNeg := (by have h8 := tcl (J 22 2); omega); rw [e9, hF9]; exact hfr16 x9 (List.mem_append_right _ hx9))⟩), show (∀ j : Nat, (j : Int) = (J 22 2).toInt → (up3 (up3 (up3 (clr I 2 q16 0) 2 1 q16 a1) 2 2 q16 a2) 2 3 q16 a3) 2 1 (elt (up1 E 22 u18.2.2.1) (hv (up3 (clr P 2 q16 none) 2 0 q16 (some o1)) [32] [] u18.2.1) 22 j) = a1 ∧ (up3 (up3 (up3 (clr I 2 q16 0) 2 1 q16 a1) 2 2 q16 a2) 2 3 q16 a3) 2 2 (elt (up1 E 22 u18.2.2.1) (hv (up3 (clr P 2 q16 none) 2 0 q16 (some o1)) [32] [] u18.2.1) 22 j) = a2 ∧ (up3 (up3 (up3 (clr I 2 q16 0) 2 1 q16 a1) 2 2 q16 a2) 2 3 q16 a3) 2 3 (elt (up1 E 22 u18.2.2.1) (hv (up3 (clr P 2 q16 none) 2 0 q16 (some o1)) [32] [] u18.2.1) 22 j) = a3 ∧ (up3 (up3 (up3 (clr I 2 q16 0) 2 1 q16 a1) 2 2 q16 a2) 2 3 q16 a3) 2 4 (elt (up1 E 22 u18.2.2.1) (hv (up3 (clr P 2 q16 none) 2 0 q16 (some o1)) [32] [] u18.2.1) 22 j) = 0) from by (intro j9 hj9; have e9 : j9 = (J 22 2).toNatClampNeg := (by have h8 := tcl (J 22 2); omega); rw [e9, hF9]; exact ⟨(show (up3 (clr I 2 q16 0) 2 1 q16 a1) 2 1 q16 = a1 from up3_s _ _ _ _ _), (show (up3 (up3 (clr I 2 q16 0) 2 1 q16 a1) 2 2 q16 a2) 2 2 q16 = a2 from up3_s _ _ _ _ _), (show (up3 (up3 (up3 (clr I 2 q16 0) 2 1 q16 a1) 2 2 q16 a2) 2 3 q16 a3) 2 3 q16 = a3 from up3_s _ _ _ _ _), (show (clr I 2 q16 0) 2 4 q16 = 0 from clr_s _ _ _ _ _)⟩), show (∀ j9 : Nat, (j9 : Int) = (J 22 2).toInt → (hv (up3 (clr P 2 q16 none) 2 0 q16 (some o1)) [32] [] u18.2.1) 2 0 (elt (up1 E 22 u18.2.2.1) (hv (up3 (clr P 2 q16 none) 2 0 q16 (some o1)) [32] [] u18.2.1) 22 j9) = some (elt E P 20 a0.toNatClampNeg)) from by (intro j9 hj9; have e9 : j9 = (J 22 2).toNatClampNeg := (by have h8 := tcl (J 22 2); omega); rw [e9, hF9]; exact (show (up3 (clr P 2 q16 none) 2 0 q16 (some o1)) 2 0 q16 = some o1 from up3_s _ _ _ _ _).trans (congrArg some ho1)), show (∀ a9 : Nat, (2, a9) ∈ dy → (hv (up3 (clr P 2 q16 none) 2 0 q16 (some o1)) [32] [] u18.2.1) 2 0 a9 = P 2 0 a9) from by (intro a9 ha9; have h9 : a9 ≠ q16 := hfr16 (2, a9) (List.mem_append_right _ ha9); show (up3 (clr P 2 q16 none) 2 0 q16 (some o1)) 2 0 a9 = P 2 0 a9; exact (up3_a _ _ _ _ h9 _ _).trans (clr_o _ _ _ h9 _ _))⟩))), hwr, fun x hx => hG18.1 x ((fun x hx => List.mem_append_left _ ((fun x hx => hx) x hx)) x hx), show ∀ x ∈ dy, u18.2.2.2.1 x.2 = N x.2 from by exact fun x hx => (hG18.2.2 x ((fun x hx => List.mem_append_left _ ((fun x hx => hx) x hx)) x hx)).trans ((fun _ _ => rfl) x hx)⟩ dX11_home_113
                · have c15 : 40 ≤ (J 22 2).toInt := tnlt rfl kp40 c15
                  refine lv_aload_n hx hb dX11_home_80 rfl (lv_at hl 2 rfl) ?_
                  refine lv_bipush (v := (-6)) hx hb dX11_home_81 (by decide) ?_
                  refine ci_ C hW (runV (x := (g.2.2.1 12)) (As := [.int (-6)]) (rest := []) (T := ((J, L, I, P, E, N), sgX g ++ dy)) C hW (c_X11_refuse l g J L I P E N dy H.size (-6) hwf) mi_X11_refuse tw_411 (recv_ (T := ((J, L, I, P, E, N), sgX g ++ dy)) C hW (mx_ rfl) rfl rfl) ⟨rfl, rfl, Nat.le_of_ble_eq_true rfl, Nat.le_of_ble_eq_true rfl⟩ rfl hl.1 rfl (Nat.le_of_ble_eq_true rfl) dX11_home_83 ⟨Nat.le_of_ble_eq_true rfl, Nat.le_of_ble_eq_true rfl⟩) (fun r19 u19 H locs hp19 hW => ?_)
                  have hc19 : ((r19 = (-6))) := hp19
                  clear hp19
                  have hr19 : r19.toInt = (-6) := by rw [hc19]; exact kn6
                  have hW : WB g A s.heap H locs ((hv J [42] [] u19), L, I, P, E, N) (sgX g ++ dy) := hW
                  have hJe : (hv J [42] [] u19) = hv J [42] [(22, 0), (22, 2)] (hv J [42] [] u19) := ag_hvE (J := J) (R := [42]) (F := [(22, 0), (22, 2)]) (ag_hv rfl rfl ag_rf)
                  have hIe : I = hv I [2] [] I := ag_hvE (J := I) (R := [2]) (F := []) ag_rf
                  have hPe : P = hv P [2, 32] [] P := ag_hvE (J := P) (R := [2, 32]) (F := []) ag_rf
                  have hEe : E = hv1 E [22] E := hv1_e (R := [22]) (fun _ _ => rfl)
                  have hWr : WB g A s.heap H locs (hv J [42] [(22, 0), (22, 2)] (hv J [42] [] u19), L, hv I [2] [] I, hv P [2, 32] [] P, hv1 E [22] E, N) (sgX g ++ dy) := by
                    rw [← hJe, ← hIe, ← hPe, ← hEe]; exact hW
                  have hwr : WXF g (hv J [42] [(22, 0), (22, 2)] (hv J [42] [] u19)) (hv P [2, 32] [] P) (hv1 E [22] E) N dy := by
                    rw [← hJe, ← hPe, ← hEe]; exact hwf
                  refine W.widen (k := 10) (n := 20100) (Nat.le_of_ble_eq_true rfl) (Nat.le_of_ble_eq_true rfl) ?_
                  subst hQ9
                  exact end_i C hr hlocks ((hv J [42] [] u19), I, P, E, N, dy) hWr ⟨by first | exact Or.inl ⟨by omega, by omega, show J 22 2 = J 22 2 from by first | rfl | (intro k hk; rfl) | (intro k; rfl), show (∀ k : Nat, elt E P 22 k = elt E P 22 k) from by first | rfl | (intro k hk; rfl) | (intro k; rfl), show I 2 = I 2 from by first | rfl | (intro k hk; rfl) | (intro k; rfl), show (∀ a : Nat, P 2 0 a = P 2 0 a) from by first | rfl | (intro k hk; rfl) | (intro k; rfl)⟩ | exact Or.inr (Or.inl ⟨by omega, by omega, show J 22 2 = J 22 2 from by first | rfl | (intro k hk; rfl) | (intro k; rfl), show (∀ k : Nat, elt E P 22 k = elt E P 22 k) from by first | rfl | (intro k hk; rfl) | (intro k; rfl), show I 2 = I 2 from by first | rfl | (intro k hk; rfl) | (intro k; rfl), show (∀ a : Nat, P 2 0 a = P 2 0 a) from by first | rfl | (intro k hk; rfl) | (intro k; rfl)⟩) | exact Or.inr (Or.inr (Or.inl ⟨by omega, by omega, show J 22 2 = J 22 2 from by first | rfl | (intro k hk; rfl) | (intro k; rfl), show (∀ k : Nat, elt E P 22 k = elt E P 22 k) from by first | rfl | (intro k hk; rfl) | (intro k; rfl), show I 2 = I 2 from by first | rfl | (intro k hk; rfl) | (intro k; rfl), show (∀ a : Nat, P 2 0 a = P 2 0 a) from by first | rfl | (intro k hk; rfl) | (intro k; rfl)⟩)) | exact Or.inr (Or.inr (Or.inr (⟨by omega, by omega, show (J 22 2).toInt = (J 22 2).toInt + 1 from by first | rfl | omega | assumption, show NOBJ I I E E P P 22 2 (J 22 2).toInt dy from by first | rfl | omega | assumption, show (∀ j : Nat, (j : Int) = (J 22 2).toInt → I 2 1 (elt E P 22 j) = a1 ∧ I 2 2 (elt E P 22 j) = a2 ∧ I 2 3 (elt E P 22 j) = a3 ∧ I 2 4 (elt E P 22 j) = 0) from by first | rfl | omega | assumption, show (∀ j9 : Nat, (j9 : Int) = (J 22 2).toInt → P 2 0 (elt E P 22 j9) = some (elt E P 20 a0.toNatClampNeg)) from by first | rfl | omega | assumption, show (∀ a9 : Nat, (2, a9) ∈ dy → P 2 0 a9 = P 2 0 a9) from by first | rfl | omega | assumption⟩))), hwr, fun x hx => hx, show ∀ x ∈ dy, N x.2 = N x.2 from by exact fun _ _ => rfl⟩ dX11_home_86
        · have c7 : a3.toInt < 0 := tnle kp0 rfl c7
          refine lv_aload_n hx hb dX11_home_35 rfl (lv_at hl 1 rfl) ?_
          refine lv_bipush (v := (-4)) hx hb dX11_home_36 (by decide) ?_
          refine ci_ C hW (runV (x := (g.2.2.1 12)) (As := [.int (-4)]) (rest := []) (T := ((J, L, I, P, E, N), sgX g ++ dy)) C hW (c_X11_refuse l g J L I P E N dy H.size (-4) hwf) mi_X11_refuse tw_411 (recv_ (T := ((J, L, I, P, E, N), sgX g ++ dy)) C hW (mx_ rfl) rfl rfl) ⟨rfl, rfl, Nat.le_of_ble_eq_true rfl, Nat.le_of_ble_eq_true rfl⟩ rfl hl.1 rfl (Nat.le_of_ble_eq_true rfl) dX11_home_38 ⟨Nat.le_of_ble_eq_true rfl, Nat.le_of_ble_eq_true rfl⟩) (fun r20 u20 H locs hp20 hW => ?_)
          have hc20 : ((r20 = (-4))) := hp20
          clear hp20
          have hr20 : r20.toInt = (-4) := by rw [hc20]; exact kn4
          have hW : WB g A s.heap H locs ((hv J [42] [] u20), L, I, P, E, N) (sgX g ++ dy) := hW
          have hJe : (hv J [42] [] u20) = hv J [42] [(22, 0), (22, 2)] (hv J [42] [] u20) := ag_hvE (J := J) (R := [42]) (F := [(22, 0), (22, 2)]) (ag_hv rfl rfl ag_rf)
          have hIe : I = hv I [2] [] I := ag_hvE (J := I) (R := [2]) (F := []) ag_rf
          have hPe : P = hv P [2, 32] [] P := ag_hvE (J := P) (R := [2, 32]) (F := []) ag_rf
          have hEe : E = hv1 E [22] E := hv1_e (R := [22]) (fun _ _ => rfl)
          have hWr : WB g A s.heap H locs (hv J [42] [(22, 0), (22, 2)] (hv J [42] [] u20), L, hv I [2] [] I, hv P [2, 32] [] P, hv1 E [22] E, N) (sgX g ++ dy) := by
            rw [← hJe, ← hIe, ← hPe, ← hEe]; exact hW
          have hwr : WXF g (hv J [42] [(22, 0), (22, 2)] (hv J [42] [] u20)) (hv P [2, 32] [] P) (hv1 E [22] E) N dy := by
            rw [← hJe, ← hPe, ← hEe]; exact hwf
          refine W.widen (k := 10) (n := 20100) (Nat.le_of_ble_eq_true rfl) (Nat.le_of_ble_eq_true rfl) ?_
          subst hQ9
          exact end_i C hr hlocks ((hv J [42] [] u20), I, P, E, N, dy) hWr ⟨by first | exact Or.inl ⟨by omega, by omega, show J 22 2 = J 22 2 from by first | rfl | (intro k hk; rfl) | (intro k; rfl), show (∀ k : Nat, elt E P 22 k = elt E P 22 k) from by first | rfl | (intro k hk; rfl) | (intro k; rfl), show I 2 = I 2 from by first | rfl | (intro k hk; rfl) | (intro k; rfl), show (∀ a : Nat, P 2 0 a = P 2 0 a) from by first | rfl | (intro k hk; rfl) | (intro k; rfl)⟩ | exact Or.inr (Or.inl ⟨by omega, by omega, show J 22 2 = J 22 2 from by first | rfl | (intro k hk; rfl) | (intro k; rfl), show (∀ k : Nat, elt E P 22 k = elt E P 22 k) from by first | rfl | (intro k hk; rfl) | (intro k; rfl), show I 2 = I 2 from by first | rfl | (intro k hk; rfl) | (intro k; rfl), show (∀ a : Nat, P 2 0 a = P 2 0 a) from by first | rfl | (intro k hk; rfl) | (intro k; rfl)⟩) | exact Or.inr (Or.inr (Or.inl ⟨by omega, by omega, show J 22 2 = J 22 2 from by first | rfl | (intro k hk; rfl) | (intro k; rfl), show (∀ k : Nat, elt E P 22 k = elt E P 22 k) from by first | rfl | (intro k hk; rfl) | (intro k; rfl), show I 2 = I 2 from by first | rfl | (intro k hk; rfl) | (intro k; rfl), show (∀ a : Nat, P 2 0 a = P 2 0 a) from by first | rfl | (intro k hk; rfl) | (intro k; rfl)⟩)) | exact Or.inr (Or.inr (Or.inr (⟨by omega, by omega, show (J 22 2).toInt = (J 22 2).toInt + 1 from by first | rfl | omega | assumption, show NOBJ I I E E P P 22 2 (J 22 2).toInt dy from by first | rfl | omega | assumption, show (∀ j : Nat, (j : Int) = (J 22 2).toInt → I 2 1 (elt E P 22 j) = a1 ∧ I 2 2 (elt E P 22 j) = a2 ∧ I 2 3 (elt E P 22 j) = a3 ∧ I 2 4 (elt E P 22 j) = 0) from by first | rfl | omega | assumption, show (∀ j9 : Nat, (j9 : Int) = (J 22 2).toInt → P 2 0 (elt E P 22 j9) = some (elt E P 20 a0.toNatClampNeg)) from by first | rfl | omega | assumption, show (∀ a9 : Nat, (2, a9) ∈ dy → P 2 0 a9 = P 2 0 a9) from by first | rfl | omega | assumption⟩))), hwr, fun x hx => hx, show ∀ x ∈ dy, N x.2 = N x.2 from by exact fun _ _ => rfl⟩ dX11_home_41

set_option maxHeartbeats 4000000 in
set_option maxRecDepth 100000 in
theorem c_X11_cut_p_p (l : Launch) (g : gG) (J : Nat → Nat → Int32) (L : Nat → Nat → Int64) (I : Nat → Nat → Nat → Int32) (P : Nat → Nat → Nat → Option Nat) (E : Nat → Option Nat) (N : Nat → Nat) (dy : List (Nat × Nat)) (sz : Nat) (a0 : Int32) (a1 : Int32) (a2 : Int32) (hwf : WXF g J P E N dy) (hnt : NTR (P 6 0) (elt E P 20) (J 101) (J 20 2).toInt) : Met l yX11_cut (WS yX11_cut cX11_cut 5 (some .int)) (RM (8) 10 20100) (PC g [.ref (g.2.2.1 12), .int a0, .int a1, .int a2] ((J, L, I, P, E, N), sgX g ++ dy) sz) (va_Qi (fun (r : Int32) (u : (Nat → Nat → Int32) × (Nat → Nat → Nat → Int32) × (Nat → Nat → Nat → Option Nat) × (Nat → Option Nat) × (Nat → Nat) × List (Nat × Nat)) => ((r.toInt = (-1) ∧ (¬ (1 ≤ a0.toInt ∧ a0.toInt < (J 20 2).toInt)) ∧ u.1 21 2 = J 21 2 ∧ (∀ k : Nat, elt (hv1 E [21] u.2.2.2.1) (hv P [1, 31] [] u.2.2.1) 21 k = elt E P 21 k) ∧ u.2.1 1 = I 1 ∧ (∀ a : Nat, (hv P [1, 31] [] u.2.2.1) 1 0 a = P 1 0 a)) ∨ (r.toInt = (-4) ∧ (1 ≤ a0.toInt ∧ a0.toInt < (J 20 2).toInt ∧ (a1.toInt < (J 3 1).toInt ∨ a2.toInt < a1.toInt)) ∧ u.1 21 2 = J 21 2 ∧ (∀ k : Nat, elt (hv1 E [21] u.2.2.2.1) (hv P [1, 31] [] u.2.2.1) 21 k = elt E P 21 k) ∧ u.2.1 1 = I 1 ∧ (∀ a : Nat, (hv P [1, 31] [] u.2.2.1) 1 0 a = P 1 0 a)) ∨ (r.toInt = (-6) ∧ (1 ≤ a0.toInt ∧ a0.toInt < (J 20 2).toInt ∧ (J 3 1).toInt ≤ a1.toInt ∧ a1.toInt ≤ a2.toInt ∧ (9999 < a2.toInt ∨ 40 ≤ (J 21 2).toInt)) ∧ u.1 21 2 = J 21 2 ∧ (∀ k : Nat, elt (hv1 E [21] u.2.2.2.1) (hv P [1, 31] [] u.2.2.1) 21 k = elt E P 21 k) ∧ u.2.1 1 = I 1 ∧ (∀ a : Nat, (hv P [1, 31] [] u.2.2.1) 1 0 a = P 1 0 a)) ∨ (r.toInt = (J 21 2).toInt + 1 ∧ (1 ≤ a0.toInt ∧ a0.toInt < (J 20 2).toInt ∧ (J 3 1).toInt ≤ a1.toInt ∧ a1.toInt ≤ a2.toInt ∧ a2.toInt ≤ 9999 ∧ (J 21 2).toInt ≤ 39) ∧ (u.1 21 2).toInt = (J 21 2).toInt + 1 ∧ NOBJ I u.2.1 E (hv1 E [21] u.2.2.2.1) P (hv P [1, 31] [] u.2.2.1) 21 1 (J 21 2).toInt dy ∧ (∀ j : Nat, (j : Int) = (J 21 2).toInt → u.2.1 1 1 (elt (hv1 E [21] u.2.2.2.1) (hv P [1, 31] [] u.2.2.1) 21 j) = a1 ∧ u.2.1 1 2 (elt (hv1 E [21] u.2.2.2.1) (hv P [1, 31] [] u.2.2.1) 21 j) = a2) ∧ (∀ j9 : Nat, (j9 : Int) = (J 21 2).toInt → (hv P [1, 31] [] u.2.2.1) 1 0 (elt (hv1 E [21] u.2.2.2.1) (hv P [1, 31] [] u.2.2.1) 21 j9) = some (elt E P 20 a0.toNatClampNeg)) ∧ (∀ a9 : Nat, (1, a9) ∈ dy → (hv P [1, 31] [] u.2.2.1) 1 0 a9 = P 1 0 a9))) ∧ WXF g (hv J [42] [(21, 0), (21, 2)] u.1) (hv P [1, 31] [] u.2.2.1) (hv1 E [21] u.2.2.2.1) u.2.2.2.2.1 u.2.2.2.2.2 ∧ (∀ x ∈ dy, x ∈ u.2.2.2.2.2) ∧ (∀ x ∈ dy, u.2.2.2.2.1 x.2 = N x.2)) (fun u t => at_ g (FR g ((J, L, I, P, E, N), sgX g ++ dy) sz) ((((hv J [42] [(21, 0), (21, 2)] u.1), L, (hv I [1] [] u.2.1), (hv P [1, 31] [] u.2.2.1), (hv1 E [21] u.2.2.2.1), u.2.2.2.2.1), sgX g ++ u.2.2.2.2.2)) t) (FR g ((J, L, I, P, E, N), sgX g ++ dy) sz)) 10 20100 (FR g ((J, L, I, P, E, N), sgX g ++ dy) sz) := by
  refine ent (by decide +kernel) (Nat.le_of_ble_eq_true rfl) ?_
  intro p e s m below meth c ls hsz C hW hr hlocks hname hl
  generalize FR g ((J, L, I, P, E, N), sgX g ++ dy) sz = A at C hW ⊢
  generalize hQ9 : (va_Qi (fun (r : Int32) (u : (Nat → Nat → Int32) × (Nat → Nat → Nat → Int32) × (Nat → Nat → Nat → Option Nat) × (Nat → Option Nat) × (Nat → Nat) × List (Nat × Nat)) => ((r.toInt = (-1) ∧ (¬ (1 ≤ a0.toInt ∧ a0.toInt < (J 20 2).toInt)) ∧ u.1 21 2 = J 21 2 ∧ (∀ k : Nat, elt (hv1 E [21] u.2.2.2.1) (hv P [1, 31] [] u.2.2.1) 21 k = elt E P 21 k) ∧ u.2.1 1 = I 1 ∧ (∀ a : Nat, (hv P [1, 31] [] u.2.2.1) 1 0 a = P 1 0 a)) ∨ (r.toInt = (-4) ∧ (1 ≤ a0.toInt ∧ a0.toInt < (J 20 2).toInt ∧ (a1.toInt < (J 3 1).toInt ∨ a2.toInt < a1.toInt)) ∧ u.1 21 2 = J 21 2 ∧ (∀ k : Nat, elt (hv1 E [21] u.2.2.2.1) (hv P [1, 31] [] u.2.2.1) 21 k = elt E P 21 k) ∧ u.2.1 1 = I 1 ∧ (∀ a : Nat, (hv P [1, 31] [] u.2.2.1) 1 0 a = P 1 0 a)) ∨ (r.toInt = (-6) ∧ (1 ≤ a0.toInt ∧ a0.toInt < (J 20 2).toInt ∧ (J 3 1).toInt ≤ a1.toInt ∧ a1.toInt ≤ a2.toInt ∧ (9999 < a2.toInt ∨ 40 ≤ (J 21 2).toInt)) ∧ u.1 21 2 = J 21 2 ∧ (∀ k : Nat, elt (hv1 E [21] u.2.2.2.1) (hv P [1, 31] [] u.2.2.1) 21 k = elt E P 21 k) ∧ u.2.1 1 = I 1 ∧ (∀ a : Nat, (hv P [1, 31] [] u.2.2.1) 1 0 a = P 1 0 a)) ∨ (r.toInt = (J 21 2).toInt + 1 ∧ (1 ≤ a0.toInt ∧ a0.toInt < (J 20 2).toInt ∧ (J 3 1).toInt ≤ a1.toInt ∧ a1.toInt ≤ a2.toInt ∧ a2.toInt ≤ 9999 ∧ (J 21 2).toInt ≤ 39) ∧ (u.1 21 2).toInt = (J 21 2).toInt + 1 ∧ NOBJ I u.2.1 E (hv1 E [21] u.2.2.2.1) P (hv P [1, 31] [] u.2.2.1) 21 1 (J 21 2).toInt dy ∧ (∀ j : Nat, (j : Int) = (J 21 2).toInt → u.2.1 1 1 (elt (hv1 E [21] u.2.2.2.1) (hv P [1, 31] [] u.2.2.1) 21 j) = a1 ∧ u.2.1 1 2 (elt (hv1 E [21] u.2.2.2.1) (hv P [1, 31] [] u.2.2.1) 21 j) = a2) ∧ (∀ j9 : Nat, (j9 : Int) = (J 21 2).toInt → (hv P [1, 31] [] u.2.2.1) 1 0 (elt (hv1 E [21] u.2.2.2.1) (hv P [1, 31] [] u.2.2.1) 21 j9) = some (elt E P 20 a0.toNatClampNeg)) ∧ (∀ a9 : Nat, (1, a9) ∈ dy → (hv P [1, 31] [] u.2.2.1) 1 0 a9 = P 1 0 a9))) ∧ WXF g (hv J [42] [(21, 0), (21, 2)] u.1) (hv P [1, 31] [] u.2.2.1) (hv1 E [21] u.2.2.2.1) u.2.2.2.2.1 u.2.2.2.2.2 ∧ (∀ x ∈ dy, x ∈ u.2.2.2.2.2) ∧ (∀ x ∈ dy, u.2.2.2.2.1 x.2 = N x.2)) (fun u t => at_ g A ((((hv J [42] [(21, 0), (21, 2)] u.1), L, (hv I [1] [] u.2.1), (hv P [1, 31] [] u.2.2.1), (hv1 E [21] u.2.2.2.1), u.2.2.2.2.1), sgX g ++ u.2.2.2.2.2)) t) A) = Q9
  have hx := C.1.1
  have hb := C.1.2.1
  have hts := C.1.2.2.2.2
  have hl : lv_has ls 5 [(0, .ref (g.2.2.1 12)), (1, .int a0), (2, .int a1), (3, .int a2)] := hl
  obtain ⟨H, hH⟩ : ∃ H : Heap, H = s.heap := ⟨_, rfl⟩
  obtain ⟨locs, hlocs⟩ : ∃ q : List Loc, q = [] := ⟨_, rfl⟩
  have hW : WB g A s.heap H locs (J, L, I, P, E, N) (sgX g ++ dy) := by rw [hH, hlocs]; exact hW
  refine start_ hH hlocs ?_
  refine lv_aload_n hx hb dX11_cut_0 rfl (lv_at hl 0 rfl) ?_
  refine rg_12_0 C hW (mx_ rfl) tw_364 dX11_cut_1 ?_
  refine lv_iload_n hx hb dX11_cut_4 rfl (lv_at hl 1 rfl) ?_
  refine cq_ C hW (runV (x := (g.2.2.1 4)) (As := [.int a0]) (rest := []) (T := ((J, L, I, P, E, N), sgX g ++ dy)) C hW (c_X3_nodeOf l g J L I P E N dy H.size a0 hwf) mi_X3_nodeOf tw_463 (recv_ (T := ((J, L, I, P, E, N), sgX g ++ dy)) C hW (mx_ rfl) rfl rfl) ⟨rfl, rfl, Nat.le_of_ble_eq_true rfl, Nat.le_of_ble_eq_true rfl⟩ rfl hl.1 rfl (Nat.le_of_ble_eq_true rfl) dX11_cut_5 ⟨Nat.le_of_ble_eq_true rfl, Nat.le_of_ble_eq_true rfl⟩) (fun q1 u1 H locs hp1 hW => ?_)
  have hq1 : ((q1 = none ∧ (¬ (0 ≤ a0.toInt ∧ a0.toInt < (J 20 2).toInt))) ∨ (q1 = some (elt E P 20 a0.toNatClampNeg) ∧ (0 ≤ a0.toInt ∧ a0.toInt < (J 20 2).toInt))) := hp1
  clear hp1
  have hW : WB g A s.heap H locs (J, L, I, P, E, N) (sgX g ++ dy) := hW
  rcases hq1 with ⟨rfl, hn1⟩ | ⟨rfl, hs1⟩
  · refine lv_asv (v' := .null) rfl ?_
    refine lv_astoreN (lv' := [(4, .null), (0, .ref (g.2.2.1 12)), (1, .int a0), (2, .int a1), (3, .int a2)]) hx hb dX11_cut_8 hl (by decide) rfl (fun ls hl => ?_)
    refine lv_aloadN hx hb dX11_cut_10 (lv_at hl 0 rfl) ?_
    refine lv_ifnullN (tgt := 23) hx hb dX11_cut_12 (by decide) ?_
    refine lv_aload_n hx hb dX11_cut_23 rfl (lv_at hl 1 rfl) ?_
    refine lv_iconst (v := (-1)) hx hb dX11_cut_24 (by decide) ?_
    refine ci_ C hW (runV (x := (g.2.2.1 12)) (As := [.int (-1)]) (rest := []) (T := ((J, L, I, P, E, N), sgX g ++ dy)) C hW (c_X11_refuse l g J L I P E N dy H.size (-1) hwf) mi_X11_refuse tw_411 (recv_ (T := ((J, L, I, P, E, N), sgX g ++ dy)) C hW (mx_ rfl) rfl rfl) ⟨rfl, rfl, Nat.le_of_ble_eq_true rfl, Nat.le_of_ble_eq_true rfl⟩ rfl hl.1 rfl (Nat.le_of_ble_eq_true rfl) dX11_cut_25 ⟨Nat.le_of_ble_eq_true rfl, Nat.le_of_ble_eq_true rfl⟩) (fun r2 u2 H locs hp2 hW => ?_)
    have hc2 : ((r2 = (-1))) := hp2
    clear hp2
    have hr2 : r2.toInt = (-1) := by rw [hc2]; exact kn1
    have hW : WB g A s.heap H locs ((hv J [42] [] u2), L, I, P, E, N) (sgX g ++ dy) := hW
    have hJe : (hv J [42] [] u2) = hv J [42] [(21, 0), (21, 2)] (hv J [42] [] u2) := ag_hvE (J := J) (R := [42]) (F := [(21, 0), (21, 2)]) (ag_hv rfl rfl ag_rf)
    have hIe : I = hv I [1] [] I := ag_hvE (J := I) (R := [1]) (F := []) ag_rf
    have hPe : P = hv P [1, 31] [] P := ag_hvE (J := P) (R := [1, 31]) (F := []) ag_rf
    have hEe : E = hv1 E [21] E := hv1_e (R := [21]) (fun _ _ => rfl)
    have hWr : WB g A s.heap H locs (hv J [42] [(21, 0), (21, 2)] (hv J [42] [] u2), L, hv I [1] [] I, hv P [1, 31] [] P, hv1 E [21] E, N) (sgX g ++ dy) := by
      rw [← hJe, ← hIe, ← hPe, ← hEe]; exact hW
    have hwr : WXF g (hv J [42] [(21, 0), (21, 2)] (hv J [42] [] u2)) (hv P [1, 31] [] P) (hv1 E [21] E) N dy := by
      rw [← hJe, ← hPe, ← hEe]; exact hwf
    refine W.widen (k := 10) (n := 20100) (Nat.le_of_ble_eq_true rfl) (Nat.le_of_ble_eq_true rfl) ?_
    subst hQ9
    exact end_i C hr hlocks ((hv J [42] [] u2), I, P, E, N, dy) hWr ⟨by first | exact Or.inl ⟨by omega, by omega, show J 21 2 = J 21 2 from by first | rfl | (intro k hk; rfl) | (intro k; rfl), show (∀ k : Nat, elt E P 21 k = elt E P 21 k) from by first | rfl | (intro k hk; rfl) | (intro k; rfl), show I 1 = I 1 from by first | rfl | (intro k hk; rfl) | (intro k; rfl), show (∀ a : Nat, P 1 0 a = P 1 0 a) from by first | rfl | (intro k hk; rfl) | (intro k; rfl)⟩ | exact Or.inr (Or.inl ⟨by omega, by omega, show J 21 2 = J 21 2 from by first | rfl | (intro k hk; rfl) | (intro k; rfl), show (∀ k : Nat, elt E P 21 k = elt E P 21 k) from by first | rfl | (intro k hk; rfl) | (intro k; rfl), show I 1 = I 1 from by first | rfl | (intro k hk; rfl) | (intro k; rfl), show (∀ a : Nat, P 1 0 a = P 1 0 a) from by first | rfl | (intro k hk; rfl) | (intro k; rfl)⟩) | exact Or.inr (Or.inr (Or.inl ⟨by omega, by omega, show J 21 2 = J 21 2 from by first | rfl | (intro k hk; rfl) | (intro k; rfl), show (∀ k : Nat, elt E P 21 k = elt E P 21 k) from by first | rfl | (intro k hk; rfl) | (intro k; rfl), show I 1 = I 1 from by first | rfl | (intro k hk; rfl) | (intro k; rfl), show (∀ a : Nat, P 1 0 a = P 1 0 a) from by first | rfl | (intro k hk; rfl) | (intro k; rfl)⟩)) | exact Or.inr (Or.inr (Or.inr (⟨by omega, by omega, show (J 21 2).toInt = (J 21 2).toInt + 1 from by first | rfl | omega | assumption, show NOBJ I I E E P P 21 1 (J 21 2).toInt dy from by first | rfl | omega | assumption, show (∀ j : Nat, (j : Int) = (J 21 2).toInt → I 1 1 (elt E P 21 j) = a1 ∧ I 1 2 (elt E P 21 j) = a2) from by first | rfl | omega | assumption, show (∀ j9 : Nat, (j9 : Int) = (J 21 2).toInt → P 1 0 (elt E P 21 j9) = some (elt E P 20 a0.toNatClampNeg)) from by first | rfl | omega | assumption, show (∀ a9 : Nat, (1, a9) ∈ dy → P 1 0 a9 = P 1 0 a9) from by first | rfl | omega | assumption⟩))), hwr, fun x hx => hx, show ∀ x ∈ dy, N x.2 = N x.2 from by exact fun _ _ => rfl⟩ dX11_cut_28
  · skip
    obtain ⟨o1, ho1⟩ : ∃ z : Nat, z = elt E P 20 a0.toNatClampNeg := ⟨_, rfl⟩
    have hm1 : (6, o1) ∈ dy := by rw [ho1]; exact (lw_mem (er := 6) hwf.1.1 (show (a0.toNatClampNeg : Int) < (J 20 2).toInt from by have := tcl a0; omega))
    refine lv_asv (v' := .ref o1) (by rw [ho1]; rfl) ?_
    refine lv_astore (lv' := [(4, .ref o1), (0, .ref (g.2.2.1 12)), (1, .int a0), (2, .int a1), (3, .int a2)]) hx hb dX11_cut_8 hl (by decide) rfl (fun ls hl => ?_)
    refine lv_aload hx hb dX11_cut_10 (lv_at hl 0 rfl) ?_
    refine lv_ifnull hx hb dX11_cut_12 ?_
    refine lv_aload hx hb dX11_cut_15 (lv_at hl 0 rfl) ?_
    refine rg_6_0 C hW (List.mem_append_right _ hm1) tw_138 dX11_cut_17 ?_
    rcases hwf.2.2.1 o1 hm1 with hb3 | ⟨b3, hb3, hbm3⟩
    · refine lv_asv (v' := .null) (by show va_rf (P 6 0 o1) = _; rw [hb3]; rfl) ?_
      have hz0 : a0.toInt = 0 := (by have h7 := nt_none hnt ho1 (by have h8 := tcl a0; omega) hb3; have h8 := tcl a0; omega)
      refine lv_ifnonnullN hx hb dX11_cut_20 ?_
      refine lv_aload_n hx hb dX11_cut_23 rfl (lv_at hl 1 rfl) ?_
      refine lv_iconst (v := (-1)) hx hb dX11_cut_24 (by decide) ?_
      refine ci_ C hW (runV (x := (g.2.2.1 12)) (As := [.int (-1)]) (rest := []) (T := ((J, L, I, P, E, N), sgX g ++ dy)) C hW (c_X11_refuse l g J L I P E N dy H.size (-1) hwf) mi_X11_refuse tw_411 (recv_ (T := ((J, L, I, P, E, N), sgX g ++ dy)) C hW (mx_ rfl) rfl rfl) ⟨rfl, rfl, Nat.le_of_ble_eq_true rfl, Nat.le_of_ble_eq_true rfl⟩ rfl hl.1 rfl (Nat.le_of_ble_eq_true rfl) dX11_cut_25 ⟨Nat.le_of_ble_eq_true rfl, Nat.le_of_ble_eq_true rfl⟩) (fun r4 u4 H locs hp4 hW => ?_)
      have hc4 : ((r4 = (-1))) := hp4
      clear hp4
      have hr4 : r4.toInt = (-1) := by rw [hc4]; exact kn1
      have hW : WB g A s.heap H locs ((hv J [42] [] u4), L, I, P, E, N) (sgX g ++ dy) := hW
      have hJe : (hv J [42] [] u4) = hv J [42] [(21, 0), (21, 2)] (hv J [42] [] u4) := ag_hvE (J := J) (R := [42]) (F := [(21, 0), (21, 2)]) (ag_hv rfl rfl ag_rf)
      have hIe : I = hv I [1] [] I := ag_hvE (J := I) (R := [1]) (F := []) ag_rf
      have hPe : P = hv P [1, 31] [] P := ag_hvE (J := P) (R := [1, 31]) (F := []) ag_rf
      have hEe : E = hv1 E [21] E := hv1_e (R := [21]) (fun _ _ => rfl)
      have hWr : WB g A s.heap H locs (hv J [42] [(21, 0), (21, 2)] (hv J [42] [] u4), L, hv I [1] [] I, hv P [1, 31] [] P, hv1 E [21] E, N) (sgX g ++ dy) := by
        rw [← hJe, ← hIe, ← hPe, ← hEe]; exact hW
      have hwr : WXF g (hv J [42] [(21, 0), (21, 2)] (hv J [42] [] u4)) (hv P [1, 31] [] P) (hv1 E [21] E) N dy := by
        rw [← hJe, ← hPe, ← hEe]; exact hwf
      refine W.widen (k := 10) (n := 20100) (Nat.le_of_ble_eq_true rfl) (Nat.le_of_ble_eq_true rfl) ?_
      subst hQ9
      exact end_i C hr hlocks ((hv J [42] [] u4), I, P, E, N, dy) hWr ⟨by first | exact Or.inl ⟨by omega, by omega, show J 21 2 = J 21 2 from by first | rfl | (intro k hk; rfl) | (intro k; rfl), show (∀ k : Nat, elt E P 21 k = elt E P 21 k) from by first | rfl | (intro k hk; rfl) | (intro k; rfl), show I 1 = I 1 from by first | rfl | (intro k hk; rfl) | (intro k; rfl), show (∀ a : Nat, P 1 0 a = P 1 0 a) from by first | rfl | (intro k hk; rfl) | (intro k; rfl)⟩ | exact Or.inr (Or.inl ⟨by omega, by omega, show J 21 2 = J 21 2 from by first | rfl | (intro k hk; rfl) | (intro k; rfl), show (∀ k : Nat, elt E P 21 k = elt E P 21 k) from by first | rfl | (intro k hk; rfl) | (intro k; rfl), show I 1 = I 1 from by first | rfl | (intro k hk; rfl) | (intro k; rfl), show (∀ a : Nat, P 1 0 a = P 1 0 a) from by first | rfl | (intro k hk; rfl) | (intro k; rfl)⟩) | exact Or.inr (Or.inr (Or.inl ⟨by omega, by omega, show J 21 2 = J 21 2 from by first | rfl | (intro k hk; rfl) | (intro k; rfl), show (∀ k : Nat, elt E P 21 k = elt E P 21 k) from by first | rfl | (intro k hk; rfl) | (intro k; rfl), show I 1 = I 1 from by first | rfl | (intro k hk; rfl) | (intro k; rfl), show (∀ a : Nat, P 1 0 a = P 1 0 a) from by first | rfl | (intro k hk; rfl) | (intro k; rfl)⟩)) | exact Or.inr (Or.inr (Or.inr (⟨by omega, by omega, show (J 21 2).toInt = (J 21 2).toInt + 1 from by first | rfl | omega | assumption, show NOBJ I I E E P P 21 1 (J 21 2).toInt dy from by first | rfl | omega | assumption, show (∀ j : Nat, (j : Int) = (J 21 2).toInt → I 1 1 (elt E P 21 j) = a1 ∧ I 1 2 (elt E P 21 j) = a2) from by first | rfl | omega | assumption, show (∀ j9 : Nat, (j9 : Int) = (J 21 2).toInt → P 1 0 (elt E P 21 j9) = some (elt E P 20 a0.toNatClampNeg)) from by first | rfl | omega | assumption, show (∀ a9 : Nat, (1, a9) ∈ dy → P 1 0 a9 = P 1 0 a9) from by first | rfl | omega | assumption⟩))), hwr, fun x hx => hx, show ∀ x ∈ dy, N x.2 = N x.2 from by exact fun _ _ => rfl⟩ dX11_cut_28
    · refine lv_asv (v' := .ref b3) (by show va_rf (P 6 0 o1) = _; rw [hb3]; rfl) ?_
      have hz0 : 1 ≤ a0.toInt := (by have h7 := nt_some hnt ho1 (by have h8 := tcl a0; omega) hb3; have h8 := tcl a0; omega)
      refine lv_ifnonnull (tgt := 29) hx hb dX11_cut_20 (by decide) ?_
      refine lv_iload_n hx hb dX11_cut_29 rfl (lv_at hl 3 rfl) ?_
      refine lv_aload_n hx hb dX11_cut_30 rfl (lv_at hl 1 rfl) ?_
      refine rg_12_1 C hW (mx_ rfl) tw_365 dX11_cut_31 ?_
      refine rg_3_1 C hW (mx_ rfl) tw_278 dX11_cut_34 ?_
      refine lv_icmp_lt (tgt := 45) hx hb dX11_cut_37 (by decide) (fun c5 => ?_) (fun c5 => ?_)
      · have c5 : a1.toInt < (J 3 1).toInt := tlt rfl rfl c5
        refine lv_aload_n hx hb dX11_cut_45 rfl (lv_at hl 1 rfl) ?_
        refine lv_bipush (v := (-4)) hx hb dX11_cut_46 (by decide) ?_
        refine ci_ C hW (runV (x := (g.2.2.1 12)) (As := [.int (-4)]) (rest := []) (T := ((J, L, I, P, E, N), sgX g ++ dy)) C hW (c_X11_refuse l g J L I P E N dy H.size (-4) hwf) mi_X11_refuse tw_411 (recv_ (T := ((J, L, I, P, E, N), sgX g ++ dy)) C hW (mx_ rfl) rfl rfl) ⟨rfl, rfl, Nat.le_of_ble_eq_true rfl, Nat.le_of_ble_eq_true rfl⟩ rfl hl.1 rfl (Nat.le_of_ble_eq_true rfl) dX11_cut_48 ⟨Nat.le_of_ble_eq_true rfl, Nat.le_of_ble_eq_true rfl⟩) (fun r6 u6 H locs hp6 hW => ?_)
        have hc6 : ((r6 = (-4))) := hp6
        clear hp6
        have hr6 : r6.toInt = (-4) := by rw [hc6]; exact kn4
        have hW : WB g A s.heap H locs ((hv J [42] [] u6), L, I, P, E, N) (sgX g ++ dy) := hW
        have hJe : (hv J [42] [] u6) = hv J [42] [(21, 0), (21, 2)] (hv J [42] [] u6) := ag_hvE (J := J) (R := [42]) (F := [(21, 0), (21, 2)]) (ag_hv rfl rfl ag_rf)
        have hIe : I = hv I [1] [] I := ag_hvE (J := I) (R := [1]) (F := []) ag_rf
        have hPe : P = hv P [1, 31] [] P := ag_hvE (J := P) (R := [1, 31]) (F := []) ag_rf
        have hEe : E = hv1 E [21] E := hv1_e (R := [21]) (fun _ _ => rfl)
        have hWr : WB g A s.heap H locs (hv J [42] [(21, 0), (21, 2)] (hv J [42] [] u6), L, hv I [1] [] I, hv P [1, 31] [] P, hv1 E [21] E, N) (sgX g ++ dy) := by
          rw [← hJe, ← hIe, ← hPe, ← hEe]; exact hW
        have hwr : WXF g (hv J [42] [(21, 0), (21, 2)] (hv J [42] [] u6)) (hv P [1, 31] [] P) (hv1 E [21] E) N dy := by
          rw [← hJe, ← hPe, ← hEe]; exact hwf
        refine W.widen (k := 10) (n := 20100) (Nat.le_of_ble_eq_true rfl) (Nat.le_of_ble_eq_true rfl) ?_
        subst hQ9
        exact end_i C hr hlocks ((hv J [42] [] u6), I, P, E, N, dy) hWr ⟨by first | exact Or.inl ⟨by omega, by omega, show J 21 2 = J 21 2 from by first | rfl | (intro k hk; rfl) | (intro k; rfl), show (∀ k : Nat, elt E P 21 k = elt E P 21 k) from by first | rfl | (intro k hk; rfl) | (intro k; rfl), show I 1 = I 1 from by first | rfl | (intro k hk; rfl) | (intro k; rfl), show (∀ a : Nat, P 1 0 a = P 1 0 a) from by first | rfl | (intro k hk; rfl) | (intro k; rfl)⟩ | exact Or.inr (Or.inl ⟨by omega, by omega, show J 21 2 = J 21 2 from by first | rfl | (intro k hk; rfl) | (intro k; rfl), show (∀ k : Nat, elt E P 21 k = elt E P 21 k) from by first | rfl | (intro k hk; rfl) | (intro k; rfl), show I 1 = I 1 from by first | rfl | (intro k hk; rfl) | (intro k; rfl), show (∀ a : Nat, P 1 0 a = P 1 0 a) from by first | rfl | (intro k hk; rfl) | (intro k; rfl)⟩) | exact Or.inr (Or.inr (Or.inl ⟨by omega, by omega, show J 21 2 = J 21 2 from by first | rfl | (intro k hk; rfl) | (intro k; rfl), show (∀ k : Nat, elt E P 21 k = elt E P 21 k) from by first | rfl | (intro k hk; rfl) | (intro k; rfl), show I 1 = I 1 from by first | rfl | (intro k hk; rfl) | (intro k; rfl), show (∀ a : Nat, P 1 0 a = P 1 0 a) from by first | rfl | (intro k hk; rfl) | (intro k; rfl)⟩)) | exact Or.inr (Or.inr (Or.inr (⟨by omega, by omega, show (J 21 2).toInt = (J 21 2).toInt + 1 from by first | rfl | omega | assumption, show NOBJ I I E E P P 21 1 (J 21 2).toInt dy from by first | rfl | omega | assumption, show (∀ j : Nat, (j : Int) = (J 21 2).toInt → I 1 1 (elt E P 21 j) = a1 ∧ I 1 2 (elt E P 21 j) = a2) from by first | rfl | omega | assumption, show (∀ j9 : Nat, (j9 : Int) = (J 21 2).toInt → P 1 0 (elt E P 21 j9) = some (elt E P 20 a0.toNatClampNeg)) from by first | rfl | omega | assumption, show (∀ a9 : Nat, (1, a9) ∈ dy → P 1 0 a9 = P 1 0 a9) from by first | rfl | omega | assumption⟩))), hwr, fun x hx => hx, show ∀ x ∈ dy, N x.2 = N x.2 from by exact fun _ _ => rfl⟩ dX11_cut_51
      · have c5 : (J 3 1).toInt ≤ a1.toInt := tnlt rfl rfl c5
        refine lv_iload_n hx hb dX11_cut_40 rfl (lv_at hl 4 rfl) ?_
        refine lv_iload_n hx hb dX11_cut_41 rfl (lv_at hl 3 rfl) ?_
        refine lv_icmp_ge (tgt := 52) hx hb dX11_cut_42 (by decide) (fun c7 => ?_) (fun c7 => ?_)
        · have c7 : a1.toInt ≤ a2.toInt := tle rfl rfl c7
          refine lv_iload_n hx hb dX11_cut_52 rfl (lv_at hl 4 rfl) ?_
          refine lv_sipush (v := 9999) hx hb dX11_cut_53 (by decide) ?_
          refine lv_icmp_gt (tgt := 74) hx hb dX11_cut_56 (by decide) (fun c8 => ?_) (fun c8 => ?_)
          · have c8 : 9999 < a2.toInt := tlt kp9999 rfl c8
            refine lv_aload_n hx hb dX11_cut_74 rfl (lv_at hl 1 rfl) ?_
            refine lv_bipush (v := (-6)) hx hb dX11_cut_75 (by decide) ?_
            refine ci_ C hW (runV (x := (g.2.2.1 12)) (As := [.int (-6)]) (rest := []) (T := ((J, L, I, P, E, N), sgX g ++ dy)) C hW (c_X11_refuse l g J L I P E N dy H.size (-6) hwf) mi_X11_refuse tw_411 (recv_ (T := ((J, L, I, P, E, N), sgX g ++ dy)) C hW (mx_ rfl) rfl rfl) ⟨rfl, rfl, Nat.le_of_ble_eq_true rfl, Nat.le_of_ble_eq_true rfl⟩ rfl hl.1 rfl (Nat.le_of_ble_eq_true rfl) dX11_cut_77 ⟨Nat.le_of_ble_eq_true rfl, Nat.le_of_ble_eq_true rfl⟩) (fun r9 u9 H locs hp9 hW => ?_)
            have hc9 : ((r9 = (-6))) := hp9
            clear hp9
            have hr9 : r9.toInt = (-6) := by rw [hc9]; exact kn6
            have hW : WB g A s.heap H locs ((hv J [42] [] u9), L, I, P, E, N) (sgX g ++ dy) := hW
            have hJe : (hv J [42] [] u9) = hv J [42] [(21, 0), (21, 2)] (hv J [42] [] u9) := ag_hvE (J := J) (R := [42]) (F := [(21, 0), (21, 2)]) (ag_hv rfl rfl ag_rf)
            have hIe : I = hv I [1] [] I := ag_hvE (J := I) (R := [1]) (F := []) ag_rf
            have hPe : P = hv P [1, 31] [] P := ag_hvE (J := P) (R := [1, 31]) (F := []) ag_rf
            have hEe : E = hv1 E [21] E := hv1_e (R := [21]) (fun _ _ => rfl)
            have hWr : WB g A s.heap H locs (hv J [42] [(21, 0), (21, 2)] (hv J [42] [] u9), L, hv I [1] [] I, hv P [1, 31] [] P, hv1 E [21] E, N) (sgX g ++ dy) := by
              rw [← hJe, ← hIe, ← hPe, ← hEe]; exact hW
            have hwr : WXF g (hv J [42] [(21, 0), (21, 2)] (hv J [42] [] u9)) (hv P [1, 31] [] P) (hv1 E [21] E) N dy := by
              rw [← hJe, ← hPe, ← hEe]; exact hwf
            refine W.widen (k := 10) (n := 20100) (Nat.le_of_ble_eq_true rfl) (Nat.le_of_ble_eq_true rfl) ?_
            subst hQ9
            exact end_i C hr hlocks ((hv J [42] [] u9), I, P, E, N, dy) hWr ⟨by first | exact Or.inl ⟨by omega, by omega, show J 21 2 = J 21 2 from by first | rfl | (intro k hk; rfl) | (intro k; rfl), show (∀ k : Nat, elt E P 21 k = elt E P 21 k) from by first | rfl | (intro k hk; rfl) | (intro k; rfl), show I 1 = I 1 from by first | rfl | (intro k hk; rfl) | (intro k; rfl), show (∀ a : Nat, P 1 0 a = P 1 0 a) from by first | rfl | (intro k hk; rfl) | (intro k; rfl)⟩ | exact Or.inr (Or.inl ⟨by omega, by omega, show J 21 2 = J 21 2 from by first | rfl | (intro k hk; rfl) | (intro k; rfl), show (∀ k : Nat, elt E P 21 k = elt E P 21 k) from by first | rfl | (intro k hk; rfl) | (intro k; rfl), show I 1 = I 1 from by first | rfl | (intro k hk; rfl) | (intro k; rfl), show (∀ a : Nat, P 1 0 a = P 1 0 a) from by first | rfl | (intro k hk; rfl) | (intro k; rfl)⟩) | exact Or.inr (Or.inr (Or.inl ⟨by omega, by omega, show J 21 2 = J 21 2 from by first | rfl | (intro k hk; rfl) | (intro k; rfl), show (∀ k : Nat, elt E P 21 k = elt E P 21 k) from by first | rfl | (intro k hk; rfl) | (intro k; rfl), show I 1 = I 1 from by first | rfl | (intro k hk; rfl) | (intro k; rfl), show (∀ a : Nat, P 1 0 a = P 1 0 a) from by first | rfl | (intro k hk; rfl) | (intro k; rfl)⟩)) | exact Or.inr (Or.inr (Or.inr (⟨by omega, by omega, show (J 21 2).toInt = (J 21 2).toInt + 1 from by first | rfl | omega | assumption, show NOBJ I I E E P P 21 1 (J 21 2).toInt dy from by first | rfl | omega | assumption, show (∀ j : Nat, (j : Int) = (J 21 2).toInt → I 1 1 (elt E P 21 j) = a1 ∧ I 1 2 (elt E P 21 j) = a2) from by first | rfl | omega | assumption, show (∀ j9 : Nat, (j9 : Int) = (J 21 2).toInt → P 1 0 (elt E P 21 j9) = some (elt E P 20 a0.toNatClampNeg)) from by first | rfl | omega | assumption, show (∀ a9 : Nat, (1, a9) ∈ dy → P 1 0 a9 = P 1 0 a9) from by first | rfl | omega | assumption⟩))), hwr, fun x hx => hx, show ∀ x ∈ dy, N x.2 = N x.2 from by exact fun _ _ => rfl⟩ dX11_cut_80
          · have c8 : a2.toInt ≤ 9999 := tnlt kp9999 rfl c8
            refine lv_aload_n hx hb dX11_cut_59 rfl (lv_at hl 1 rfl) ?_
            refine rg_12_0 C hW (mx_ rfl) tw_364 dX11_cut_60 ?_
            refine rg_4_1 C hW (mx_ rfl) tw_235 dX11_cut_63 ?_
            refine ci_ C hW (runV (x := (g.2.2.1 21)) (As := []) (rest := []) (T := ((J, L, I, P, E, N), sgX g ++ dy)) C hW (c_Jx4a65c_size_8abf5 l g J L I P E N dy H.size 21 rfl ) mi_Jx4a65c_size_8abf5 tw_485 (recv_ (T := ((J, L, I, P, E, N), sgX g ++ dy)) C hW (mx_ rfl) (cel_list rfl) rfl) ⟨rfl, rfl, Nat.le_of_ble_eq_true rfl, Nat.le_of_ble_eq_true rfl⟩ rfl hl.1 rfl (Nat.le_of_ble_eq_true rfl) dX11_cut_66 ⟨Nat.le_of_ble_eq_true rfl, Nat.le_of_ble_eq_true rfl⟩) (fun r10 u10 H locs hp10 hW => ?_)
            have hc10 : ((r10 = J 21 2)) := hp10
            clear hp10
            have hr10 : r10 = J 21 2 := hc10
            refine lv_as (J 21 2) hr10 ?_
            have hW : WB g A s.heap H locs (J, L, I, P, E, N) (sgX g ++ dy) := hW
            refine lv_bipush (v := 40) hx hb dX11_cut_69 (by decide) ?_
            refine lv_icmp_lt (tgt := 81) hx hb dX11_cut_71 (by decide) (fun c11 => ?_) (fun c11 => ?_)
            · have c11 : (J 21 2).toInt < 40 := tlt rfl kp40 c11
              refine lv_aload_n hx hb dX11_cut_81 rfl (lv_at hl 1 rfl) ?_
              refine rg_12_0 C hW (mx_ rfl) tw_364 dX11_cut_82 ?_
              refine rg_4_1 C hW (mx_ rfl) tw_235 dX11_cut_85 ?_
              refine g_new (r := 1) (S' := fun q => (J, L, clr I 1 q 0, clr P 1 q none, E, N)) (ci := 1) (fs := [.null, .int 0, .int 0]) C hW rfl rfl in_X0 tyX0 tyX0_ok tw_501 tw_502 tw_84 (fun j hj => by rcases (show j = 0 ∨ j = 1 ∨ j = 2 by omega) with rfl | rfl | rfl <;> rfl) (fun q => by simp only [cel, celc, clr_s] <;> rfl) (fun q r' a h => cel_clr 1 q r' a h) ⟨Nat.le_of_ble_eq_true rfl, Nat.le_of_ble_eq_true rfl⟩ dX11_cut_88 (fun q12 H hfr12 hW => ?_)
              rw [List.append_assoc] at hW
              have hW : WB g A s.heap H locs (J, L, (clr I 1 q12 0), (clr P 1 q12 none), E, N) (sgX g ++ (dy ++ [(1, q12)])) := hW
              refine lv_dup hx hb dX11_cut_91 rfl ?_
              refine lv_aload hx hb dX11_cut_92 (lv_at hl 0 rfl) ?_
              refine lv_iload_n hx hb dX11_cut_94 rfl (lv_at hl 3 rfl) ?_
              refine lv_iload_n hx hb dX11_cut_95 rfl (lv_at hl 4 rfl) ?_
              refine cv_ C hW (runI (x := q12) (As := [.ref o1, .int a1, .int a2]) (rest := [.ref q12, .ref (g.2.2.1 21)]) (T := ((J, L, (clr I 1 q12 0), (clr P 1 q12 none), E, N), sgX g ++ (dy ++ [(1, q12)]))) C hW (c_X0_init l g J L (clr I 1 q12 0) (clr P 1 q12 none) E N (dy ++ [(1, q12)]) H.size q12 (List.mem_append_right _ (List.mem_singleton.mpr rfl)) o1 (List.mem_append_left _ hm1) a1 a2 ) mi_X0_init tw_503 ⟨rfl, rfl, Nat.le_of_ble_eq_true rfl, Nat.le_of_ble_eq_true rfl⟩ rfl hl.1 rfl (Nat.le_of_ble_eq_true rfl) dX11_cut_96 ⟨Nat.le_of_ble_eq_true rfl, Nat.le_of_ble_eq_true rfl⟩) (fun u13 H locs hp13 hW => ?_)
              have hW : WB g A s.heap H locs (J, L, (up3 (up3 (clr I 1 q12 0) 1 1 q12 a1) 1 2 q12 a2), (up3 (clr P 1 q12 none) 1 0 q12 (some o1)), E, N) (sgX g ++ (dy ++ [(1, q12)])) := hW
              have hwf : WXF g J (up3 (clr P 1 q12 none) 1 0 q12 (some o1)) E N (dy ++ [(1, q12)]) := wxf_new (J := J) hwf (fun x hx => hfr12 x (List.mem_append_right _ hx)) (fun r f a h => (up3_a _ _ _ _ h _ _).trans (clr_o _ _ _ h _ _)) (fun _ _ => rfl) ⟨fun h => absurd h (by decide), fun _ => ⟨_, up3_s _ _ _ _ _, hm1⟩, fun h => absurd h (by decide), fun h => absurd h (by decide)⟩
              refine ci_ C hW (runV (x := (g.2.2.1 21)) (As := [.ref q12]) (rest := []) (T := ((J, L, (up3 (up3 (clr I 1 q12 0) 1 1 q12 a1) 1 2 q12 a2), (up3 (clr P 1 q12 none) 1 0 q12 (some o1)), E, N), sgX g ++ (dy ++ [(1, q12)]))) C hW (c_Jx4a65c_add_9ea2d l g J L (up3 (up3 (clr I 1 q12 0) 1 1 q12 a1) 1 2 q12 a2) (up3 (clr P 1 q12 none) 1 0 q12 (some o1)) E N (dy ++ [(1, q12)]) H.size 1 21 rfl rfl q12 (List.mem_append_right _ (List.mem_singleton.mpr rfl)) hwf.1.2.1 (show (J 21 2).toInt ≤ 9999 from by omega)) mi_Jx4a65c_add_9ea2d tw_488 (recv_ (T := ((J, L, (up3 (up3 (clr I 1 q12 0) 1 1 q12 a1) 1 2 q12 a2), (up3 (clr P 1 q12 none) 1 0 q12 (some o1)), E, N), sgX g ++ (dy ++ [(1, q12)]))) C hW (mx_ rfl) (cel_list rfl) rfl) ⟨rfl, rfl, Nat.le_of_ble_eq_true rfl, Nat.le_of_ble_eq_true rfl⟩ rfl hl.1 rfl (Nat.le_of_ble_eq_true rfl) dX11_cut_99 ⟨Nat.le_of_ble_eq_true rfl, Nat.le_of_ble_eq_true rfl⟩) (fun r14 u14 H locs hp14 hW => ?_)
              obtain ⟨hc14, hG14, hL14, hE14, hF14⟩ := hp14
              have hlo14 : 0 ≤ (J 21 2).toInt := (hwf.1.2.1).1
              have ht14 : (J 21 2 + 1).toInt = (J 21 2).toInt + 1 := tadd rfl rfl kp1 (by omega)
              have hW : WB g A s.heap H locs ((up2 (up2 J 21 0 u14.1) 21 2 (J 21 2 + 1)), L, (up3 (up3 (clr I 1 q12 0) 1 1 q12 a1) 1 2 q12 a2), (hv (up3 (clr P 1 q12 none) 1 0 q12 (some o1)) [31] [] u14.2.1), (up1 E 21 u14.2.2.1), u14.2.2.2.1) (sgX g ++ u14.2.2.2.2) := hW
              have hwf : WXF g (up2 (up2 J 21 0 u14.1) 21 2 (J 21 2 + 1)) (hv (up3 (clr P 1 q12 none) 1 0 q12 (some o1)) [31] [] u14.2.1) (up1 E 21 u14.2.2.1) u14.2.2.2.1 u14.2.2.2.2 := wxf_add21 hwf hG14 hL14
              refine lv_pop hx hb dX11_cut_102 rfl ?_
              refine lv_aload_n hx hb dX11_cut_103 rfl (lv_at hl 1 rfl) ?_
              refine rg_12_0 C hW (mx_ rfl) tw_364 dX11_cut_104 ?_
              refine rg_4_1 C hW (mx_ rfl) tw_235 dX11_cut_107 ?_
              refine ci_ C hW (runV (x := (g.2.2.1 21)) (As := []) (rest := []) (T := (((up2 (up2 J 21 0 u14.1) 21 2 (J 21 2 + 1)), L, (up3 (up3 (clr I 1 q12 0) 1 1 q12 a1) 1 2 q12 a2), (hv (up3 (clr P 1 q12 none) 1 0 q12 (some o1)) [31] [] u14.2.1), (up1 E 21 u14.2.2.1), u14.2.2.2.1), sgX g ++ u14.2.2.2.2)) C hW (c_Jx4a65c_size_8abf5 l g (up2 (up2 J 21 0 u14.1) 21 2 (J 21 2 + 1)) L (up3 (up3 (clr I 1 q12 0) 1 1 q12 a1) 1 2 q12 a2) (hv (up3 (clr P 1 q12 none) 1 0 q12 (some o1)) [31] [] u14.2.1) (up1 E 21 u14.2.2.1) u14.2.2.2.1 u14.2.2.2.2 H.size 21 rfl ) mi_Jx4a65c_size_8abf5 tw_485 (recv_ (T := (((up2 (up2 J 21 0 u14.1) 21 2 (J 21 2 + 1)), L, (up3 (up3 (clr I 1 q12 0) 1 1 q12 a1) 1 2 q12 a2), (hv (up3 (clr P 1 q12 none) 1 0 q12 (some o1)) [31] [] u14.2.1), (up1 E 21 u14.2.2.1), u14.2.2.2.1), sgX g ++ u14.2.2.2.2)) C hW (mx_ rfl) (cel_list rfl) rfl) ⟨rfl, rfl, Nat.le_of_ble_eq_true rfl, Nat.le_of_ble_eq_true rfl⟩ rfl hl.1 rfl (Nat.le_of_ble_eq_true rfl) dX11_cut_110 ⟨Nat.le_of_ble_eq_true rfl, Nat.le_of_ble_eq_true rfl⟩) (fun r15 u15 H locs hp15 hW => ?_)
              have hc15 : ((r15 = J 21 2 + 1)) := hp15
              clear hp15
              have hr15 : r15 = J 21 2 + 1 := hc15
              refine lv_as (J 21 2 + 1) hr15 ?_
              have hW : WB g A s.heap H locs ((up2 (up2 J 21 0 u14.1) 21 2 (J 21 2 + 1)), L, (up3 (up3 (clr I 1 q12 0) 1 1 q12 a1) 1 2 q12 a2), (hv (up3 (clr P 1 q12 none) 1 0 q12 (some o1)) [31] [] u14.2.1), (up1 E 21 u14.2.2.1), u14.2.2.2.1) (sgX g ++ u14.2.2.2.2) := hW
              have hF9 : elt (up1 E 21 u14.2.2.1) (hv (up3 (clr P 1 q12 none) 1 0 q12 (some o1)) [31] [] u14.2.1) 21 (J 21 2).toNatClampNeg = q12 := hF14
              have hJe : (up2 (up2 J 21 0 u14.1) 21 2 (J 21 2 + 1)) = hv J [42] [(21, 0), (21, 2)] (up2 (up2 J 21 0 u14.1) 21 2 (J 21 2 + 1)) := ag_hvE (J := J) (R := [42]) (F := [(21, 0), (21, 2)]) (ag_up (Or.inr rfl) (ag_up (Or.inr rfl) ag_rf))
              have hIe : (up3 (up3 (clr I 1 q12 0) 1 1 q12 a1) 1 2 q12 a2) = hv I [1] [] (up3 (up3 (clr I 1 q12 0) 1 1 q12 a1) 1 2 q12 a2) := ag_hvE (J := I) (R := [1]) (F := []) (ag_up3 (Or.inl rfl) (ag_up3 (Or.inl rfl) (ag_clr rfl ag_rf)))
              have hPe : (hv (up3 (clr P 1 q12 none) 1 0 q12 (some o1)) [31] [] u14.2.1) = hv P [1, 31] [] (hv (up3 (clr P 1 q12 none) 1 0 q12 (some o1)) [31] [] u14.2.1) := ag_hvE (J := P) (R := [1, 31]) (F := []) (ag_hv rfl rfl (ag_up3 (Or.inl rfl) (ag_clr rfl ag_rf)))
              have hEe : (up1 E 21 u14.2.2.1) = hv1 E [21] (up1 E 21 u14.2.2.1) := hv1_e (R := [21]) (up1_ag rfl (fun _ _ => rfl))
              have hWr : WB g A s.heap H locs (hv J [42] [(21, 0), (21, 2)] (up2 (up2 J 21 0 u14.1) 21 2 (J 21 2 + 1)), L, hv I [1] [] (up3 (up3 (clr I 1 q12 0) 1 1 q12 a1) 1 2 q12 a2), hv P [1, 31] [] (hv (up3 (clr P 1 q12 none) 1 0 q12 (some o1)) [31] [] u14.2.1), hv1 E [21] (up1 E 21 u14.2.2.1), u14.2.2.2.1) (sgX g ++ u14.2.2.2.2) := by
                rw [← hJe, ← hIe, ← hPe, ← hEe]; exact hW
              have hwr : WXF g (hv J [42] [(21, 0), (21, 2)] (up2 (up2 J 21 0 u14.1) 21 2 (J 21 2 + 1))) (hv P [1, 31] [] (hv (up3 (clr P 1 q12 none) 1 0 q12 (some o1)) [31] [] u14.2.1)) (hv1 E [21] (up1 E 21 u14.2.2.1)) u14.2.2.2.1 u14.2.2.2.2 := by
                rw [← hJe, ← hPe, ← hEe]; exact hwf
              refine W.widen (k := 10) (n := 20100) (Nat.le_of_ble_eq_true rfl) (Nat.le_of_ble_eq_true rfl) ?_
              subst hQ9
              exact end_i C hr hlocks ((up2 (up2 J 21 0 u14.1) 21 2 (J 21 2 + 1)), (up3 (up3 (clr I 1 q12 0) 1 1 q12 a1) 1 2 q12 a2), (hv (up3 (clr P 1 q12 none) 1 0 q12 (some o1)) [31] [] u14.2.1), (up1 E 21 u14.2.2.1), u14.2.2.2.1, u14.2.2.2.2) hWr ⟨by first | exact Or.inl ⟨by omega, by omega, show J 21 2 + 1 = J 21 2 from by first | rfl | (intro k hk; rfl) | (intro k; rfl), show (∀ k : Nat, elt (up1 E 21 u14.2.2.1) (hv (up3 (clr P 1 q12 none) 1 0 q12 (some o1)) [31] [] u14.2.1) 21 k = elt E P 21 k) from by first | rfl | (intro k hk; rfl) | (intro k; rfl), show (up3 (up3 (clr I 1 q12 0) 1 1 q12 a1) 1 2 q12 a2) 1 = I 1 from by first | rfl | (intro k hk; rfl) | (intro k; rfl), show (∀ a : Nat, (hv (up3 (clr P 1 q12 none) 1 0 q12 (some o1)) [31] [] u14.2.1) 1 0 a = P 1 0 a) from by first | rfl | (intro k hk; rfl) | (intro k; rfl)⟩ | exact Or.inr (Or.inl ⟨by omega, by omega, show J 21 2 + 1 = J 21 2 from by first | rfl | (intro k hk; rfl) | (intro k; rfl), show (∀ k : Nat, elt (up1 E 21 u14.2.2.1) (hv (up3 (clr P 1 q12 none) 1 0 q12 (some o1)) [31] [] u14.2.1) 21 k = elt E P 21 k) from by first | rfl | (intro k hk; rfl) | (intro k; rfl), show (up3 (up3 (clr I 1 q12 0) 1 1 q12 a1) 1 2 q12 a2) 1 = I 1 from by first | rfl | (intro k hk; rfl) | (intro k; rfl), show (∀ a : Nat, (hv (up3 (clr P 1 q12 none) 1 0 q12 (some o1)) [31] [] u14.2.1) 1 0 a = P 1 0 a) from by first | rfl | (intro k hk; rfl) | (intro k; rfl)⟩) | exact Or.inr (Or.inr (Or.inl ⟨by omega, by omega, show J 21 2 + 1 = J 21 2 from by first | rfl | (intro k hk; rfl) | (intro k; rfl), show (∀ k : Nat, elt (up1 E 21 u14.2.2.1) (hv (up3 (clr P 1 q12 none) 1 0 q12 (some o1)) [31] [] u14.2.1) 21 k = elt E P 21 k) from by first | rfl | (intro k hk; rfl) | (intro k; rfl), show (up3 (up3 (clr I 1 q12 0) 1 1 q12 a1) 1 2 q12 a2) 1 = I 1 from by first | rfl | (intro k hk; rfl) | (intro k; rfl), show (∀ a : Nat, (hv (up3 (clr P 1 q12 none) 1 0 q12 (some o1)) [31] [] u14.2.1) 1 0 a = P 1 0 a) from by first | rfl | (intro k hk; rfl) | (intro k; rfl)⟩)) | exact Or.inr (Or.inr (Or.inr (⟨by omega, by omega, show (J 21 2 + 1).toInt = (J 21 2).toInt + 1 from by first | rfl | omega, show NOBJ I (up3 (up3 (clr I 1 q12 0) 1 1 q12 a1) 1 2 q12 a2) E (up1 E 21 u14.2.2.1) P (hv (up3 (clr P 1 q12 none) 1 0 q12 (some o1)) [31] [] u14.2.1) 21 1 (J 21 2).toInt dy from by (exact ⟨fun k9 hk9 => hE14 k9 hk9, fun a9 ha9 f9 => (by have h9 : a9 ≠ q12 := hfr12 (1, a9) (List.mem_append_right _ ha9); show (up3 (up3 (clr I 1 q12 0) 1 1 q12 a1) 1 2 q12 a2) 1 f9 a9 = I 1 f9 a9; exact (up3_a _ _ _ _ h9 _ _).trans ((up3_a _ _ _ _ h9 _ _).trans (clr_o _ _ _ h9 _ _))), fun j9 hj9 x9 hx9 => (by have e9 : j9 = (J 21 2).toNatClampNeg := (by have h8 := tcl (J 21 2); omega); rw [e9, hF9]; exact hfr12 x9 (List.mem_append_right _ hx9))⟩), show (∀ j : Nat, (j : Int) = (J 21 2).toInt → (up3 (up3 (clr I 1 q12 0) 1 1 q12 a1) 1 2 q12 a2) 1 1 (elt (up1 E 21 u14.2.2.1) (hv (up3 (clr P 1 q12 none) 1 0 q12 (some o1)) [31] [] u14.2.1) 21 j) = a1 ∧ (up3 (up3 (clr I 1 q12 0) 1 1 q12 a1) 1 2 q12 a2) 1 2 (elt (up1 E 21 u14.2.2.1) (hv (up3 (clr P 1 q12 none) 1 0 q12 (some o1)) [31] [] u14.2.1) 21 j) = a2) from by (intro j9 hj9; have e9 : j9 = (J 21 2).toNatClampNeg := (by have h8 := tcl (J 21 2); omega); rw [e9, hF9]; exact ⟨(show (up3 (clr I 1 q12 0) 1 1 q12 a1) 1 1 q12 = a1 from up3_s _ _ _ _ _), (show (up3 (up3 (clr I 1 q12 0) 1 1 q12 a1) 1 2 q12 a2) 1 2 q12 = a2 from up3_s _ _ _ _ _)⟩), show (∀ j9 : Nat, (j9 : Int) = (J 21 2).toInt → (hv (up3 (clr P 1 q12 none) 1 0 q12 (some o1)) [31] [] u14.2.1) 1 0 (elt (up1 E 21 u14.2.2.1) (hv (up3 (clr P 1 q12 none) 1 0 q12 (some o1)) [31] [] u14.2.1) 21 j9) = some (elt E P 20 a0.toNatClampNeg)) from by (intro j9 hj9; have e9 : j9 = (J 21 2).toNatClampNeg := (by have h8 := tcl (J 21 2); omega); rw [e9, hF9]; exact (show (up3 (clr P 1 q12 none) 1 0 q12 (some o1)) 1 0 q12 = some o1 from up3_s _ _ _ _ _).trans (congrArg some ho1)), show (∀ a9 : Nat, (1, a9) ∈ dy → (hv (up3 (clr P 1 q12 none) 1 0 q12 (some o1)) [31] [] u14.2.1) 1 0 a9 = P 1 0 a9) from by (intro a9 ha9; have h9 : a9 ≠ q12 := hfr12 (1, a9) (List.mem_append_right _ ha9); show (up3 (clr P 1 q12 none) 1 0 q12 (some o1)) 1 0 a9 = P 1 0 a9; exact (up3_a _ _ _ _ h9 _ _).trans (clr_o _ _ _ h9 _ _))⟩))), hwr, fun x hx => hG14.1 x ((fun x hx => List.mem_append_left _ ((fun x hx => hx) x hx)) x hx), show ∀ x ∈ dy, u14.2.2.2.1 x.2 = N x.2 from by exact fun x hx => (hG14.2.2 x ((fun x hx => List.mem_append_left _ ((fun x hx => hx) x hx)) x hx)).trans ((fun _ _ => rfl) x hx)⟩ dX11_cut_113
            · have c11 : 40 ≤ (J 21 2).toInt := tnlt rfl kp40 c11
              refine lv_aload_n hx hb dX11_cut_74 rfl (lv_at hl 1 rfl) ?_
              refine lv_bipush (v := (-6)) hx hb dX11_cut_75 (by decide) ?_
              refine ci_ C hW (runV (x := (g.2.2.1 12)) (As := [.int (-6)]) (rest := []) (T := ((J, L, I, P, E, N), sgX g ++ dy)) C hW (c_X11_refuse l g J L I P E N dy H.size (-6) hwf) mi_X11_refuse tw_411 (recv_ (T := ((J, L, I, P, E, N), sgX g ++ dy)) C hW (mx_ rfl) rfl rfl) ⟨rfl, rfl, Nat.le_of_ble_eq_true rfl, Nat.le_of_ble_eq_true rfl⟩ rfl hl.1 rfl (Nat.le_of_ble_eq_true rfl) dX11_cut_77 ⟨Nat.le_of_ble_eq_true rfl, Nat.le_of_ble_eq_true rfl⟩) (fun r16 u16 H locs hp16 hW => ?_)
              have hc16 : ((r16 = (-6))) := hp16
              clear hp16
              have hr16 : r16.toInt = (-6) := by rw [hc16]; exact kn6
              have hW : WB g A s.heap H locs ((hv J [42] [] u16), L, I, P, E, N) (sgX g ++ dy) := hW
              have hJe : (hv J [42] [] u16) = hv J [42] [(21, 0), (21, 2)] (hv J [42] [] u16) := ag_hvE (J := J) (R := [42]) (F := [(21, 0), (21, 2)]) (ag_hv rfl rfl ag_rf)
              have hIe : I = hv I [1] [] I := ag_hvE (J := I) (R := [1]) (F := []) ag_rf
              have hPe : P = hv P [1, 31] [] P := ag_hvE (J := P) (R := [1, 31]) (F := []) ag_rf
              have hEe : E = hv1 E [21] E := hv1_e (R := [21]) (fun _ _ => rfl)
              have hWr : WB g A s.heap H locs (hv J [42] [(21, 0), (21, 2)] (hv J [42] [] u16), L, hv I [1] [] I, hv P [1, 31] [] P, hv1 E [21] E, N) (sgX g ++ dy) := by
                rw [← hJe, ← hIe, ← hPe, ← hEe]; exact hW
              have hwr : WXF g (hv J [42] [(21, 0), (21, 2)] (hv J [42] [] u16)) (hv P [1, 31] [] P) (hv1 E [21] E) N dy := by
                rw [← hJe, ← hPe, ← hEe]; exact hwf
              refine W.widen (k := 10) (n := 20100) (Nat.le_of_ble_eq_true rfl) (Nat.le_of_ble_eq_true rfl) ?_
              subst hQ9
              exact end_i C hr hlocks ((hv J [42] [] u16), I, P, E, N, dy) hWr ⟨by first | exact Or.inl ⟨by omega, by omega, show J 21 2 = J 21 2 from by first | rfl | (intro k hk; rfl) | (intro k; rfl), show (∀ k : Nat, elt E P 21 k = elt E P 21 k) from by first | rfl | (intro k hk; rfl) | (intro k; rfl), show I 1 = I 1 from by first | rfl | (intro k hk; rfl) | (intro k; rfl), show (∀ a : Nat, P 1 0 a = P 1 0 a) from by first | rfl | (intro k hk; rfl) | (intro k; rfl)⟩ | exact Or.inr (Or.inl ⟨by omega, by omega, show J 21 2 = J 21 2 from by first | rfl | (intro k hk; rfl) | (intro k; rfl), show (∀ k : Nat, elt E P 21 k = elt E P 21 k) from by first | rfl | (intro k hk; rfl) | (intro k; rfl), show I 1 = I 1 from by first | rfl | (intro k hk; rfl) | (intro k; rfl), show (∀ a : Nat, P 1 0 a = P 1 0 a) from by first | rfl | (intro k hk; rfl) | (intro k; rfl)⟩) | exact Or.inr (Or.inr (Or.inl ⟨by omega, by omega, show J 21 2 = J 21 2 from by first | rfl | (intro k hk; rfl) | (intro k; rfl), show (∀ k : Nat, elt E P 21 k = elt E P 21 k) from by first | rfl | (intro k hk; rfl) | (intro k; rfl), show I 1 = I 1 from by first | rfl | (intro k hk; rfl) | (intro k; rfl), show (∀ a : Nat, P 1 0 a = P 1 0 a) from by first | rfl | (intro k hk; rfl) | (intro k; rfl)⟩)) | exact Or.inr (Or.inr (Or.inr (⟨by omega, by omega, show (J 21 2).toInt = (J 21 2).toInt + 1 from by first | rfl | omega | assumption, show NOBJ I I E E P P 21 1 (J 21 2).toInt dy from by first | rfl | omega | assumption, show (∀ j : Nat, (j : Int) = (J 21 2).toInt → I 1 1 (elt E P 21 j) = a1 ∧ I 1 2 (elt E P 21 j) = a2) from by first | rfl | omega | assumption, show (∀ j9 : Nat, (j9 : Int) = (J 21 2).toInt → P 1 0 (elt E P 21 j9) = some (elt E P 20 a0.toNatClampNeg)) from by first | rfl | omega | assumption, show (∀ a9 : Nat, (1, a9) ∈ dy → P 1 0 a9 = P 1 0 a9) from by first | rfl | omega | assumption⟩))), hwr, fun x hx => hx, show ∀ x ∈ dy, N x.2 = N x.2 from by exact fun _ _ => rfl⟩ dX11_cut_80
        · have c7 : a2.toInt < a1.toInt := tnle rfl rfl c7
          refine lv_aload_n hx hb dX11_cut_45 rfl (lv_at hl 1 rfl) ?_
          refine lv_bipush (v := (-4)) hx hb dX11_cut_46 (by decide) ?_
          refine ci_ C hW (runV (x := (g.2.2.1 12)) (As := [.int (-4)]) (rest := []) (T := ((J, L, I, P, E, N), sgX g ++ dy)) C hW (c_X11_refuse l g J L I P E N dy H.size (-4) hwf) mi_X11_refuse tw_411 (recv_ (T := ((J, L, I, P, E, N), sgX g ++ dy)) C hW (mx_ rfl) rfl rfl) ⟨rfl, rfl, Nat.le_of_ble_eq_true rfl, Nat.le_of_ble_eq_true rfl⟩ rfl hl.1 rfl (Nat.le_of_ble_eq_true rfl) dX11_cut_48 ⟨Nat.le_of_ble_eq_true rfl, Nat.le_of_ble_eq_true rfl⟩) (fun r17 u17 H locs hp17 hW => ?_)
          have hc17 : ((r17 = (-4))) := hp17
          clear hp17
          have hr17 : r17.toInt = (-4) := by rw [hc17]; exact kn4
          have hW : WB g A s.heap H locs ((hv J [42] [] u17), L, I, P, E, N) (sgX g ++ dy) := hW
          have hJe : (hv J [42] [] u17) = hv J [42] [(21, 0), (21, 2)] (hv J [42] [] u17) := ag_hvE (J := J) (R := [42]) (F := [(21, 0), (21, 2)]) (ag_hv rfl rfl ag_rf)
          have hIe : I = hv I [1] [] I := ag_hvE (J := I) (R := [1]) (F := []) ag_rf
          have hPe : P = hv P [1, 31] [] P := ag_hvE (J := P) (R := [1, 31]) (F := []) ag_rf
          have hEe : E = hv1 E [21] E := hv1_e (R := [21]) (fun _ _ => rfl)
          have hWr : WB g A s.heap H locs (hv J [42] [(21, 0), (21, 2)] (hv J [42] [] u17), L, hv I [1] [] I, hv P [1, 31] [] P, hv1 E [21] E, N) (sgX g ++ dy) := by
            rw [← hJe, ← hIe, ← hPe, ← hEe]; exact hW
          have hwr : WXF g (hv J [42] [(21, 0), (21, 2)] (hv J [42] [] u17)) (hv P [1, 31] [] P) (hv1 E [21] E) N dy := by
            rw [← hJe, ← hPe, ← hEe]; exact hwf
          refine W.widen (k := 10) (n := 20100) (Nat.le_of_ble_eq_true rfl) (Nat.le_of_ble_eq_true rfl) ?_
          subst hQ9
          exact end_i C hr hlocks ((hv J [42] [] u17), I, P, E, N, dy) hWr ⟨by first | exact Or.inl ⟨by omega, by omega, show J 21 2 = J 21 2 from by first | rfl | (intro k hk; rfl) | (intro k; rfl), show (∀ k : Nat, elt E P 21 k = elt E P 21 k) from by first | rfl | (intro k hk; rfl) | (intro k; rfl), show I 1 = I 1 from by first | rfl | (intro k hk; rfl) | (intro k; rfl), show (∀ a : Nat, P 1 0 a = P 1 0 a) from by first | rfl | (intro k hk; rfl) | (intro k; rfl)⟩ | exact Or.inr (Or.inl ⟨by omega, by omega, show J 21 2 = J 21 2 from by first | rfl | (intro k hk; rfl) | (intro k; rfl), show (∀ k : Nat, elt E P 21 k = elt E P 21 k) from by first | rfl | (intro k hk; rfl) | (intro k; rfl), show I 1 = I 1 from by first | rfl | (intro k hk; rfl) | (intro k; rfl), show (∀ a : Nat, P 1 0 a = P 1 0 a) from by first | rfl | (intro k hk; rfl) | (intro k; rfl)⟩) | exact Or.inr (Or.inr (Or.inl ⟨by omega, by omega, show J 21 2 = J 21 2 from by first | rfl | (intro k hk; rfl) | (intro k; rfl), show (∀ k : Nat, elt E P 21 k = elt E P 21 k) from by first | rfl | (intro k hk; rfl) | (intro k; rfl), show I 1 = I 1 from by first | rfl | (intro k hk; rfl) | (intro k; rfl), show (∀ a : Nat, P 1 0 a = P 1 0 a) from by first | rfl | (intro k hk; rfl) | (intro k; rfl)⟩)) | exact Or.inr (Or.inr (Or.inr (⟨by omega, by omega, show (J 21 2).toInt = (J 21 2).toInt + 1 from by first | rfl | omega | assumption, show NOBJ I I E E P P 21 1 (J 21 2).toInt dy from by first | rfl | omega | assumption, show (∀ j : Nat, (j : Int) = (J 21 2).toInt → I 1 1 (elt E P 21 j) = a1 ∧ I 1 2 (elt E P 21 j) = a2) from by first | rfl | omega | assumption, show (∀ j9 : Nat, (j9 : Int) = (J 21 2).toInt → P 1 0 (elt E P 21 j9) = some (elt E P 20 a0.toNatClampNeg)) from by first | rfl | omega | assumption, show (∀ a9 : Nat, (1, a9) ∈ dy → P 1 0 a9 = P 1 0 a9) from by first | rfl | omega | assumption⟩))), hwr, fun x hx => hx, show ∀ x ∈ dy, N x.2 = N x.2 from by exact fun _ _ => rfl⟩ dX11_cut_51
