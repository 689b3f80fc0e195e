/-- a list has grown by one object of its own role, nothing else of that role has changed -/
def NOBJ (I I' : Nat → Nat → Nat → Int32) (E E' : Nat → Option Nat) (P P' : Nat → Nat → Nat → Option Nat) (l ro : Nat) (n : Int) (dy : List (Nat × Nat)) : Prop := (∀ k : Nat, (k : Int) < n → elt E' P' l k = elt E P l k) ∧ (∀ a : Nat, (ro, a) ∈ dy → ∀ f : Nat, I' ro f a = I ro f a) ∧ ∀ j : Nat, (j : Int) = n → ∀ x ∈ dy, x.2 ≠ elt E' P' l j
def RDB (I : Nat → Nat → Nat → Int32) (E : Nat → Option Nat) (P : Nat → Nat → Nat → Option Nat) (n : Int) : Prop := ∀ k : Nat, (k : Int) < n → -1 ≤ (I 7 1 (elt E P 24 k)).toInt ∧ (I 7 1 (elt E P 24 k)).toInt ≤ 9999 ∧ 0 ≤ (I 7 2 (elt E P 24 k)).toInt ∧ (I 7 2 (elt E P 24 k)).toInt ≤ 10000
def OFV (k o : Int32) : Int32 := if (k.toInt = 0 ∨ k.toInt = 1 ∨ k.toInt = 5) ∧ 0 ≤ o.toInt then o else -9
theorem ofv_y {k o : Int32} (h : (k.toInt = 0 ∨ k.toInt = 1 ∨ k.toInt = 5) ∧ 0 ≤ o.toInt) : o = OFV k o := by rw [OFV, if_pos h]
theorem ofv_n {k o : Int32} (h : ¬ ((k.toInt = 0 ∨ k.toInt = 1 ∨ k.toInt = 5) ∧ 0 ≤ o.toInt)) : -9 = OFV k o := by rw [OFV, if_neg h]
section NEWSPAN
variable {I I' : Nat → Nat → Nat → Int32} {E E' : Nat → Option Nat} {P P' : Nat → Nat → Nat → Option Nat} {n n' now now' : Int} {K R V O T K' R' V' O' T' : Nat → Int32} {dy : List (Nat × Nat)}
theorem spr_new {f kd rd vo ov wt : Int32} {lst : Int} (h : SPR I E P n now K R V O T) (hN : NOBJ I I' E E' P P' 27 9 n dy) (hF : ∀ j : Nat, (j : Int) = n → I' 9 0 (elt E' P' 27 j) = f ∧ (I' 9 1 (elt E' P' 27 j)).toInt = lst ∧ I' 9 2 (elt E' P' 27 j) = kd ∧ I' 9 3 (elt E' P' 27 j) = wt ∧ I' 9 4 (elt E' P' 27 j) = rd ∧ I' 9 5 (elt E' P' 27 j) = vo ∧ I' 9 6 (elt E' P' 27 j) = ov) (hd : ∀ k : Nat, (k : Int) < n → (9, elt E P 27 k) ∈ dy) (hn0 : 0 ≤ n) (hn : n' = n + 1) (hf : f.toInt = now) (hl : now' = lst + 1) (hlt : now < now')
    (hK : ∀ m : Nat, (m : Int) < now → K' m = K m ∧ R' m = R m ∧ V' m = V m ∧ O' m = O m ∧ T' m = T m) (hK2 : ∀ m : Nat, now ≤ (m : Int) → (m : Int) < now' → K' m = kd ∧ R' m = rd ∧ V' m = vo ∧ O' m = ov ∧ T' m = wt) : SPR I' E' P' n' now' K' R' V' O' T' := by
  subst hn
  obtain ⟨h1, h2, h3⟩ := h
  have old : ∀ k : Nat, (k : Int) < n → ∀ g : Nat, I' 9 g (elt E' P' 27 k) = I 9 g (elt E P 27 k) := fun k hk g => by
    rw [hN.1 k hk]; exact hN.2.1 _ (hd k hk) g
  refine ⟨fun q => by omega, by omega, fun k hk => ?_⟩
  by_cases e : (k : Int) < n
  · obtain ⟨⟨s1, s2, s3, s4⟩, s5, s6, s7⟩ := h3 k e
    refine ⟨⟨?_, ?_, ?_, fun m q1 q2 => ?_⟩, fun q => ?_, fun j hj hj2 => ?_, fun q => ?_⟩
    · rw [old k e]; exact s1
    · rw [old k e, old k e]; exact s2
    · rw [old k e]; omega
    · rw [old k e] at q1
      rw [old k e] at q2
      obtain ⟨r1, r2, r3, r4, r5⟩ := hK m (by omega)
      rw [old k e, old k e, old k e, old k e, old k e, r1, r2, r3, r4, r5]; exact s4 m q1 q2
    · rw [old k e]; exact s5 q
    · rw [old k e]
      by_cases e2 : (j : Int) < n
      · rw [old j e2]; exact s6 j hj e2
      · rw [(hF j (by omega)).1, hf]; exact s7 (by omega)
    · omega
  · have ek : (k : Int) = n := by omega
    obtain ⟨f0, f1, f2, f3, f4, f5, f6⟩ := hF k ek
    refine ⟨⟨?_, ?_, ?_, fun m q1 q2 => ?_⟩, fun q => ?_, fun j hj hj2 => ?_, fun q => ?_⟩
    · rw [f0]; omega
    · rw [f0, f1]; omega
    · rw [f1]; omega
    · rw [f0] at q1
      rw [f1] at q2
      obtain ⟨r1, r2, r3, r4, r5⟩ := hK2 m (by omega) (by omega)
      exact ⟨f2.trans r1.symm, f4.trans r2.symm, f5.trans r3.symm, f6.trans r4.symm, f3.trans r5.symm⟩
    · rw [f0, hf]; exact h1 (by omega)
    · omega
    · rw [f1]; omega
theorem spr_keep (h : SPR I E P n now K R V O T) (hn : n' = n) (hw : now' = now) (he : ∀ k : Nat, (k : Int) < n → elt E' P' 27 k = elt E P 27 k) (hI : I' 9 = I 9) (hK : ∀ m : Nat, (m : Int) < now → K' m = K m ∧ R' m = R m ∧ V' m = V m ∧ O' m = O m ∧ T' m = T m) : SPR I' E' P' n' now' K' R' V' O' T' := by
  subst hn hw
  obtain ⟨h1, h2, h3⟩ := h
  refine ⟨h1, h2, fun k hk => ?_⟩
  obtain ⟨⟨s1, s2, s3, s4⟩, s5, s6, s7⟩ := h3 k hk
  refine ⟨⟨?_, ?_, ?_, fun m q1 q2 => ?_⟩, fun q => ?_, fun j hj hj2 => ?_, fun q => ?_⟩
  · rw [he k hk, hI]; exact s1
  · rw [he k hk, hI]; exact s2
  · rw [he k hk, hI]; exact s3
  · rw [he k hk, hI] at q1
    rw [he k hk, hI] at q2
    obtain ⟨r1, r2, r3, r4, r5⟩ := hK m (by omega)
    rw [he k hk, hI, r1, r2, r3, r4, r5]; exact s4 m q1 q2
  · rw [he k hk, hI]; exact s5 q
  · rw [he k hk, he j hj2, hI]; exact s6 j hj hj2
  · rw [he k hk, hI]; exact s7 q
theorem row1 {K' : Nat → Int32} {G : Nat → Nat → Int32} {r : Nat} {w v : Int32} (e : K' = up2 G r w.toNatClampNeg v r) (hw : 0 ≤ w.toInt) : (∀ m : Nat, (m : Int) < w.toInt → K' m = G r m) ∧ ∀ m : Nat, w.toInt ≤ (m : Int) → (m : Int) < w.toInt + 1 → K' m = v := by
  have h8 := tcl w
  subst e
  refine ⟨fun m hm => up2_f _ _ _ (by omega), fun m h1 h2 => ?_⟩
  have e9 : m = w.toNatClampNeg := by omega
  rw [e9]; exact up2_s _ _ _ _
theorem spr_one {f kd rd vo ov wt w : Int32} {G : Nat → Nat → Int32} {lst : Int} (h : SPR I E P n now (G 116) (G 117) (G 118) (G 119) (G 120)) (hN : NOBJ I I' E E' P P' 27 9 n dy) (hF : ∀ j : Nat, (j : Int) = n → I' 9 0 (elt E' P' 27 j) = f ∧ (I' 9 1 (elt E' P' 27 j)).toInt = lst ∧ I' 9 2 (elt E' P' 27 j) = kd ∧ I' 9 3 (elt E' P' 27 j) = wt ∧ I' 9 4 (elt E' P' 27 j) = rd ∧ I' 9 5 (elt E' P' 27 j) = vo ∧ I' 9 6 (elt E' P' 27 j) = ov) (hd : ∀ k : Nat, (k : Int) < n → (9, elt E P 27 k) ∈ dy) (hn0 : 0 ≤ n) (hn : n' = n + 1) (hf : f.toInt = now) (hl : now' = lst + 1) (hlst : lst = now) (hw : now = w.toInt)
    (e1 : K' = up2 G 116 w.toNatClampNeg kd 116) (e2 : R' = up2 G 117 w.toNatClampNeg rd 117) (e3 : V' = up2 G 118 w.toNatClampNeg vo 118) (e4 : O' = up2 G 119 w.toNatClampNeg ov 119) (e5 : T' = up2 G 120 w.toNatClampNeg wt 120) : SPR I' E' P' n' now' K' R' V' O' T' := by
  have h0 : 0 ≤ w.toInt := by have := h.2.1; omega
  have r1 := row1 e1 h0
  have r2 := row1 e2 h0
  have r3 := row1 e3 h0
  have r4 := row1 e4 h0
  have r5 := row1 e5 h0
  exact spr_new h hN hF hd hn0 hn hf hl (by omega) (fun m hm => ⟨r1.1 m (by omega), r2.1 m (by omega), r3.1 m (by omega), r4.1 m (by omega), r5.1 m (by omega)⟩) (fun m h1 h2 => ⟨r1.2 m (by omega) (by omega), r2.2 m (by omega) (by omega), r3.2 m (by omega) (by omega), r4.2 m (by omega) (by omega), r5.2 m (by omega) (by omega)⟩)
end NEWSPAN
set_option maxHeartbeats 4000000 in
set_option maxRecDepth 100000 in
theorem c_X2_goBy_e (l : Launch) (g : gG) (J : Nat → Nat → Int32) (L : Nat → Nat → Int64) (I : Nat → Nat → Nat → Int32) (P : Nat → Nat → Nat → Option Nat) (E : Nat → Option Nat) (N : Nat → Nat) (dy : List (Nat × Nat)) (sz : Nat) (a0 : Nat) (hm0 : (9, a0) ∈ dy) (hwf : WXF g J P E N dy) (hls : 0 ≤ (I 9 1 a0).toInt ∧ (I 9 1 a0).toInt ≤ 9998) (hs27 : (J 27 2).toInt ≤ 9999) : Met l yX2_goBy (WS yX2_goBy cX2_goBy 2 none) (RM (8) 5 20050) (PC g [.ref (g.2.2.1 3), .ref a0] ((J, L, I, P, E, N), sgX g ++ dy) sz) (va_Qv (fun (u : (Nat → Nat → Int32) × (Nat → Nat → Nat → Int32) × (Nat → Nat → Nat → Option Nat) × (Nat → Option Nat) × (Nat → Nat) × List (Nat × Nat)) => WXF g (hv J [] [(3, 1), (3, 2), (3, 3), (27, 0), (27, 2)] u.1) (hv P [37] [] u.2.2.1) (hv1 E [27] u.2.2.2.1) u.2.2.2.2.1 u.2.2.2.2.2 ∧ (∀ x ∈ dy, x ∈ u.2.2.2.2.2) ∧ ((u.1 3 1).toInt = (I 9 1 a0).toInt + 1) ∧ ((u.1 27 2).toInt = (J 27 2).toInt + 1) ∧ (∀ k : Nat, (k : Int) < (J 27 2).toInt → elt (hv1 E [27] u.2.2.2.1) (hv P [37] [] u.2.2.1) 27 k = elt E P 27 k) ∧ (elt (hv1 E [27] u.2.2.2.1) (hv P [37] [] u.2.2.1) 27 (J 27 2).toNatClampNeg = a0) ∧ (∀ x ∈ dy, u.2.2.2.2.1 x.2 = N x.2)) (fun u t => at_ g (FR g ((J, L, I, P, E, N), sgX g ++ dy) sz) ((((hv J [] [(3, 1), (3, 2), (3, 3), (27, 0), (27, 2)] u.1), L, (hv I [] [] u.2.1), (hv P [37] [] u.2.2.1), (hv1 E [27] u.2.2.2.1), u.2.2.2.2.1), sgX g ++ u.2.2.2.2.2)) t) (FR g ((J, L, I, P, E, N), sgX g ++ dy) sz)) 5 20050 (FR g ((J, L, I, P, E, N), sgX g ++ dy) sz) := by
  refine ent (by decide +kernel) (Nat.le_of_ble_eq_true rfl) ?_
  intro p e s m below meth c ls hsz C hW hr hlocks hname hl
  generalize FR g ((J, L, I, P, E, N), sgX g ++ dy) sz = A at C hW ⊢
  have hx := C.1.1
  have hb := C.1.2.1
  have hts := C.1.2.2.2.2
  have hl : lv_has ls 2 [(0, .ref (g.2.2.1 3)), (1, .ref a0)] := hl
  obtain ⟨H, hH⟩ : ∃ H : Heap, H = s.heap := ⟨_, rfl⟩
  obtain ⟨locs, hlocs⟩ : ∃ q : List Loc, q = [] := ⟨_, rfl⟩
  have hW : WB g A s.heap H locs (J, L, I, P, E, N) (sgX g ++ dy) := by rw [hH, hlocs]; exact hW
  refine start_ hH hlocs ?_
  refine lv_aload_n hx hb dX2_goBy_0 rfl (lv_at hl 0 rfl) ?_
  refine rg_3_0 C hW (mx_ rfl) tw_276 dX2_goBy_1 ?_
  refine lv_aload_n hx hb dX2_goBy_4 rfl (lv_at hl 1 rfl) ?_
  refine ci_ C hW (runV (x := (g.2.2.1 27)) (As := [.ref a0]) (rest := []) (T := ((J, L, I, P, E, N), sgX g ++ dy)) C hW (c_Jx4a65c_add_9ea2d l g J L I P E N dy H.size 9 27 rfl rfl a0 hm0 hwf.2.1.2.2.2 (show (J 27 2).toInt ≤ 9999 from by omega)) mi_Jx4a65c_add_9ea2d tw_458 (recv_ (T := ((J, L, I, P, E, N), sgX g ++ dy)) C hW (mx_ rfl) (cel_list rfl) rfl) ⟨rfl, rfl, Nat.le_of_ble_eq_true rfl, Nat.le_of_ble_eq_true rfl⟩ rfl hl.1 rfl (Nat.le_of_ble_eq_true rfl) dX2_goBy_5 ⟨Nat.le_of_ble_eq_true rfl, Nat.le_of_ble_eq_true rfl⟩) (fun r1 u1 H locs hp1 hW => ?_)
  obtain ⟨hc1, hG1, hL1, hE1, hF1⟩ := hp1
  have hlo1 : 0 ≤ (J 27 2).toInt := (hwf.2.1.2.2.2).1
  have ht1 : (J 27 2 + 1).toInt = (J 27 2).toInt + 1 := tadd rfl rfl kp1 (by omega)
  have hW : WB g A s.heap H locs ((up2 (up2 J 27 0 u1.1) 27 2 (J 27 2 + 1)), L, I, (hv P [37] [] u1.2.1), (up1 E 27 u1.2.2.1), u1.2.2.2.1) (sgX g ++ u1.2.2.2.2) := hW
  have hwf : WXF g (up2 (up2 J 27 0 u1.1) 27 2 (J 27 2 + 1)) (hv P [37] [] u1.2.1) (up1 E 27 u1.2.2.1) u1.2.2.2.1 u1.2.2.2.2 := wxf_add27 hwf hG1 hL1
  refine lv_pop hx hb dX2_goBy_8 rfl ?_
  refine lv_aload_n hx hb dX2_goBy_9 rfl (lv_at hl 0 rfl) ?_
  refine lv_aload_n hx hb dX2_goBy_10 rfl (lv_at hl 1 rfl) ?_
  refine rg_9_1 C hW (List.mem_append_right _ (hG1.1 _ hm0)) tw_424 dX2_goBy_11 ?_
  refine lv_topi (fun x2 (e2 : x2 = I 9 1 a0) => ?_)
  have t2 : x2.toInt = (I 9 1 a0).toInt := by rw [e2]
  refine lv_iconst (v := 1) hx hb dX2_goBy_14 (by decide) ?_
  refine lv_iadd hx hb dX2_goBy_15 ?_
  refine lv_topi (fun x3 (e3 : x3 = x2 + 1) => ?_)
  try have t3 : x3.toInt = x2.toInt + 1 := tadd e3 rfl kp1 (by omega)
  refine rp_3_1 C hW (mx_ rfl) tw_277 dX2_goBy_16 (fun H locs hW => ?_)
  refine lv_aload_n hx hb dX2_goBy_19 rfl (lv_at hl 0 rfl) ?_
  refine lv_dup hx hb dX2_goBy_20 rfl ?_
  refine rg_3_2 C hW (mx_ rfl) tw_279 dX2_goBy_21 ?_
  refine lv_as (J 3 2) rfl ?_
  refine lv_aload_n hx hb dX2_goBy_24 rfl (lv_at hl 1 rfl) ?_
  refine rg_9_2 C hW (List.mem_append_right _ (hG1.1 _ hm0)) tw_427 dX2_goBy_25 ?_
  refine lv_topi (fun x4 (e4 : x4 = I 9 2 a0) => ?_)
  have t4 : x4.toInt = (I 9 2 a0).toInt := by rw [e4]
  refine lv_bipush (v := 6) hx hb dX2_goBy_28 (by decide) ?_
  refine lv_icmp_ne (tgt := 47) hx hb dX2_goBy_30 (by decide) (fun c5 => ?_) (fun c5 => ?_)
  · have c5 : ¬ x4.toInt = 6 := tne rfl kp6 c5
    refine lv_iconst (v := 0) hx hb dX2_goBy_47 (by decide) ?_
    refine lv_iadd hx hb dX2_goBy_48 ?_
    refine lv_topi (fun x6 (e6 : x6 = (J 3 2) + 0) => ?_)
    refine rp_3_2 C hW (mx_ rfl) tw_279 dX2_goBy_49 (fun H locs hW => ?_)
    refine lv_aload_n hx hb dX2_goBy_52 rfl (lv_at hl 0 rfl) ?_
    refine lv_dup hx hb dX2_goBy_53 rfl ?_
    refine rg_3_3 C hW (mx_ rfl) tw_281 dX2_goBy_54 ?_
    refine lv_as (J 3 3) rfl ?_
    refine lv_aload_n hx hb dX2_goBy_57 rfl (lv_at hl 1 rfl) ?_
    refine rg_9_2 C hW (List.mem_append_right _ (hG1.1 _ hm0)) tw_427 dX2_goBy_58 ?_
    refine lv_topi (fun x7 (e7 : x7 = I 9 2 a0) => ?_)
    have t7 : x7.toInt = (I 9 2 a0).toInt := by rw [e7]
    refine lv_iconst (v := 4) hx hb dX2_goBy_61 (by decide) ?_
    refine lv_icmp_ne (tgt := 69) hx hb dX2_goBy_62 (by decide) (fun c8 => ?_) (fun c8 => ?_)
    · have c8 : ¬ x7.toInt = 4 := tne rfl kp4 c8
      refine lv_iconst (v := 0) hx hb dX2_goBy_69 (by decide) ?_
      refine lv_iadd hx hb dX2_goBy_70 ?_
      refine lv_topi (fun x9 (e9 : x9 = (J 3 3) + 0) => ?_)
      refine rp_3_3 C hW (mx_ rfl) tw_281 dX2_goBy_71 (fun H locs hW => ?_)
      have hF9 : elt (up1 E 27 u1.2.2.1) (hv P [37] [] u1.2.1) 27 (J 27 2).toNatClampNeg = a0 := hF1
      have hJe : (up2 (up2 (up2 (up2 (up2 J 27 0 u1.1) 27 2 (J 27 2 + 1)) 3 1 x3) 3 2 x6) 3 3 x9) = hv J [] [(3, 1), (3, 2), (3, 3), (27, 0), (27, 2)] (up2 (up2 (up2 (up2 (up2 J 27 0 u1.1) 27 2 (J 27 2 + 1)) 3 1 x3) 3 2 x6) 3 3 x9) := ag_hvE (J := J) (R := []) (F := [(3, 1), (3, 2), (3, 3), (27, 0), (27, 2)]) (ag_up (Or.inr rfl) (ag_up (Or.inr rfl) (ag_up (Or.inr rfl) (ag_up (Or.inr rfl) (ag_up (Or.inr rfl) ag_rf)))))
      have hIe : I = hv I [] [] I := ag_hvE (J := I) (R := []) (F := []) ag_rf
      have hPe : (hv P [37] [] u1.2.1) = hv P [37] [] (hv P [37] [] u1.2.1) := ag_hvE (J := P) (R := [37]) (F := []) (ag_hv rfl rfl ag_rf)
      have hEe : (up1 E 27 u1.2.2.1) = hv1 E [27] (up1 E 27 u1.2.2.1) := hv1_e (R := [27]) (up1_ag rfl (fun _ _ => rfl))
      have hWr : WB g A s.heap H locs (hv J [] [(3, 1), (3, 2), (3, 3), (27, 0), (27, 2)] (up2 (up2 (up2 (up2 (up2 J 27 0 u1.1) 27 2 (J 27 2 + 1)) 3 1 x3) 3 2 x6) 3 3 x9), L, hv I [] [] I, hv P [37] [] (hv P [37] [] u1.2.1), hv1 E [27] (up1 E 27 u1.2.2.1), u1.2.2.2.1) (sgX g ++ u1.2.2.2.2) := by
        rw [← hJe, ← hIe, ← hPe, ← hEe]; exact hW
      have hwr : WXF g (hv J [] [(3, 1), (3, 2), (3, 3), (27, 0), (27, 2)] (up2 (up2 (up2 (up2 (up2 J 27 0 u1.1) 27 2 (J 27 2 + 1)) 3 1 x3) 3 2 x6) 3 3 x9)) (hv P [37] [] (hv P [37] [] u1.2.1)) (hv1 E [27] (up1 E 27 u1.2.2.1)) u1.2.2.2.1 u1.2.2.2.2 := by
        rw [← hJe, ← hPe, ← hEe]; exact hwf
      refine W.widen (k := 5) (n := 20050) (Nat.le_of_ble_eq_true rfl) (Nat.le_of_ble_eq_true rfl) ?_
      exact end_v C hr hlocks ((up2 (up2 (up2 (up2 (up2 J 27 0 u1.1) 27 2 (J 27 2 + 1)) 3 1 x3) 3 2 x6) 3 3 x9), I, (hv P [37] [] u1.2.1), (up1 E 27 u1.2.2.1), u1.2.2.2.1, u1.2.2.2.2) hWr ⟨hwr, fun x hx => hG1.1 x ((fun x hx => hx) x hx), show (x3).toInt = (I 9 1 a0).toInt + 1 from by first | omega | assumption, show (J 27 2 + 1).toInt = (J 27 2).toInt + 1 from by first | omega | assumption, show ∀ k : Nat, (k : Int) < (J 27 2).toInt → elt (up1 E 27 u1.2.2.1) (hv P [37] [] u1.2.1) 27 k = elt E P 27 k from by exact fun k9 hk9 => hE1 k9 hk9, show elt (up1 E 27 u1.2.2.1) (hv P [37] [] u1.2.1) 27 (J 27 2).toNatClampNeg = a0 from by exact hF9, show ∀ x ∈ dy, u1.2.2.2.1 x.2 = N x.2 from by exact fun x hx => (hG1.2.2 x ((fun x hx => hx) x hx)).trans ((fun _ _ => rfl) x hx)⟩ dX2_goBy_74
    · have c8 : x7.toInt = 4 := teq rfl kp4 c8
      refine lv_iconst (v := 1) hx hb dX2_goBy_65 (by decide) ?_
      refine lv_goto (tgt := 70) hx hb dX2_goBy_66 (by decide) ?_
      refine lv_iadd hx hb dX2_goBy_70 ?_
      refine lv_topi (fun x10 (e10 : x10 = (J 3 3) + 1) => ?_)
      refine rp_3_3 C hW (mx_ rfl) tw_281 dX2_goBy_71 (fun H locs hW => ?_)
      have hF9 : elt (up1 E 27 u1.2.2.1) (hv P [37] [] u1.2.1) 27 (J 27 2).toNatClampNeg = a0 := hF1
      have hJe : (up2 (up2 (up2 (up2 (up2 J 27 0 u1.1) 27 2 (J 27 2 + 1)) 3 1 x3) 3 2 x6) 3 3 x10) = hv J [] [(3, 1), (3, 2), (3, 3), (27, 0), (27, 2)] (up2 (up2 (up2 (up2 (up2 J 27 0 u1.1) 27 2 (J 27 2 + 1)) 3 1 x3) 3 2 x6) 3 3 x10) := ag_hvE (J := J) (R := []) (F := [(3, 1), (3, 2), (3, 3), (27, 0), (27, 2)]) (ag_up (Or.inr rfl) (ag_up (Or.inr rfl) (ag_up (Or.inr rfl) (ag_up (Or.inr rfl) (ag_up (Or.inr rfl) ag_rf)))))
      have hIe : I = hv I [] [] I := ag_hvE (J := I) (R := []) (F := []) ag_rf
      have hPe : (hv P [37] [] u1.2.1) = hv P [37] [] (hv P [37] [] u1.2.1) := ag_hvE (J := P) (R := [37]) (F := []) (ag_hv rfl rfl ag_rf)
      have hEe : (up1 E 27 u1.2.2.1) = hv1 E [27] (up1 E 27 u1.2.2.1) := hv1_e (R := [27]) (up1_ag rfl (fun _ _ => rfl))
      have hWr : WB g A s.heap H locs (hv J [] [(3, 1), (3, 2), (3, 3), (27, 0), (27, 2)] (up2 (up2 (up2 (up2 (up2 J 27 0 u1.1) 27 2 (J 27 2 + 1)) 3 1 x3) 3 2 x6) 3 3 x10), L, hv I [] [] I, hv P [37] [] (hv P [37] [] u1.2.1), hv1 E [27] (up1 E 27 u1.2.2.1), u1.2.2.2.1) (sgX g ++ u1.2.2.2.2) := by
        rw [← hJe, ← hIe, ← hPe, ← hEe]; exact hW
      have hwr : WXF g (hv J [] [(3, 1), (3, 2), (3, 3), (27, 0), (27, 2)] (up2 (up2 (up2 (up2 (up2 J 27 0 u1.1) 27 2 (J 27 2 + 1)) 3 1 x3) 3 2 x6) 3 3 x10)) (hv P [37] [] (hv P [37] [] u1.2.1)) (hv1 E [27] (up1 E 27 u1.2.2.1)) u1.2.2.2.1 u1.2.2.2.2 := by
        rw [← hJe, ← hPe, ← hEe]; exact hwf
      refine W.widen (k := 5) (n := 20050) (Nat.le_of_ble_eq_true rfl) (Nat.le_of_ble_eq_true rfl) ?_
      exact end_v C hr hlocks ((up2 (up2 (up2 (up2 (up2 J 27 0 u1.1) 27 2 (J 27 2 + 1)) 3 1 x3) 3 2 x6) 3 3 x10), I, (hv P [37] [] u1.2.1), (up1 E 27 u1.2.2.1), u1.2.2.2.1, u1.2.2.2.2) hWr ⟨hwr, fun x hx => hG1.1 x ((fun x hx => hx) x hx), show (x3).toInt = (I 9 1 a0).toInt + 1 from by first | omega | assumption, show (J 27 2 + 1).toInt = (J 27 2).toInt + 1 from by first | omega | assumption, show ∀ k : Nat, (k : Int) < (J 27 2).toInt → elt (up1 E 27 u1.2.2.1) (hv P [37] [] u1.2.1) 27 k = elt E P 27 k from by exact fun k9 hk9 => hE1 k9 hk9, show elt (up1 E 27 u1.2.2.1) (hv P [37] [] u1.2.1) 27 (J 27 2).toNatClampNeg = a0 from by exact hF9, show ∀ x ∈ dy, u1.2.2.2.1 x.2 = N x.2 from by exact fun x hx => (hG1.2.2 x ((fun x hx => hx) x hx)).trans ((fun _ _ => rfl) x hx)⟩ dX2_goBy_74
  · have c5 : x4.toInt = 6 := teq rfl kp6 c5
    refine lv_aload_n hx hb dX2_goBy_33 rfl (lv_at hl 1 rfl) ?_
    refine rg_9_1 C hW (List.mem_append_right _ (hG1.1 _ hm0)) tw_424 dX2_goBy_34 ?_
    refine lv_topi (fun x11 (e11 : x11 = I 9 1 a0) => ?_)
    have t11 : x11.toInt = (I 9 1 a0).toInt := by rw [e11]
    refine lv_aload_n hx hb dX2_goBy_37 rfl (lv_at hl 1 rfl) ?_
    refine rg_9_0 C hW (List.mem_append_right _ (hG1.1 _ hm0)) tw_422 dX2_goBy_38 ?_
    refine lv_topi (fun x12 (e12 : x12 = I 9 0 a0) => ?_)
    have t12 : x12.toInt = (I 9 0 a0).toInt := by rw [e12]
    refine lv_isub hx hb dX2_goBy_41 ?_
    refine lv_topi (fun x13 (e13 : x13 = x11 - x12) => ?_)
    refine lv_iconst (v := 1) hx hb dX2_goBy_42 (by decide) ?_
    refine lv_iadd hx hb dX2_goBy_43 ?_
    refine lv_topi (fun x14 (e14 : x14 = x13 + 1) => ?_)
    refine lv_goto (tgt := 48) hx hb dX2_goBy_44 (by decide) ?_
    refine lv_iadd hx hb dX2_goBy_48 ?_
    refine lv_topi (fun x15 (e15 : x15 = (J 3 2) + x14) => ?_)
    refine rp_3_2 C hW (mx_ rfl) tw_279 dX2_goBy_49 (fun H locs hW => ?_)
    refine lv_aload_n hx hb dX2_goBy_52 rfl (lv_at hl 0 rfl) ?_
    refine lv_dup hx hb dX2_goBy_53 rfl ?_
    refine rg_3_3 C hW (mx_ rfl) tw_281 dX2_goBy_54 ?_
    refine lv_as (J 3 3) rfl ?_
    refine lv_aload_n hx hb dX2_goBy_57 rfl (lv_at hl 1 rfl) ?_
    refine rg_9_2 C hW (List.mem_append_right _ (hG1.1 _ hm0)) tw_427 dX2_goBy_58 ?_
    refine lv_topi (fun x16 (e16 : x16 = I 9 2 a0) => ?_)
    have t16 : x16.toInt = (I 9 2 a0).toInt := by rw [e16]
    refine lv_iconst (v := 4) hx hb dX2_goBy_61 (by decide) ?_
    refine lv_icmp_ne (tgt := 69) hx hb dX2_goBy_62 (by decide) (fun c17 => ?_) (fun c17 => ?_)
    · have c17 : ¬ x16.toInt = 4 := tne rfl kp4 c17
      refine lv_iconst (v := 0) hx hb dX2_goBy_69 (by decide) ?_
      refine lv_iadd hx hb dX2_goBy_70 ?_
      refine lv_topi (fun x18 (e18 : x18 = (J 3 3) + 0) => ?_)
      refine rp_3_3 C hW (mx_ rfl) tw_281 dX2_goBy_71 (fun H locs hW => ?_)
      have hF9 : elt (up1 E 27 u1.2.2.1) (hv P [37] [] u1.2.1) 27 (J 27 2).toNatClampNeg = a0 := hF1
      have hJe : (up2 (up2 (up2 (up2 (up2 J 27 0 u1.1) 27 2 (J 27 2 + 1)) 3 1 x3) 3 2 x15) 3 3 x18) = hv J [] [(3, 1), (3, 2), (3, 3), (27, 0), (27, 2)] (up2 (up2 (up2 (up2 (up2 J 27 0 u1.1) 27 2 (J 27 2 + 1)) 3 1 x3) 3 2 x15) 3 3 x18) := ag_hvE (J := J) (R := []) (F := [(3, 1), (3, 2), (3, 3), (27, 0), (27, 2)]) (ag_up (Or.inr rfl) (ag_up (Or.inr rfl) (ag_up (Or.inr rfl) (ag_up (Or.inr rfl) (ag_up (Or.inr rfl) ag_rf)))))
      have hIe : I = hv I [] [] I := ag_hvE (J := I) (R := []) (F := []) ag_rf
      have hPe : (hv P [37] [] u1.2.1) = hv P [37] [] (hv P [37] [] u1.2.1) := ag_hvE (J := P) (R := [37]) (F := []) (ag_hv rfl rfl ag_rf)
      have hEe : (up1 E 27 u1.2.2.1) = hv1 E [27] (up1 E 27 u1.2.2.1) := hv1_e (R := [27]) (up1_ag rfl (fun _ _ => rfl))
      have hWr : WB g A s.heap H locs (hv J [] [(3, 1), (3, 2), (3, 3), (27, 0), (27, 2)] (up2 (up2 (up2 (up2 (up2 J 27 0 u1.1) 27 2 (J 27 2 + 1)) 3 1 x3) 3 2 x15) 3 3 x18), L, hv I [] [] I, hv P [37] [] (hv P [37] [] u1.2.1), hv1 E [27] (up1 E 27 u1.2.2.1), u1.2.2.2.1) (sgX g ++ u1.2.2.2.2) := by
        rw [← hJe, ← hIe, ← hPe, ← hEe]; exact hW
      have hwr : WXF g (hv J [] [(3, 1), (3, 2), (3, 3), (27, 0), (27, 2)] (up2 (up2 (up2 (up2 (up2 J 27 0 u1.1) 27 2 (J 27 2 + 1)) 3 1 x3) 3 2 x15) 3 3 x18)) (hv P [37] [] (hv P [37] [] u1.2.1)) (hv1 E [27] (up1 E 27 u1.2.2.1)) u1.2.2.2.1 u1.2.2.2.2 := by
        rw [← hJe, ← hPe, ← hEe]; exact hwf
      refine W.widen (k := 5) (n := 20050) (Nat.le_of_ble_eq_true rfl) (Nat.le_of_ble_eq_true rfl) ?_
      exact end_v C hr hlocks ((up2 (up2 (up2 (up2 (up2 J 27 0 u1.1) 27 2 (J 27 2 + 1)) 3 1 x3) 3 2 x15) 3 3 x18), I, (hv P [37] [] u1.2.1), (up1 E 27 u1.2.2.1), u1.2.2.2.1, u1.2.2.2.2) hWr ⟨hwr, fun x hx => hG1.1 x ((fun x hx => hx) x hx), show (x3).toInt = (I 9 1 a0).toInt + 1 from by first | omega | assumption, show (J 27 2 + 1).toInt = (J 27 2).toInt + 1 from by first | omega | assumption, show ∀ k : Nat, (k : Int) < (J 27 2).toInt → elt (up1 E 27 u1.2.2.1) (hv P [37] [] u1.2.1) 27 k = elt E P 27 k from by exact fun k9 hk9 => hE1 k9 hk9, show elt (up1 E 27 u1.2.2.1) (hv P [37] [] u1.2.1) 27 (J 27 2).toNatClampNeg = a0 from by exact hF9, show ∀ x ∈ dy, u1.2.2.2.1 x.2 = N x.2 from by exact fun x hx => (hG1.2.2 x ((fun x hx => hx) x hx)).trans ((fun _ _ => rfl) x hx)⟩ dX2_goBy_74
    · have c17 : x16.toInt = 4 := teq rfl kp4 c17
      refine lv_iconst (v := 1) hx hb dX2_goBy_65 (by decide) ?_
      refine lv_goto (tgt := 70) hx hb dX2_goBy_66 (by decide) ?_
      refine lv_iadd hx hb dX2_goBy_70 ?_
      refine lv_topi (fun x19 (e19 : x19 = (J 3 3) + 1) => ?_)
      refine rp_3_3 C hW (mx_ rfl) tw_281 dX2_goBy_71 (fun H locs hW => ?_)
      have hF9 : elt (up1 E 27 u1.2.2.1) (hv P [37] [] u1.2.1) 27 (J 27 2).toNatClampNeg = a0 := hF1
      have hJe : (up2 (up2 (up2 (up2 (up2 J 27 0 u1.1) 27 2 (J 27 2 + 1)) 3 1 x3) 3 2 x15) 3 3 x19) = hv J [] [(3, 1), (3, 2), (3, 3), (27, 0), (27, 2)] (up2 (up2 (up2 (up2 (up2 J 27 0 u1.1) 27 2 (J 27 2 + 1)) 3 1 x3) 3 2 x15) 3 3 x19) := ag_hvE (J := J) (R := []) (F := [(3, 1), (3, 2), (3, 3), (27, 0), (27, 2)]) (ag_up (Or.inr rfl) (ag_up (Or.inr rfl) (ag_up (Or.inr rfl) (ag_up (Or.inr rfl) (ag_up (Or.inr rfl) ag_rf)))))
      have hIe : I = hv I [] [] I := ag_hvE (J := I) (R := []) (F := []) ag_rf
      have hPe : (hv P [37] [] u1.2.1) = hv P [37] [] (hv P [37] [] u1.2.1) := ag_hvE (J := P) (R := [37]) (F := []) (ag_hv rfl rfl ag_rf)
      have hEe : (up1 E 27 u1.2.2.1) = hv1 E [27] (up1 E 27 u1.2.2.1) := hv1_e (R := [27]) (up1_ag rfl (fun _ _ => rfl))
      have hWr : WB g A s.heap H locs (hv J [] [(3, 1), (3, 2), (3, 3), (27, 0), (27, 2)] (up2 (up2 (up2 (up2 (up2 J 27 0 u1.1) 27 2 (J 27 2 + 1)) 3 1 x3) 3 2 x15) 3 3 x19), L, hv I [] [] I, hv P [37] [] (hv P [37] [] u1.2.1), hv1 E [27] (up1 E 27 u1.2.2.1), u1.2.2.2.1) (sgX g ++ u1.2.2.2.2) := by
        rw [← hJe, ← hIe, ← hPe, ← hEe]; exact hW
      have hwr : WXF g (hv J [] [(3, 1), (3, 2), (3, 3), (27, 0), (27, 2)] (up2 (up2 (up2 (up2 (up2 J 27 0 u1.1) 27 2 (J 27 2 + 1)) 3 1 x3) 3 2 x15) 3 3 x19)) (hv P [37] [] (hv P [37] [] u1.2.1)) (hv1 E [27] (up1 E 27 u1.2.2.1)) u1.2.2.2.1 u1.2.2.2.2 := by
        rw [← hJe, ← hPe, ← hEe]; exact hwf
      refine W.widen (k := 5) (n := 20050) (Nat.le_of_ble_eq_true rfl) (Nat.le_of_ble_eq_true rfl) ?_
      exact end_v C hr hlocks ((up2 (up2 (up2 (up2 (up2 J 27 0 u1.1) 27 2 (J 27 2 + 1)) 3 1 x3) 3 2 x15) 3 3 x19), I, (hv P [37] [] u1.2.1), (up1 E 27 u1.2.2.1), u1.2.2.2.1, u1.2.2.2.2) hWr ⟨hwr, fun x hx => hG1.1 x ((fun x hx => hx) x hx), show (x3).toInt = (I 9 1 a0).toInt + 1 from by first | omega | assumption, show (J 27 2 + 1).toInt = (J 27 2).toInt + 1 from by first | omega | assumption, show ∀ k : Nat, (k : Int) < (J 27 2).toInt → elt (up1 E 27 u1.2.2.1) (hv P [37] [] u1.2.1) 27 k = elt E P 27 k from by exact fun k9 hk9 => hE1 k9 hk9, show elt (up1 E 27 u1.2.2.1) (hv P [37] [] u1.2.1) 27 (J 27 2).toNatClampNeg = a0 from by exact hF9, show ∀ x ∈ dy, u1.2.2.2.1 x.2 = N x.2 from by exact fun x hx => (hG1.2.2 x ((fun x hx => hx) x hx)).trans ((fun _ _ => rfl) x hx)⟩ dX2_goBy_74

set_option maxHeartbeats 4000000 in
set_option maxRecDepth 100000 in
theorem c_X6_readIn_e (l : Launch) (g : gG) (J : Nat → Nat → Int32) (L : Nat → Nat → Int64) (I : Nat → Nat → Nat → Int32) (P : Nat → Nat → Nat → Option Nat) (E : Nat → Option Nat) (N : Nat → Nat) (dy : List (Nat × Nat)) (sz : Nat) (o : Nat) (hmo : (7, o) ∈ dy) (a0 : Int32) (hwf : WXF g J P E N dy) (hri : 0 ≤ a0.toInt ∧ a0.toInt ≤ 9999 ∧ 0 ≤ (I 7 2 o).toInt ∧ (I 7 2 o).toInt ≤ 10000) : Met l yX6_readIn (WS yX6_readIn cX6_readIn 2 none) (RM (1) 0 0) (PC g [.ref o, .int a0] ((J, L, I, P, E, N), sgX g ++ dy) sz) (va_Qv (fun (u : (Nat → Nat → Nat → Int32)) => (∀ b : Nat, b ≠ o → u 7 1 b = I 7 1 b ∧ u 7 2 b = I 7 2 b) ∧ (u 7 1 o = a0) ∧ ((u 7 2 o).toInt = if (I 7 1 o).toInt = a0.toInt - 1 then (I 7 2 o).toInt + 1 else 1) ∧ (u 7 0 = I 7 0)) (fun u t => at_ g (FR g ((J, L, I, P, E, N), sgX g ++ dy) sz) ((J, L, (hv I [] [(7, 1), (7, 2)] u), P, E, N), sgX g ++ dy) t) (FR g ((J, L, I, P, E, N), sgX g ++ dy) sz)) 0 0 (FR g ((J, L, I, P, E, N), sgX g ++ dy) sz) := by
  refine ent (by decide +kernel) (Nat.le_of_ble_eq_true rfl) ?_
  intro p e s m below meth c ls hsz C hW hr hlocks hname hl
  generalize FR g ((J, L, I, P, E, N), sgX g ++ dy) sz = A at C hW ⊢
  have hx := C.1.1
  have hb := C.1.2.1
  have hts := C.1.2.2.2.2
  have hl : lv_has ls 2 [(0, .ref o), (1, .int a0)] := hl
  obtain ⟨H, hH⟩ : ∃ H : Heap, H = s.heap := ⟨_, rfl⟩
  obtain ⟨locs, hlocs⟩ : ∃ q : List Loc, q = [] := ⟨_, rfl⟩
  have hW : WB g A s.heap H locs (J, L, I, P, E, N) (sgX g ++ dy) := by rw [hH, hlocs]; exact hW
  refine start_ hH hlocs ?_
  refine lv_aload_n hx hb dX6_readIn_0 rfl (lv_at hl 0 rfl) ?_
  refine lv_aload_n hx hb dX6_readIn_1 rfl (lv_at hl 0 rfl) ?_
  refine rg_7_1 C hW (List.mem_append_right _ hmo) tw_597 dX6_readIn_2 ?_
  refine lv_topi (fun x1 (e1 : x1 = I 7 1 o) => ?_)
  have t1 : x1.toInt = (I 7 1 o).toInt := by rw [e1]
  refine lv_iload_n hx hb dX6_readIn_5 rfl (lv_at hl 1 rfl) ?_
  refine lv_iconst (v := 1) hx hb dX6_readIn_6 (by decide) ?_
  refine lv_isub hx hb dX6_readIn_7 ?_
  refine lv_topi (fun x2 (e2 : x2 = a0 - 1) => ?_)
  try have t2 : x2.toInt = a0.toInt - 1 := tsub e2 rfl kp1 (by omega)
  refine lv_icmp_ne (tgt := 20) hx hb dX6_readIn_8 (by decide) (fun c3 => ?_) (fun c3 => ?_)
  · have c3 : ¬ x1.toInt = x2.toInt := tne rfl rfl c3
    refine lv_iconst (v := 1) hx hb dX6_readIn_20 (by decide) ?_
    refine rp_7_2 C hW (List.mem_append_right _ hmo) tw_598 dX6_readIn_21 (fun H locs hW => ?_)
    refine lv_aload_n hx hb dX6_readIn_24 rfl (lv_at hl 0 rfl) ?_
    refine lv_iload_n hx hb dX6_readIn_25 rfl (lv_at hl 1 rfl) ?_
    refine rp_7_1 C hW (List.mem_append_right _ hmo) tw_597 dX6_readIn_26 (fun H locs hW => ?_)
    have hWr : WB g A s.heap H locs (J, L, (hv I [] [(7, 1), (7, 2)] (up3 (up3 I 7 2 o 1) 7 1 o a0)), P, E, N) (sgX g ++ dy) := by
      rw [← ag_hvE (J := I) (R := []) (F := [(7, 1), (7, 2)]) (ag_up3 (Or.inr rfl) (ag_up3 (Or.inr rfl) ag_rf))]
      exact hW
    exact end_v C hr hlocks (up3 (up3 I 7 2 o 1) 7 1 o a0) hWr ⟨show ∀ b : Nat, b ≠ o → (up3 (up3 I 7 2 o 1) 7 1 o a0) 7 1 b = I 7 1 b ∧ (up3 (up3 I 7 2 o 1) 7 1 o a0) 7 2 b = I 7 2 b from by exact fun b hb => ⟨(up3_a _ _ _ _ hb _ _).trans (up3_a _ _ _ _ hb _ _), (up3_a _ _ _ _ hb _ _).trans (up3_a _ _ _ _ hb _ _)⟩, show (up3 (up3 I 7 2 o 1) 7 1 o a0) 7 1 o = a0 from by exact up3_s _ _ _ _ _, show ((up3 (up3 I 7 2 o 1) 7 1 o a0) 7 2 o).toInt = if (I 7 1 o).toInt = a0.toInt - 1 then (I 7 2 o).toInt + 1 else 1 from by (have h9 := (show (up3 I 7 2 o 1) 7 2 o = (1 : Int32) from up3_s _ _ _ _ _); refine (congrArg Int32.toInt h9).trans ?_; first | (rw [if_pos (by omega)]; omega) | (rw [if_neg (by omega)]; exact kp1)), show (up3 (up3 I 7 2 o 1) 7 1 o a0) 7 0 = I 7 0 from by rfl⟩ dX6_readIn_29
  · have c3 : x1.toInt = x2.toInt := teq rfl rfl c3
    refine lv_aload_n hx hb dX6_readIn_11 rfl (lv_at hl 0 rfl) ?_
    refine rg_7_2 C hW (List.mem_append_right _ hmo) tw_598 dX6_readIn_12 ?_
    refine lv_topi (fun x4 (e4 : x4 = I 7 2 o) => ?_)
    have t4 : x4.toInt = (I 7 2 o).toInt := by rw [e4]
    refine lv_iconst (v := 1) hx hb dX6_readIn_15 (by decide) ?_
    refine lv_iadd hx hb dX6_readIn_16 ?_
    refine lv_topi (fun x5 (e5 : x5 = x4 + 1) => ?_)
    try have t5 : x5.toInt = x4.toInt + 1 := tadd e5 rfl kp1 (by omega)
    refine lv_goto (tgt := 21) hx hb dX6_readIn_17 (by decide) ?_
    refine rp_7_2 C hW (List.mem_append_right _ hmo) tw_598 dX6_readIn_21 (fun H locs hW => ?_)
    refine lv_aload_n hx hb dX6_readIn_24 rfl (lv_at hl 0 rfl) ?_
    refine lv_iload_n hx hb dX6_readIn_25 rfl (lv_at hl 1 rfl) ?_
    refine rp_7_1 C hW (List.mem_append_right _ hmo) tw_597 dX6_readIn_26 (fun H locs hW => ?_)
    have hWr : WB g A s.heap H locs (J, L, (hv I [] [(7, 1), (7, 2)] (up3 (up3 I 7 2 o x5) 7 1 o a0)), P, E, N) (sgX g ++ dy) := by
      rw [← ag_hvE (J := I) (R := []) (F := [(7, 1), (7, 2)]) (ag_up3 (Or.inr rfl) (ag_up3 (Or.inr rfl) ag_rf))]
      exact hW
    exact end_v C hr hlocks (up3 (up3 I 7 2 o x5) 7 1 o a0) hWr ⟨show ∀ b : Nat, b ≠ o → (up3 (up3 I 7 2 o x5) 7 1 o a0) 7 1 b = I 7 1 b ∧ (up3 (up3 I 7 2 o x5) 7 1 o a0) 7 2 b = I 7 2 b from by exact fun b hb => ⟨(up3_a _ _ _ _ hb _ _).trans (up3_a _ _ _ _ hb _ _), (up3_a _ _ _ _ hb _ _).trans (up3_a _ _ _ _ hb _ _)⟩, show (up3 (up3 I 7 2 o x5) 7 1 o a0) 7 1 o = a0 from by exact up3_s _ _ _ _ _, show ((up3 (up3 I 7 2 o x5) 7 1 o a0) 7 2 o).toInt = if (I 7 1 o).toInt = a0.toInt - 1 then (I 7 2 o).toInt + 1 else 1 from by (have h9 := (show (up3 I 7 2 o x5) 7 2 o = x5 from up3_s _ _ _ _ _); refine (congrArg Int32.toInt h9).trans ?_; first | (rw [if_pos (by omega)]; omega) | (rw [if_neg (by omega)]; exact kp1)), show (up3 (up3 I 7 2 o x5) 7 1 o a0) 7 0 = I 7 0 from by rfl⟩ dX6_readIn_29

set_option maxHeartbeats 4000000 in
set_option maxRecDepth 100000 in
theorem c_X11_markRead_e (l : Launch) (g : gG) (J : Nat → Nat → Int32) (L : Nat → Nat → Int64) (I : Nat → Nat → Nat → Int32) (P : Nat → Nat → Nat → Option Nat) (E : Nat → Option Nat) (N : Nat → Nat) (dy : List (Nat × Nat)) (sz : Nat) (a0 : Int32) (a1 : Int32) (a2 : Int32) (hwf : WXF g J P E N dy) : Met l yX11_markRead (WS yX11_markRead cX11_markRead 5 none) (RM (5) 0 0) (PC g [.ref (g.2.2.1 12), .int a0, .int a1, .int a2] ((J, L, I, P, E, N), sgX g ++ dy) sz) (va_Qv (fun (u : (Nat → Nat → Nat → Int32)) => ((a0.toInt = 0 ∧ 0 ≤ a1.toInt ∧ a1.toInt < (J 26 2).toInt ∧ (I 5 2 (elt E P 26 a1.toNatClampNeg)).toInt = -1) → (∀ b : Nat, b ≠ elt E P 26 a1.toNatClampNeg → u 5 2 b = I 5 2 b) ∧ u 5 2 (elt E P 26 a1.toNatClampNeg) = a2) ∧ (¬ (a0.toInt = 0 ∧ 0 ≤ a1.toInt ∧ a1.toInt < (J 26 2).toInt ∧ (I 5 2 (elt E P 26 a1.toNatClampNeg)).toInt = -1) → u 5 2 = I 5 2)) (fun u t => at_ g (FR g ((J, L, I, P, E, N), sgX g ++ dy) sz) ((J, L, (hv I [] [(5, 2)] u), P, E, N), sgX g ++ dy) t) (FR g ((J, L, I, P, E, N), sgX g ++ dy) sz)) 0 0 (FR g ((J, L, I, P, E, N), sgX g ++ dy) sz) := by
  refine ent (by decide +kernel) (Nat.le_of_ble_eq_true rfl) ?_
  intro p e s m below meth c ls hsz C hW hr hlocks hname hl
  generalize FR g ((J, L, I, P, E, N), sgX g ++ dy) sz = A at C hW ⊢
  have hx := C.1.1
  have hb := C.1.2.1
  have hts := C.1.2.2.2.2
  have hl : lv_has ls 5 [(0, .ref (g.2.2.1 12)), (1, .int a0), (2, .int a1), (3, .int a2)] := hl
  obtain ⟨H, hH⟩ : ∃ H : Heap, H = s.heap := ⟨_, rfl⟩
  obtain ⟨locs, hlocs⟩ : ∃ q : List Loc, q = [] := ⟨_, rfl⟩
  have hW : WB g A s.heap H locs (J, L, I, P, E, N) (sgX g ++ dy) := by rw [hH, hlocs]; exact hW
  refine start_ hH hlocs ?_
  refine lv_iload_n hx hb dX11_markRead_0 rfl (lv_at hl 1 rfl) ?_
  refine lv_if_eq (tgt := 5) hx hb dX11_markRead_1 (by decide) (fun c1 => ?_) (fun c1 => ?_)
  · have c1 : a0.toInt = 0 := teq rfl kp0 c1
    refine lv_aload_n hx hb dX11_markRead_5 rfl (lv_at hl 0 rfl) ?_
    refine lv_iload_n hx hb dX11_markRead_6 rfl (lv_at hl 2 rfl) ?_
    refine cq_ C hW (runV (x := (g.2.2.1 12)) (As := [.int a1]) (rest := []) (T := ((J, L, I, P, E, N), sgX g ++ dy)) C hW (c_X11_newsOf_e l g J L I P E N dy H.size a1 hwf) mi_X11_newsOf tw_631 (recv_ (T := ((J, L, I, P, E, N), sgX g ++ dy)) C hW (mx_ rfl) rfl rfl) ⟨rfl, rfl, Nat.le_of_ble_eq_true rfl, Nat.le_of_ble_eq_true rfl⟩ rfl hl.1 rfl (Nat.le_of_ble_eq_true rfl) dX11_markRead_7 ⟨Nat.le_of_ble_eq_true rfl, Nat.le_of_ble_eq_true rfl⟩) (fun q2 u2 H locs hp2 hW => ?_)
    have hq2 : ((q2 = none ∧ (¬ (0 ≤ a1.toInt ∧ a1.toInt < (J 26 2).toInt))) ∨ (q2 = some (elt E P 26 a1.toNatClampNeg) ∧ (0 ≤ a1.toInt ∧ a1.toInt < (J 26 2).toInt))) := hp2
    clear hp2
    have hW : WB g A s.heap H locs (J, L, I, P, E, N) (sgX g ++ dy) := hW
    rcases hq2 with ⟨rfl, hn2⟩ | ⟨rfl, hs2⟩
    · refine lv_asv (v' := .null) rfl ?_
      refine lv_astoreN (lv' := [(4, .null), (0, .ref (g.2.2.1 12)), (1, .int a0), (2, .int a1), (3, .int a2)]) hx hb dX11_markRead_10 hl (by decide) rfl (fun ls hl => ?_)
      refine lv_aloadN hx hb dX11_markRead_12 (lv_at hl 0 rfl) ?_
      refine lv_ifnullN (tgt := 32) hx hb dX11_markRead_14 (by decide) ?_
      have hWr : WB g A s.heap H locs (J, L, (hv I [] [(5, 2)] I), P, E, N) (sgX g ++ dy) := by
        rw [← ag_hvE (J := I) (R := []) (F := [(5, 2)]) ag_rf]
        exact hW
      exact end_v C hr hlocks I hWr ⟨show (a0.toInt = 0 ∧ 0 ≤ a1.toInt ∧ a1.toInt < (J 26 2).toInt ∧ (I 5 2 (elt E P 26 a1.toNatClampNeg)).toInt = -1) → (∀ b : Nat, b ≠ elt E P 26 a1.toNatClampNeg → I 5 2 b = I 5 2 b) ∧ I 5 2 (elt E P 26 a1.toNatClampNeg) = a2 from by (intro h9; exfalso; omega), show ¬ (a0.toInt = 0 ∧ 0 ≤ a1.toInt ∧ a1.toInt < (J 26 2).toInt ∧ (I 5 2 (elt E P 26 a1.toNatClampNeg)).toInt = -1) → I 5 2 = I 5 2 from by exact fun _ => rfl⟩ dX11_markRead_32
    · skip
      obtain ⟨o2, ho2⟩ : ∃ z : Nat, z = elt E P 26 a1.toNatClampNeg := ⟨_, rfl⟩
      have hm2 : (5, o2) ∈ dy := by rw [ho2]; exact (lw_mem (er := 5) hwf.2.1.2.2.1 (show (a1.toNatClampNeg : Int) < (J 26 2).toInt from by have := tcl a1; omega))
      refine lv_asv (v' := .ref o2) (by rw [ho2]; rfl) ?_
      refine lv_astore (lv' := [(4, .ref o2), (0, .ref (g.2.2.1 12)), (1, .int a0), (2, .int a1), (3, .int a2)]) hx hb dX11_markRead_10 hl (by decide) rfl (fun ls hl => ?_)
      refine lv_aload hx hb dX11_markRead_12 (lv_at hl 0 rfl) ?_
      refine lv_ifnull hx hb dX11_markRead_14 ?_
      refine lv_aload hx hb dX11_markRead_17 (lv_at hl 0 rfl) ?_
      refine rg_5_2 C hW (List.mem_append_right _ hm2) tw_947 dX11_markRead_19 ?_
      refine lv_topi (fun x3 (e3 : x3 = I 5 2 o2) => ?_)
      have t3 : x3.toInt = (I 5 2 o2).toInt := by rw [e3]
      refine lv_iconst (v := (-1)) hx hb dX11_markRead_22 (by decide) ?_
      refine lv_icmp_ne (tgt := 32) hx hb dX11_markRead_23 (by decide) (fun c4 => ?_) (fun c4 => ?_)
      · have c4 : ¬ x3.toInt = (-1) := tne rfl kn1 c4
        have hWr : WB g A s.heap H locs (J, L, (hv I [] [(5, 2)] I), P, E, N) (sgX g ++ dy) := by
          rw [← ag_hvE (J := I) (R := []) (F := [(5, 2)]) ag_rf]
          exact hW
        exact end_v C hr hlocks I hWr ⟨show (a0.toInt = 0 ∧ 0 ≤ a1.toInt ∧ a1.toInt < (J 26 2).toInt ∧ (I 5 2 (elt E P 26 a1.toNatClampNeg)).toInt = -1) → (∀ b : Nat, b ≠ elt E P 26 a1.toNatClampNeg → I 5 2 b = I 5 2 b) ∧ I 5 2 (elt E P 26 a1.toNatClampNeg) = a2 from by (intro h9; exfalso; first | omega | (rw [← ho2] at h9; omega)), show ¬ (a0.toInt = 0 ∧ 0 ≤ a1.toInt ∧ a1.toInt < (J 26 2).toInt ∧ (I 5 2 (elt E P 26 a1.toNatClampNeg)).toInt = -1) → I 5 2 = I 5 2 from by exact fun _ => rfl⟩ dX11_markRead_32
      · have c4 : x3.toInt = (-1) := teq rfl kn1 c4
        refine lv_aload hx hb dX11_markRead_26 (lv_at hl 0 rfl) ?_
        refine lv_iload_n hx hb dX11_markRead_28 rfl (lv_at hl 4 rfl) ?_
        refine rp_5_2 C hW (List.mem_append_right _ hm2) tw_947 dX11_markRead_29 (fun H locs hW => ?_)
        have hWr : WB g A s.heap H locs (J, L, (hv I [] [(5, 2)] (up3 I 5 2 o2 a2)), P, E, N) (sgX g ++ dy) := by
          rw [← ag_hvE (J := I) (R := []) (F := [(5, 2)]) (ag_up3 (Or.inr rfl) ag_rf)]
          exact hW
        exact end_v C hr hlocks (up3 I 5 2 o2 a2) hWr ⟨show (a0.toInt = 0 ∧ 0 ≤ a1.toInt ∧ a1.toInt < (J 26 2).toInt ∧ (I 5 2 (elt E P 26 a1.toNatClampNeg)).toInt = -1) → (∀ b : Nat, b ≠ elt E P 26 a1.toNatClampNeg → (up3 I 5 2 o2 a2) 5 2 b = I 5 2 b) ∧ (up3 I 5 2 o2 a2) 5 2 (elt E P 26 a1.toNatClampNeg) = a2 from by (intro h9; rw [← ho2]; exact ⟨fun b hb => up3_a _ _ _ _ hb _ _, up3_s _ _ _ _ _⟩), show ¬ (a0.toInt = 0 ∧ 0 ≤ a1.toInt ∧ a1.toInt < (J 26 2).toInt ∧ (I 5 2 (elt E P 26 a1.toNatClampNeg)).toInt = -1) → (up3 I 5 2 o2 a2) 5 2 = I 5 2 from by (intro h9; exfalso; rw [← ho2] at h9; omega)⟩ dX11_markRead_32
  · have c1 : ¬ a0.toInt = 0 := tne rfl kp0 c1
    have hWr : WB g A s.heap H locs (J, L, (hv I [] [(5, 2)] I), P, E, N) (sgX g ++ dy) := by
      rw [← ag_hvE (J := I) (R := []) (F := [(5, 2)]) ag_rf]
      exact hW
    exact end_v C hr hlocks I hWr ⟨show (a0.toInt = 0 ∧ 0 ≤ a1.toInt ∧ a1.toInt < (J 26 2).toInt ∧ (I 5 2 (elt E P 26 a1.toNatClampNeg)).toInt = -1) → (∀ b : Nat, b ≠ elt E P 26 a1.toNatClampNeg → I 5 2 b = I 5 2 b) ∧ I 5 2 (elt E P 26 a1.toNatClampNeg) = a2 from by (intro h9; exfalso; omega), show ¬ (a0.toInt = 0 ∧ 0 ≤ a1.toInt ∧ a1.toInt < (J 26 2).toInt ∧ (I 5 2 (elt E P 26 a1.toNatClampNeg)).toInt = -1) → I 5 2 = I 5 2 from by exact fun _ => rfl⟩ dX11_markRead_4

set_option maxHeartbeats 4000000 in
set_option maxRecDepth 100000 in
theorem c_X11_pass_e (l : Launch) (g : gG) (J : Nat → Nat → Int32) (L : Nat → Nat → Int64) (I : Nat → Nat → Nat → Int32) (P : Nat → Nat → Nat → Option Nat) (E : Nat → Option Nat) (N : Nat → Nat) (dy : List (Nat × Nat)) (sz : Nat) (a0 : Int32) (hwf : WXF g J P E N dy) (hn : 0 ≤ (J 3 1).toInt ∧ (J 3 1).toInt ≤ 9999) (hs : (J 27 2).toInt ≤ (J 3 1).toInt) : Met l yX11_pass (WS yX11_pass cX11_pass 2 (some .int)) (RM (9) 10 20100) (PC g [.ref (g.2.2.1 12), .int a0] ((J, L, I, P, E, N), sgX g ++ dy) sz) (va_Qi (fun (r : Int32) (u : (Nat → Nat → Int32) × (Nat → Nat → Nat → Int32) × (Nat → Nat → Nat → Option Nat) × (Nat → Option Nat) × (Nat → Nat) × List (Nat × Nat)) => ((r.toInt = (-4) ∧ (a0.toInt < 1) ∧ u.1 3 1 = J 3 1 ∧ u.1 27 2 = J 27 2 ∧ (∀ k : Nat, elt (hv1 E [27] u.2.2.2.1) (hv P [9, 37] [] u.2.2.1) 27 k = elt E P 27 k) ∧ u.2.1 9 = I 9) ∨ (r.toInt = (-6) ∧ (1 ≤ a0.toInt ∧ 9999 - (J 3 1).toInt < a0.toInt) ∧ u.1 3 1 = J 3 1 ∧ u.1 27 2 = J 27 2 ∧ (∀ k : Nat, elt (hv1 E [27] u.2.2.2.1) (hv P [9, 37] [] u.2.2.1) 27 k = elt E P 27 k) ∧ u.2.1 9 = I 9) ∨ (r.toInt = (J 3 1).toInt + a0.toInt ∧ (1 ≤ a0.toInt ∧ a0.toInt ≤ 9999 - (J 3 1).toInt) ∧ (u.1 3 1).toInt = (J 3 1).toInt + a0.toInt - 1 + 1 ∧ (u.1 27 2).toInt = (J 27 2).toInt + 1 ∧ NOBJ I u.2.1 E (hv1 E [27] u.2.2.2.1) P (hv P [9, 37] [] u.2.2.1) 27 9 (J 27 2).toInt dy ∧ (∀ j : Nat, (j : Int) = (J 27 2).toInt → u.2.1 9 0 (elt (hv1 E [27] u.2.2.2.1) (hv P [9, 37] [] u.2.2.1) 27 j) = J 3 1 ∧ (u.2.1 9 1 (elt (hv1 E [27] u.2.2.2.1) (hv P [9, 37] [] u.2.2.1) 27 j)).toInt = (J 3 1).toInt + a0.toInt - 1 ∧ u.2.1 9 2 (elt (hv1 E [27] u.2.2.2.1) (hv P [9, 37] [] u.2.2.1) 27 j) = 6 ∧ u.2.1 9 3 (elt (hv1 E [27] u.2.2.2.1) (hv P [9, 37] [] u.2.2.1) 27 j) = J 4 4 ∧ u.2.1 9 4 (elt (hv1 E [27] u.2.2.2.1) (hv P [9, 37] [] u.2.2.1) 27 j) = -9 ∧ u.2.1 9 5 (elt (hv1 E [27] u.2.2.2.1) (hv P [9, 37] [] u.2.2.1) 27 j) = 0 ∧ u.2.1 9 6 (elt (hv1 E [27] u.2.2.2.1) (hv P [9, 37] [] u.2.2.1) 27 j) = -9))) ∧ WXF g (hv J [42] [(3, 1), (3, 2), (3, 3), (27, 0), (27, 2)] u.1) (hv P [9, 37] [] u.2.2.1) (hv1 E [27] u.2.2.2.1) u.2.2.2.2.1 u.2.2.2.2.2 ∧ (∀ x ∈ dy, x ∈ u.2.2.2.2.2) ∧ (0 ≤ (u.1 3 1).toInt ∧ (u.1 3 1).toInt ≤ 9999 ∧ (u.1 27 2).toInt ≤ (u.1 3 1).toInt) ∧ (∀ x ∈ dy, u.2.2.2.2.1 x.2 = N x.2)) (fun u t => at_ g (FR g ((J, L, I, P, E, N), sgX g ++ dy) sz) ((((hv J [42] [(3, 1), (3, 2), (3, 3), (27, 0), (27, 2)] u.1), L, (hv I [9] [] u.2.1), (hv P [9, 37] [] u.2.2.1), (hv1 E [27] u.2.2.2.1), u.2.2.2.2.1), sgX g ++ u.2.2.2.2.2)) t) (FR g ((J, L, I, P, E, N), sgX g ++ dy) sz)) 10 20100 (FR g ((J, L, I, P, E, N), sgX g ++ dy) sz) := by
  refine ent (by decide +kernel) (Nat.le_of_ble_eq_true rfl) ?_
  intro p e s m below meth c ls hsz C hW hr hlocks hname hl
  generalize FR g ((J, L, I, P, E, N), sgX g ++ dy) sz = A at C hW ⊢
  have hx := C.1.1
  have hb := C.1.2.1
  have hts := C.1.2.2.2.2
  have hl : lv_has ls 2 [(0, .ref (g.2.2.1 12)), (1, .int a0)] := hl
  obtain ⟨H, hH⟩ : ∃ H : Heap, H = s.heap := ⟨_, rfl⟩
  obtain ⟨locs, hlocs⟩ : ∃ q : List Loc, q = [] := ⟨_, rfl⟩
  have hW : WB g A s.heap H locs (J, L, I, P, E, N) (sgX g ++ dy) := by rw [hH, hlocs]; exact hW
  refine start_ hH hlocs ?_
  refine lv_iload_n hx hb dX11_pass_0 rfl (lv_at hl 1 rfl) ?_
  refine lv_iconst (v := 1) hx hb dX11_pass_1 (by decide) ?_
  refine lv_icmp_ge (tgt := 12) hx hb dX11_pass_2 (by decide) (fun c1 => ?_) (fun c1 => ?_)
  · have c1 : 1 ≤ a0.toInt := tle kp1 rfl c1
    refine lv_iload_n hx hb dX11_pass_12 rfl (lv_at hl 1 rfl) ?_
    refine lv_sipush (v := 9999) hx hb dX11_pass_13 (by decide) ?_
    refine lv_aload_n hx hb dX11_pass_16 rfl (lv_at hl 0 rfl) ?_
    refine rg_12_1 C hW (mx_ rfl) tw_365 dX11_pass_17 ?_
    refine rg_3_1 C hW (mx_ rfl) tw_278 dX11_pass_20 ?_
    refine lv_isub hx hb dX11_pass_23 ?_
    refine lv_topi (fun x2 (e2 : x2 = 9999 - (J 3 1)) => ?_)
    try have t2 : x2.toInt = 9999 - (J 3 1).toInt := tsub e2 kp9999 rfl (by omega)
    refine lv_icmp_le (tgt := 34) hx hb dX11_pass_24 (by decide) (fun c3 => ?_) (fun c3 => ?_)
    · have c3 : a0.toInt ≤ x2.toInt := tle rfl rfl c3
      refine lv_aload_n hx hb dX11_pass_34 rfl (lv_at hl 0 rfl) ?_
      refine rg_12_1 C hW (mx_ rfl) tw_365 dX11_pass_35 ?_
      refine g_new (r := 9) (S' := fun q => (J, L, clr I 9 q 0, clr P 9 q none, E, N)) (ci := 9) (fs := [.int 0, .int 0, .int 0, .int 0, .int 0, .int 0, .int 0]) C hW rfl rfl in_X8 tyX8 tyX8_ok tw_415 tw_416 tw_81 (fun j hj => by rcases (show j = 0 ∨ j = 1 ∨ j = 2 ∨ j = 3 ∨ j = 4 ∨ j = 5 ∨ j = 6 by omega) with rfl | rfl | rfl | rfl | rfl | rfl | rfl <;> rfl) (fun q => by simp only [cel, celc, clr_s] <;> rfl) (fun q r' a h => cel_clr 9 q r' a h) ⟨Nat.le_of_ble_eq_true rfl, Nat.le_of_ble_eq_true rfl⟩ dX11_pass_38 (fun q4 H hfr4 hW => ?_)
      rw [List.append_assoc] at hW
      have hW : WB g A s.heap H locs (J, L, (clr I 9 q4 0), (clr P 9 q4 none), E, N) (sgX g ++ (dy ++ [(9, q4)])) := hW
      refine lv_dup hx hb dX11_pass_41 rfl ?_
      refine lv_aload_n hx hb dX11_pass_42 rfl (lv_at hl 0 rfl) ?_
      refine rg_12_1 C hW (mx_ rfl) tw_365 dX11_pass_43 ?_
      refine rg_3_1 C hW (mx_ rfl) tw_278 dX11_pass_46 ?_
      refine lv_iload_n hx hb dX11_pass_49 rfl (lv_at hl 1 rfl) ?_
      refine lv_bipush (v := 6) hx hb dX11_pass_50 (by decide) ?_
      refine lv_aload_n hx hb dX11_pass_52 rfl (lv_at hl 0 rfl) ?_
      refine rg_12_0 C hW (mx_ rfl) tw_364 dX11_pass_53 ?_
      refine rg_4_4 C hW (mx_ rfl) tw_240 dX11_pass_56 ?_
      refine cv_ C hW (runI (x := q4) (As := [.int (J 3 1), .int a0, .int 6, .int (J 4 4)]) (rest := [.ref q4, .ref (g.2.2.1 3)]) (T := ((J, L, (clr I 9 q4 0), (clr P 9 q4 none), E, N), sgX g ++ (dy ++ [(9, q4)]))) C hW (c_X8_init l g J L (clr I 9 q4 0) (clr P 9 q4 none) E N (dy ++ [(9, q4)]) H.size q4 (List.mem_append_right _ (List.mem_singleton.mpr rfl)) (J 3 1) a0 6 (J 4 4) (show 0 ≤ (J 3 1).toInt ∧ (J 3 1).toInt ≤ 9999 ∧ 0 ≤ a0.toInt ∧ a0.toInt ≤ 9999 from by (try simp only [kp6]); omega)) mi_X8_init tw_417 ⟨rfl, rfl, Nat.le_of_ble_eq_true rfl, Nat.le_of_ble_eq_true rfl⟩ rfl hl.1 rfl (Nat.le_of_ble_eq_true rfl) dX11_pass_59 ⟨Nat.le_of_ble_eq_true rfl, Nat.le_of_ble_eq_true rfl⟩) (fun u5 H locs hp5 hW => ?_)
      have hW : WB g A s.heap H locs (J, L, (up3 (up3 (up3 (up3 (up3 (up3 (clr I 9 q4 0) 9 4 q4 (-9)) 9 6 q4 (-9)) 9 0 q4 (J 3 1)) 9 1 q4 u5) 9 2 q4 6) 9 3 q4 (J 4 4)), (clr P 9 q4 none), E, N) (sgX g ++ (dy ++ [(9, q4)])) := hW
      have hfc5 : ((u5).toInt = (J 3 1).toInt + a0.toInt - 1) := hp5
      have hwf : WXF g J (clr P 9 q4 none) E N (dy ++ [(9, q4)]) := wxf_new (J := J) hwf (fun x hx => hfr4 x (List.mem_append_right _ hx)) (fun r f a h => clr_o _ _ _ h _ _) (fun _ _ => rfl) ⟨fun h => absurd h (by decide), fun h => absurd h (by decide), fun h => absurd h (by decide), fun h => absurd h (by decide)⟩
      have hi6 : (up3 (up3 (up3 (up3 (up3 (up3 (clr I 9 q4 0) 9 4 q4 (-9)) 9 6 q4 (-9)) 9 0 q4 (J 3 1)) 9 1 q4 u5) 9 2 q4 6) 9 3 q4 (J 4 4)) 9 1 q4 = u5 := (show (up3 (up3 (up3 (up3 (clr I 9 q4 0) 9 4 q4 (-9)) 9 6 q4 (-9)) 9 0 q4 (J 3 1)) 9 1 q4 u5) 9 1 q4 = _ from up3_s _ _ _ _ _)
      refine cv_ C hW (runV (x := (g.2.2.1 3)) (As := [.ref q4]) (rest := []) (T := ((J, L, (up3 (up3 (up3 (up3 (up3 (up3 (clr I 9 q4 0) 9 4 q4 (-9)) 9 6 q4 (-9)) 9 0 q4 (J 3 1)) 9 1 q4 u5) 9 2 q4 6) 9 3 q4 (J 4 4)), (clr P 9 q4 none), E, N), sgX g ++ (dy ++ [(9, q4)]))) C hW (c_X2_goBy_e l g J L (up3 (up3 (up3 (up3 (up3 (up3 (clr I 9 q4 0) 9 4 q4 (-9)) 9 6 q4 (-9)) 9 0 q4 (J 3 1)) 9 1 q4 u5) 9 2 q4 6) 9 3 q4 (J 4 4)) (clr P 9 q4 none) E N (dy ++ [(9, q4)]) H.size q4 (List.mem_append_right _ (List.mem_singleton.mpr rfl)) hwf (show 0 ≤ (((up3 (up3 (up3 (up3 (up3 (up3 (clr I 9 q4 0) 9 4 q4 (-9)) 9 6 q4 (-9)) 9 0 q4 (J 3 1)) 9 1 q4 u5) 9 2 q4 6) 9 3 q4 (J 4 4)) 9 1 q4)).toInt ∧ (((up3 (up3 (up3 (up3 (up3 (up3 (clr I 9 q4 0) 9 4 q4 (-9)) 9 6 q4 (-9)) 9 0 q4 (J 3 1)) 9 1 q4 u5) 9 2 q4 6) 9 3 q4 (J 4 4)) 9 1 q4)).toInt ≤ 9998 from by rw [hi6]; omega) (show (J 27 2).toInt ≤ 9999 from by omega)) mi_X2_goBy tw_454 (recv_ (T := ((J, L, (up3 (up3 (up3 (up3 (up3 (up3 (clr I 9 q4 0) 9 4 q4 (-9)) 9 6 q4 (-9)) 9 0 q4 (J 3 1)) 9 1 q4 u5) 9 2 q4 6) 9 3 q4 (J 4 4)), (clr P 9 q4 none), E, N), sgX g ++ (dy ++ [(9, q4)]))) C hW (mx_ rfl) rfl rfl) ⟨rfl, rfl, Nat.le_of_ble_eq_true rfl, Nat.le_of_ble_eq_true rfl⟩ rfl hl.1 rfl (Nat.le_of_ble_eq_true rfl) dX11_pass_62 ⟨Nat.le_of_ble_eq_true rfl, Nat.le_of_ble_eq_true rfl⟩) (fun u7 H locs hp7 hW => ?_)
      have hW : WB g A s.heap H locs ((hv J [] [(3, 1), (3, 2), (3, 3), (27, 0), (27, 2)] u7.1), L, (hv (up3 (up3 (up3 (up3 (up3 (up3 (clr I 9 q4 0) 9 4 q4 (-9)) 9 6 q4 (-9)) 9 0 q4 (J 3 1)) 9 1 q4 u5) 9 2 q4 6) 9 3 q4 (J 4 4)) [] [] u7.2.1), (hv (clr P 9 q4 none) [37] [] u7.2.2.1), (hv1 E [27] u7.2.2.2.1), u7.2.2.2.2.1) (sgX g ++ u7.2.2.2.2.2) := hW
      obtain ⟨hwf, hd7, hf7_0, hf7_1, hf7_2, hf7_3, hf7_4⟩ : WXF g (hv J [] [(3, 1), (3, 2), (3, 3), (27, 0), (27, 2)] u7.1) (hv (clr P 9 q4 none) [37] [] u7.2.2.1) (hv1 E [27] u7.2.2.2.1) u7.2.2.2.2.1 u7.2.2.2.2.2 ∧ (∀ x ∈ (dy ++ [(9, q4)]), x ∈ u7.2.2.2.2.2) ∧ ((u7.1 3 1).toInt = (((up3 (up3 (up3 (up3 (up3 (up3 (clr I 9 q4 0) 9 4 q4 (-9)) 9 6 q4 (-9)) 9 0 q4 (J 3 1)) 9 1 q4 u5) 9 2 q4 6) 9 3 q4 (J 4 4)) 9 1 q4)).toInt + 1) ∧ ((u7.1 27 2).toInt = (J 27 2).toInt + 1) ∧ (∀ k : Nat, (k : Int) < (J 27 2).toInt → elt (hv1 E [27] u7.2.2.2.1) (hv (clr P 9 q4 none) [37] [] u7.2.2.1) 27 k = elt E (clr P 9 q4 none) 27 k) ∧ (elt (hv1 E [27] u7.2.2.2.1) (hv (clr P 9 q4 none) [37] [] u7.2.2.1) 27 (J 27 2).toNatClampNeg = q4) ∧ (∀ x ∈ (dy ++ [(9, q4)]), u7.2.2.2.2.1 x.2 = N x.2) := hp7
      rw [hi6] at hf7_0
      refine lv_aload_n hx hb dX11_pass_65 rfl (lv_at hl 0 rfl) ?_
      refine rg_12_1 C hW (mx_ rfl) tw_365 dX11_pass_66 ?_
      refine rg_3_1 C hW (mx_ rfl) tw_278 dX11_pass_69 ?_
      refine lv_topi (fun x8 (e8 : x8 = u7.1 3 1) => ?_)
      have t8 : x8.toInt = (u7.1 3 1).toInt := by rw [e8]
      have hF9 : elt (hv1 E [27] u7.2.2.2.1) (hv (clr P 9 q4 none) [37] [] u7.2.2.1) 27 (J 27 2).toNatClampNeg = q4 := hf7_3
      have hE7 : ∀ k : Nat, (k : Int) < (J 27 2).toInt → elt (hv1 E [27] u7.2.2.2.1) (hv (clr P 9 q4 none) [37] [] u7.2.2.1) 27 k = elt E P 27 k := hf7_2
      have hJe : (hv J [] [(3, 1), (3, 2), (3, 3), (27, 0), (27, 2)] u7.1) = hv J [42] [(3, 1), (3, 2), (3, 3), (27, 0), (27, 2)] (hv J [] [(3, 1), (3, 2), (3, 3), (27, 0), (27, 2)] u7.1) := ag_hvE (J := J) (R := [42]) (F := [(3, 1), (3, 2), (3, 3), (27, 0), (27, 2)]) (ag_hv rfl rfl ag_rf)
      have hIe : (hv (up3 (up3 (up3 (up3 (up3 (up3 (clr I 9 q4 0) 9 4 q4 (-9)) 9 6 q4 (-9)) 9 0 q4 (J 3 1)) 9 1 q4 u5) 9 2 q4 6) 9 3 q4 (J 4 4)) [] [] u7.2.1) = hv I [9] [] (hv (up3 (up3 (up3 (up3 (up3 (up3 (clr I 9 q4 0) 9 4 q4 (-9)) 9 6 q4 (-9)) 9 0 q4 (J 3 1)) 9 1 q4 u5) 9 2 q4 6) 9 3 q4 (J 4 4)) [] [] u7.2.1) := ag_hvE (J := I) (R := [9]) (F := []) (ag_hv rfl rfl (ag_up3 (Or.inl rfl) (ag_up3 (Or.inl rfl) (ag_up3 (Or.inl rfl) (ag_up3 (Or.inl rfl) (ag_up3 (Or.inl rfl) (ag_up3 (Or.inl rfl) (ag_clr rfl ag_rf))))))))
      have hPe : (hv (clr P 9 q4 none) [37] [] u7.2.2.1) = hv P [9, 37] [] (hv (clr P 9 q4 none) [37] [] u7.2.2.1) := ag_hvE (J := P) (R := [9, 37]) (F := []) (ag_hv rfl rfl (ag_clr rfl ag_rf))
      have hEe : (hv1 E [27] u7.2.2.2.1) = hv1 E [27] (hv1 E [27] u7.2.2.2.1) := hv1_e (R := [27]) (hv1_ag rfl (fun _ _ => rfl))
      have hWr : WB g A s.heap H locs (hv J [42] [(3, 1), (3, 2), (3, 3), (27, 0), (27, 2)] (hv J [] [(3, 1), (3, 2), (3, 3), (27, 0), (27, 2)] u7.1), L, hv I [9] [] (hv (up3 (up3 (up3 (up3 (up3 (up3 (clr I 9 q4 0) 9 4 q4 (-9)) 9 6 q4 (-9)) 9 0 q4 (J 3 1)) 9 1 q4 u5) 9 2 q4 6) 9 3 q4 (J 4 4)) [] [] u7.2.1), hv P [9, 37] [] (hv (clr P 9 q4 none) [37] [] u7.2.2.1), hv1 E [27] (hv1 E [27] u7.2.2.2.1), u7.2.2.2.2.1) (sgX g ++ u7.2.2.2.2.2) := by
        rw [← hJe, ← hIe, ← hPe, ← hEe]; exact hW
      have hwr : WXF g (hv J [42] [(3, 1), (3, 2), (3, 3), (27, 0), (27, 2)] (hv J [] [(3, 1), (3, 2), (3, 3), (27, 0), (27, 2)] u7.1)) (hv P [9, 37] [] (hv (clr P 9 q4 none) [37] [] u7.2.2.1)) (hv1 E [27] (hv1 E [27] u7.2.2.2.1)) u7.2.2.2.2.1 u7.2.2.2.2.2 := by
        rw [← hJe, ← hPe, ← hEe]; exact hwf
      refine W.widen (k := 10) (n := 20100) (Nat.le_of_ble_eq_true rfl) (Nat.le_of_ble_eq_true rfl) ?_
      exact end_i C hr hlocks ((hv J [] [(3, 1), (3, 2), (3, 3), (27, 0), (27, 2)] u7.1), (hv (up3 (up3 (up3 (up3 (up3 (up3 (clr I 9 q4 0) 9 4 q4 (-9)) 9 6 q4 (-9)) 9 0 q4 (J 3 1)) 9 1 q4 u5) 9 2 q4 6) 9 3 q4 (J 4 4)) [] [] u7.2.1), (hv (clr P 9 q4 none) [37] [] u7.2.2.1), (hv1 E [27] u7.2.2.2.1), u7.2.2.2.2.1, u7.2.2.2.2.2) hWr ⟨by first | exact Or.inl ⟨by omega, by omega, show u7.1 3 1 = J 3 1 from by first | rfl | (intro k hk; rfl) | (intro k; rfl), show u7.1 27 2 = J 27 2 from by first | rfl | (intro k hk; rfl) | (intro k; rfl), show (∀ k : Nat, elt (hv1 E [27] u7.2.2.2.1) (hv (clr P 9 q4 none) [37] [] u7.2.2.1) 27 k = elt E P 27 k) from by first | rfl | (intro k hk; rfl) | (intro k; rfl), show (hv (up3 (up3 (up3 (up3 (up3 (up3 (clr I 9 q4 0) 9 4 q4 (-9)) 9 6 q4 (-9)) 9 0 q4 (J 3 1)) 9 1 q4 u5) 9 2 q4 6) 9 3 q4 (J 4 4)) [] [] u7.2.1) 9 = I 9 from by first | rfl | (intro k hk; rfl) | (intro k; rfl)⟩ | exact Or.inr (Or.inl ⟨by omega, by omega, show u7.1 3 1 = J 3 1 from by first | rfl | (intro k hk; rfl) | (intro k; rfl), show u7.1 27 2 = J 27 2 from by first | rfl | (intro k hk; rfl) | (intro k; rfl), show (∀ k : Nat, elt (hv1 E [27] u7.2.2.2.1) (hv (clr P 9 q4 none) [37] [] u7.2.2.1) 27 k = elt E P 27 k) from by first | rfl | (intro k hk; rfl) | (intro k; rfl), show (hv (up3 (up3 (up3 (up3 (up3 (up3 (clr I 9 q4 0) 9 4 q4 (-9)) 9 6 q4 (-9)) 9 0 q4 (J 3 1)) 9 1 q4 u5) 9 2 q4 6) 9 3 q4 (J 4 4)) [] [] u7.2.1) 9 = I 9 from by first | rfl | (intro k hk; rfl) | (intro k; rfl)⟩) | exact Or.inr (Or.inr (⟨by omega, by omega, show (u7.1 3 1).toInt = (J 3 1).toInt + a0.toInt - 1 + 1 from by first | rfl | omega, show (u7.1 27 2).toInt = (J 27 2).toInt + 1 from by first | rfl | omega, show NOBJ I (hv (up3 (up3 (up3 (up3 (up3 (up3 (clr I 9 q4 0) 9 4 q4 (-9)) 9 6 q4 (-9)) 9 0 q4 (J 3 1)) 9 1 q4 u5) 9 2 q4 6) 9 3 q4 (J 4 4)) [] [] u7.2.1) E (hv1 E [27] u7.2.2.2.1) P (hv (clr P 9 q4 none) [37] [] u7.2.2.1) 27 9 (J 27 2).toInt dy from by (exact ⟨fun k9 hk9 => hE7 k9 hk9, fun a9 ha9 f9 => (by have h9 : a9 ≠ q4 := hfr4 (9, a9) (List.mem_append_right _ ha9); show (up3 (up3 (up3 (up3 (up3 (up3 (clr I 9 q4 0) 9 4 q4 (-9)) 9 6 q4 (-9)) 9 0 q4 (J 3 1)) 9 1 q4 u5) 9 2 q4 6) 9 3 q4 (J 4 4)) 9 f9 a9 = I 9 f9 a9; exact (up3_a _ _ _ _ h9 _ _).trans ((up3_a _ _ _ _ h9 _ _).trans ((up3_a _ _ _ _ h9 _ _).trans ((up3_a _ _ _ _ h9 _ _).trans ((up3_a _ _ _ _ h9 _ _).trans ((up3_a _ _ _ _ h9 _ _).trans (clr_o _ _ _ h9 _ _))))))), fun j9 hj9 x9 hx9 => (by have e9 : j9 = (J 27 2).toNatClampNeg := (by have h8 := tcl (J 27 2); omega); rw [e9, hF9]; exact hfr4 x9 (List.mem_append_right _ hx9))⟩), show (∀ j : Nat, (j : Int) = (J 27 2).toInt → (hv (up3 (up3 (up3 (up3 (up3 (up3 (clr I 9 q4 0) 9 4 q4 (-9)) 9 6 q4 (-9)) 9 0 q4 (J 3 1)) 9 1 q4 u5) 9 2 q4 6) 9 3 q4 (J 4 4)) [] [] u7.2.1) 9 0 (elt (hv1 E [27] u7.2.2.2.1) (hv (clr P 9 q4 none) [37] [] u7.2.2.1) 27 j) = J 3 1 ∧ ((hv (up3 (up3 (up3 (up3 (up3 (up3 (clr I 9 q4 0) 9 4 q4 (-9)) 9 6 q4 (-9)) 9 0 q4 (J 3 1)) 9 1 q4 u5) 9 2 q4 6) 9 3 q4 (J 4 4)) [] [] u7.2.1) 9 1 (elt (hv1 E [27] u7.2.2.2.1) (hv (clr P 9 q4 none) [37] [] u7.2.2.1) 27 j)).toInt = (J 3 1).toInt + a0.toInt - 1 ∧ (hv (up3 (up3 (up3 (up3 (up3 (up3 (clr I 9 q4 0) 9 4 q4 (-9)) 9 6 q4 (-9)) 9 0 q4 (J 3 1)) 9 1 q4 u5) 9 2 q4 6) 9 3 q4 (J 4 4)) [] [] u7.2.1) 9 2 (elt (hv1 E [27] u7.2.2.2.1) (hv (clr P 9 q4 none) [37] [] u7.2.2.1) 27 j) = 6 ∧ (hv (up3 (up3 (up3 (up3 (up3 (up3 (clr I 9 q4 0) 9 4 q4 (-9)) 9 6 q4 (-9)) 9 0 q4 (J 3 1)) 9 1 q4 u5) 9 2 q4 6) 9 3 q4 (J 4 4)) [] [] u7.2.1) 9 3 (elt (hv1 E [27] u7.2.2.2.1) (hv (clr P 9 q4 none) [37] [] u7.2.2.1) 27 j) = J 4 4 ∧ (hv (up3 (up3 (up3 (up3 (up3 (up3 (clr I 9 q4 0) 9 4 q4 (-9)) 9 6 q4 (-9)) 9 0 q4 (J 3 1)) 9 1 q4 u5) 9 2 q4 6) 9 3 q4 (J 4 4)) [] [] u7.2.1) 9 4 (elt (hv1 E [27] u7.2.2.2.1) (hv (clr P 9 q4 none) [37] [] u7.2.2.1) 27 j) = -9 ∧ (hv (up3 (up3 (up3 (up3 (up3 (up3 (clr I 9 q4 0) 9 4 q4 (-9)) 9 6 q4 (-9)) 9 0 q4 (J 3 1)) 9 1 q4 u5) 9 2 q4 6) 9 3 q4 (J 4 4)) [] [] u7.2.1) 9 5 (elt (hv1 E [27] u7.2.2.2.1) (hv (clr P 9 q4 none) [37] [] u7.2.2.1) 27 j) = 0 ∧ (hv (up3 (up3 (up3 (up3 (up3 (up3 (clr I 9 q4 0) 9 4 q4 (-9)) 9 6 q4 (-9)) 9 0 q4 (J 3 1)) 9 1 q4 u5) 9 2 q4 6) 9 3 q4 (J 4 4)) [] [] u7.2.1) 9 6 (elt (hv1 E [27] u7.2.2.2.1) (hv (clr P 9 q4 none) [37] [] u7.2.2.1) 27 j) = -9) from by (intro j9 hj9; have e9 : j9 = (J 27 2).toNatClampNeg := (by have h8 := tcl (J 27 2); omega); rw [e9, hF9]; exact ⟨(show (up3 (up3 (up3 (clr I 9 q4 0) 9 4 q4 (-9)) 9 6 q4 (-9)) 9 0 q4 (J 3 1)) 9 0 q4 = (J 3 1) from up3_s _ _ _ _ _), (congrArg Int32.toInt (show (up3 (up3 (up3 (up3 (clr I 9 q4 0) 9 4 q4 (-9)) 9 6 q4 (-9)) 9 0 q4 (J 3 1)) 9 1 q4 u5) 9 1 q4 = u5 from up3_s _ _ _ _ _)).trans (by omega), (show (up3 (up3 (up3 (up3 (up3 (clr I 9 q4 0) 9 4 q4 (-9)) 9 6 q4 (-9)) 9 0 q4 (J 3 1)) 9 1 q4 u5) 9 2 q4 6) 9 2 q4 = (6 : Int32) from up3_s _ _ _ _ _), (show (up3 (up3 (up3 (up3 (up3 (up3 (clr I 9 q4 0) 9 4 q4 (-9)) 9 6 q4 (-9)) 9 0 q4 (J 3 1)) 9 1 q4 u5) 9 2 q4 6) 9 3 q4 (J 4 4)) 9 3 q4 = (J 4 4) from up3_s _ _ _ _ _), (show (up3 (clr I 9 q4 0) 9 4 q4 (-9)) 9 4 q4 = ((-9) : Int32) from up3_s _ _ _ _ _), (show (clr I 9 q4 0) 9 5 q4 = 0 from clr_s _ _ _ _ _), (show (up3 (up3 (clr I 9 q4 0) 9 4 q4 (-9)) 9 6 q4 (-9)) 9 6 q4 = ((-9) : Int32) from up3_s _ _ _ _ _)⟩)⟩)), hwr, fun x hx => hd7 x ((fun x hx => List.mem_append_left _ ((fun x hx => hx) x hx)) x hx), show 0 ≤ (u7.1 3 1).toInt ∧ (u7.1 3 1).toInt ≤ 9999 ∧ (u7.1 27 2).toInt ≤ (u7.1 3 1).toInt from by first | omega | exact ⟨by omega, by omega, by omega⟩, show ∀ x ∈ dy, u7.2.2.2.2.1 x.2 = N x.2 from by exact fun x hx => (hf7_4 x ((fun x hx => List.mem_append_left _ ((fun x hx => hx) x hx)) x hx)).trans ((fun _ _ => rfl) x hx)⟩ dX11_pass_72
    · have c3 : x2.toInt < a0.toInt := tnle rfl rfl c3
      refine lv_aload_n hx hb dX11_pass_27 rfl (lv_at hl 0 rfl) ?_
      refine lv_bipush (v := (-6)) hx hb dX11_pass_28 (by decide) ?_
      refine ci_ C hW (runV (x := (g.2.2.1 12)) (As := [.int (-6)]) (rest := []) (T := ((J, L, I, P, E, N), sgX g ++ dy)) C hW (c_X11_refuse l g J L I P E N dy H.size (-6) hwf) mi_X11_refuse tw_411 (recv_ (T := ((J, L, I, P, E, N), sgX g ++ dy)) C hW (mx_ rfl) rfl rfl) ⟨rfl, rfl, Nat.le_of_ble_eq_true rfl, Nat.le_of_ble_eq_true rfl⟩ rfl hl.1 rfl (Nat.le_of_ble_eq_true rfl) dX11_pass_30 ⟨Nat.le_of_ble_eq_true rfl, Nat.le_of_ble_eq_true rfl⟩) (fun r9 u9 H locs hp9 hW => ?_)
      have hc9 : ((r9 = (-6))) := hp9
      clear hp9
      have hr9 : r9.toInt = (-6) := by rw [hc9]; exact kn6
      have hW : WB g A s.heap H locs ((hv J [42] [] u9), L, I, P, E, N) (sgX g ++ dy) := hW
      have hJe : (hv J [42] [] u9) = hv J [42] [(3, 1), (3, 2), (3, 3), (27, 0), (27, 2)] (hv J [42] [] u9) := ag_hvE (J := J) (R := [42]) (F := [(3, 1), (3, 2), (3, 3), (27, 0), (27, 2)]) (ag_hv rfl rfl ag_rf)
      have hIe : I = hv I [9] [] I := ag_hvE (J := I) (R := [9]) (F := []) ag_rf
      have hPe : P = hv P [9, 37] [] P := ag_hvE (J := P) (R := [9, 37]) (F := []) ag_rf
      have hEe : E = hv1 E [27] E := hv1_e (R := [27]) (fun _ _ => rfl)
      have hWr : WB g A s.heap H locs (hv J [42] [(3, 1), (3, 2), (3, 3), (27, 0), (27, 2)] (hv J [42] [] u9), L, hv I [9] [] I, hv P [9, 37] [] P, hv1 E [27] E, N) (sgX g ++ dy) := by
        rw [← hJe, ← hIe, ← hPe, ← hEe]; exact hW
      have hwr : WXF g (hv J [42] [(3, 1), (3, 2), (3, 3), (27, 0), (27, 2)] (hv J [42] [] u9)) (hv P [9, 37] [] P) (hv1 E [27] E) N dy := by
        rw [← hJe, ← hPe, ← hEe]; exact hwf
      refine W.widen (k := 10) (n := 20100) (Nat.le_of_ble_eq_true rfl) (Nat.le_of_ble_eq_true rfl) ?_
      exact end_i C hr hlocks ((hv J [42] [] u9), I, P, E, N, dy) hWr ⟨by first | exact Or.inl ⟨by omega, by omega, show J 3 1 = J 3 1 from by first | rfl | (intro k hk; rfl) | (intro k; rfl), show J 27 2 = J 27 2 from by first | rfl | (intro k hk; rfl) | (intro k; rfl), show (∀ k : Nat, elt E P 27 k = elt E P 27 k) from by first | rfl | (intro k hk; rfl) | (intro k; rfl), show I 9 = I 9 from by first | rfl | (intro k hk; rfl) | (intro k; rfl)⟩ | exact Or.inr (Or.inl ⟨by omega, by omega, show J 3 1 = J 3 1 from by first | rfl | (intro k hk; rfl) | (intro k; rfl), show J 27 2 = J 27 2 from by first | rfl | (intro k hk; rfl) | (intro k; rfl), show (∀ k : Nat, elt E P 27 k = elt E P 27 k) from by first | rfl | (intro k hk; rfl) | (intro k; rfl), show I 9 = I 9 from by first | rfl | (intro k hk; rfl) | (intro k; rfl)⟩) | exact Or.inr (Or.inr (⟨by omega, by omega, show (J 3 1).toInt = (J 3 1).toInt + a0.toInt - 1 + 1 from by first | rfl | omega | assumption, show (J 27 2).toInt = (J 27 2).toInt + 1 from by first | rfl | omega | assumption, show NOBJ I I E E P P 27 9 (J 27 2).toInt dy from by first | rfl | omega | assumption, show (∀ j : Nat, (j : Int) = (J 27 2).toInt → I 9 0 (elt E P 27 j) = J 3 1 ∧ (I 9 1 (elt E P 27 j)).toInt = (J 3 1).toInt + a0.toInt - 1 ∧ I 9 2 (elt E P 27 j) = 6 ∧ I 9 3 (elt E P 27 j) = J 4 4 ∧ I 9 4 (elt E P 27 j) = -9 ∧ I 9 5 (elt E P 27 j) = 0 ∧ I 9 6 (elt E P 27 j) = -9) from by first | rfl | omega | assumption⟩)), hwr, fun x hx => hx, show 0 ≤ (J 3 1).toInt ∧ (J 3 1).toInt ≤ 9999 ∧ (J 27 2).toInt ≤ (J 3 1).toInt from by first | omega | exact ⟨by omega, by omega, by omega⟩, show ∀ x ∈ dy, N x.2 = N x.2 from by exact fun _ _ => rfl⟩ dX11_pass_33
  · have c1 : a0.toInt < 1 := tnle kp1 rfl c1
    refine lv_aload_n hx hb dX11_pass_5 rfl (lv_at hl 0 rfl) ?_
    refine lv_bipush (v := (-4)) hx hb dX11_pass_6 (by decide) ?_
    refine ci_ C hW (runV (x := (g.2.2.1 12)) (As := [.int (-4)]) (rest := []) (T := ((J, L, I, P, E, N), sgX g ++ dy)) C hW (c_X11_refuse l g J L I P E N dy H.size (-4) hwf) mi_X11_refuse tw_411 (recv_ (T := ((J, L, I, P, E, N), sgX g ++ dy)) C hW (mx_ rfl) rfl rfl) ⟨rfl, rfl, Nat.le_of_ble_eq_true rfl, Nat.le_of_ble_eq_true rfl⟩ rfl hl.1 rfl (Nat.le_of_ble_eq_true rfl) dX11_pass_8 ⟨Nat.le_of_ble_eq_true rfl, Nat.le_of_ble_eq_true rfl⟩) (fun r10 u10 H locs hp10 hW => ?_)
    have hc10 : ((r10 = (-4))) := hp10
    clear hp10
    have hr10 : r10.toInt = (-4) := by rw [hc10]; exact kn4
    have hW : WB g A s.heap H locs ((hv J [42] [] u10), L, I, P, E, N) (sgX g ++ dy) := hW
    have hJe : (hv J [42] [] u10) = hv J [42] [(3, 1), (3, 2), (3, 3), (27, 0), (27, 2)] (hv J [42] [] u10) := ag_hvE (J := J) (R := [42]) (F := [(3, 1), (3, 2), (3, 3), (27, 0), (27, 2)]) (ag_hv rfl rfl ag_rf)
    have hIe : I = hv I [9] [] I := ag_hvE (J := I) (R := [9]) (F := []) ag_rf
    have hPe : P = hv P [9, 37] [] P := ag_hvE (J := P) (R := [9, 37]) (F := []) ag_rf
    have hEe : E = hv1 E [27] E := hv1_e (R := [27]) (fun _ _ => rfl)
    have hWr : WB g A s.heap H locs (hv J [42] [(3, 1), (3, 2), (3, 3), (27, 0), (27, 2)] (hv J [42] [] u10), L, hv I [9] [] I, hv P [9, 37] [] P, hv1 E [27] E, N) (sgX g ++ dy) := by
      rw [← hJe, ← hIe, ← hPe, ← hEe]; exact hW
    have hwr : WXF g (hv J [42] [(3, 1), (3, 2), (3, 3), (27, 0), (27, 2)] (hv J [42] [] u10)) (hv P [9, 37] [] P) (hv1 E [27] E) N dy := by
      rw [← hJe, ← hPe, ← hEe]; exact hwf
    refine W.widen (k := 10) (n := 20100) (Nat.le_of_ble_eq_true rfl) (Nat.le_of_ble_eq_true rfl) ?_
    exact end_i C hr hlocks ((hv J [42] [] u10), I, P, E, N, dy) hWr ⟨by first | exact Or.inl ⟨by omega, by omega, show J 3 1 = J 3 1 from by first | rfl | (intro k hk; rfl) | (intro k; rfl), show J 27 2 = J 27 2 from by first | rfl | (intro k hk; rfl) | (intro k; rfl), show (∀ k : Nat, elt E P 27 k = elt E P 27 k) from by first | rfl | (intro k hk; rfl) | (intro k; rfl), show I 9 = I 9 from by first | rfl | (intro k hk; rfl) | (intro k; rfl)⟩ | exact Or.inr (Or.inl ⟨by omega, by omega, show J 3 1 = J 3 1 from by first | rfl | (intro k hk; rfl) | (intro k; rfl), show J 27 2 = J 27 2 from by first | rfl | (intro k hk; rfl) | (intro k; rfl), show (∀ k : Nat, elt E P 27 k = elt E P 27 k) from by first | rfl | (intro k hk; rfl) | (intro k; rfl), show I 9 = I 9 from by first | rfl | (intro k hk; rfl) | (intro k; rfl)⟩) | exact Or.inr (Or.inr (⟨by omega, by omega, show (J 3 1).toInt = (J 3 1).toInt + a0.toInt - 1 + 1 from by first | rfl | omega | assumption, show (J 27 2).toInt = (J 27 2).toInt + 1 from by first | rfl | omega | assumption, show NOBJ I I E E P P 27 9 (J 27 2).toInt dy from by first | rfl | omega | assumption, show (∀ j : Nat, (j : Int) = (J 27 2).toInt → I 9 0 (elt E P 27 j) = J 3 1 ∧ (I 9 1 (elt E P 27 j)).toInt = (J 3 1).toInt + a0.toInt - 1 ∧ I 9 2 (elt E P 27 j) = 6 ∧ I 9 3 (elt E P 27 j) = J 4 4 ∧ I 9 4 (elt E P 27 j) = -9 ∧ I 9 5 (elt E P 27 j) = 0 ∧ I 9 6 (elt E P 27 j) = -9) from by first | rfl | omega | assumption⟩)), hwr, fun x hx => hx, show 0 ≤ (J 3 1).toInt ∧ (J 3 1).toInt ≤ 9999 ∧ (J 27 2).toInt ≤ (J 3 1).toInt from by first | omega | exact ⟨by omega, by omega, by omega⟩, show ∀ x ∈ dy, N x.2 = N x.2 from by exact fun _ _ => rfl⟩ dX11_pass_11

set_option maxHeartbeats 4000000 in
set_option maxRecDepth 100000 in
theorem c_X11_stage_e (l : Launch) (g : gG) (J : Nat → Nat → Int32) (L : Nat → Nat → Int64) (I : Nat → Nat → Nat → Int32) (P : Nat → Nat → Nat → Option Nat) (E : Nat → Option Nat) (N : Nat → Nat) (dy : List (Nat × Nat)) (sz : Nat) (a0 : Int32) (hwf : WXF g J P E N dy) (hn : 0 ≤ (J 3 1).toInt ∧ (J 3 1).toInt ≤ 9999) (hs : (J 27 2).toInt ≤ (J 3 1).toInt) : Met l yX11_stage (WS yX11_stage cX11_stage 5 (some .int)) (RM (9) 10 20100) (PC g [.ref (g.2.2.1 12), .int a0] ((J, L, I, P, E, N), sgX g ++ dy) sz) (va_Qi (fun (r : Int32) (u : (Nat → Nat → Int32) × (Nat → Nat → Nat → Int32) × (Nat → Nat → Nat → Option Nat) × (Nat → Option Nat) × (Nat → Nat) × List (Nat × Nat)) => ((r.toInt = (-4) ∧ (a0.toInt < 1) ∧ u.1 3 1 = J 3 1 ∧ u.1 27 2 = J 27 2 ∧ (∀ k : Nat, elt (hv1 E [27] u.2.2.2.1) (hv P [9, 37] [] u.2.2.1) 27 k = elt E P 27 k) ∧ u.2.1 9 = I 9) ∨ (r.toInt = (-6) ∧ (1 ≤ a0.toInt ∧ (999 < a0.toInt ∨ 9999 ≤ (J 3 1).toInt)) ∧ u.1 3 1 = J 3 1 ∧ u.1 27 2 = J 27 2 ∧ (∀ k : Nat, elt (hv1 E [27] u.2.2.2.1) (hv P [9, 37] [] u.2.2.1) 27 k = elt E P 27 k) ∧ u.2.1 9 = I 9) ∨ (r.toInt = (J 3 1).toInt ∧ (1 ≤ a0.toInt ∧ a0.toInt ≤ 999 ∧ (J 3 1).toInt < 9999) ∧ (u.1 3 1).toInt = (J 3 1).toInt + 1 ∧ (u.1 27 2).toInt = (J 27 2).toInt + 1 ∧ NOBJ I u.2.1 E (hv1 E [27] u.2.2.2.1) P (hv P [9, 37] [] u.2.2.1) 27 9 (J 27 2).toInt dy ∧ (∀ j : Nat, (j : Int) = (J 27 2).toInt → u.2.1 9 0 (elt (hv1 E [27] u.2.2.2.1) (hv P [9, 37] [] u.2.2.1) 27 j) = J 3 1 ∧ (u.2.1 9 1 (elt (hv1 E [27] u.2.2.2.1) (hv P [9, 37] [] u.2.2.1) 27 j)).toInt = (J 3 1).toInt ∧ u.2.1 9 2 (elt (hv1 E [27] u.2.2.2.1) (hv P [9, 37] [] u.2.2.1) 27 j) = 3 ∧ u.2.1 9 3 (elt (hv1 E [27] u.2.2.2.1) (hv P [9, 37] [] u.2.2.1) 27 j) = J 4 4 ∧ u.2.1 9 4 (elt (hv1 E [27] u.2.2.2.1) (hv P [9, 37] [] u.2.2.1) 27 j) = -9 ∧ u.2.1 9 5 (elt (hv1 E [27] u.2.2.2.1) (hv P [9, 37] [] u.2.2.1) 27 j) = a0 ∧ u.2.1 9 6 (elt (hv1 E [27] u.2.2.2.1) (hv P [9, 37] [] u.2.2.1) 27 j) = -9))) ∧ WXF g (hv J [42] [(3, 1), (3, 2), (3, 3), (27, 0), (27, 2)] u.1) (hv P [9, 37] [] u.2.2.1) (hv1 E [27] u.2.2.2.1) u.2.2.2.2.1 u.2.2.2.2.2 ∧ (∀ x ∈ dy, x ∈ u.2.2.2.2.2) ∧ (0 ≤ (u.1 3 1).toInt ∧ (u.1 3 1).toInt ≤ 9999 ∧ (u.1 27 2).toInt ≤ (u.1 3 1).toInt) ∧ (∀ x ∈ dy, u.2.2.2.2.1 x.2 = N x.2)) (fun u t => at_ g (FR g ((J, L, I, P, E, N), sgX g ++ dy) sz) ((((hv J [42] [(3, 1), (3, 2), (3, 3), (27, 0), (27, 2)] u.1), L, (hv I [9] [] u.2.1), (hv P [9, 37] [] u.2.2.1), (hv1 E [27] u.2.2.2.1), u.2.2.2.2.1), sgX g ++ u.2.2.2.2.2)) t) (FR g ((J, L, I, P, E, N), sgX g ++ dy) sz)) 10 20100 (FR g ((J, L, I, P, E, N), sgX g ++ dy) sz) := by
  refine ent (by decide +kernel) (Nat.le_of_ble_eq_true rfl) ?_
  intro p e s m below meth c ls hsz C hW hr hlocks hname hl
  generalize FR g ((J, L, I, P, E, N), sgX g ++ dy) sz = A at C hW ⊢
  have hx := C.1.1
  have hb := C.1.2.1
  have hts := C.1.2.2.2.2
  have hl : lv_has ls 5 [(0, .ref (g.2.2.1 12)), (1, .int a0)] := hl
  obtain ⟨H, hH⟩ : ∃ H : Heap, H = s.heap := ⟨_, rfl⟩
  obtain ⟨locs, hlocs⟩ : ∃ q : List Loc, q = [] := ⟨_, rfl⟩
  have hW : WB g A s.heap H locs (J, L, I, P, E, N) (sgX g ++ dy) := by rw [hH, hlocs]; exact hW
  refine start_ hH hlocs ?_
  refine lv_iload_n hx hb dX11_stage_0 rfl (lv_at hl 1 rfl) ?_
  refine ci_ C hW (runS (As := [.int a0]) (rest := []) (T := ((J, L, I, P, E, N), sgX g ++ dy)) C hW (c_X11_voiceRefusal l g J L I P E N dy H.size a0 ) mi_X11_voiceRefusal tw_524 ⟨rfl, rfl, Nat.le_of_ble_eq_true rfl, Nat.le_of_ble_eq_true rfl⟩ rfl hl.1 rfl (Nat.le_of_ble_eq_true rfl) dX11_stage_1 ⟨Nat.le_of_ble_eq_true rfl, Nat.le_of_ble_eq_true rfl⟩) (fun r1 u1 H locs hp1 hW => ?_)
  have hc1 : ((r1.toInt = (-4) ∧ (a0.toInt < 1)) ∨ (r1.toInt = (-6) ∧ (999 < a0.toInt)) ∨ (r1.toInt = 0 ∧ (1 ≤ a0.toInt ∧ a0.toInt ≤ 999))) := hp1
  clear hp1
  have hW : WB g A s.heap H locs (J, L, I, P, E, N) (sgX g ++ dy) := hW
  refine lv_istore_n (lv' := [(2, .int r1), (0, .ref (g.2.2.1 12)), (1, .int a0)]) hx hb dX11_stage_4 rfl hl (by decide) rfl (fun ls hl => ?_)
  refine lv_iload_n hx hb dX11_stage_5 rfl (lv_at hl 0 rfl) ?_
  refine lv_if_eq (tgt := 15) hx hb dX11_stage_6 (by decide) (fun c2 => ?_) (fun c2 => ?_)
  · have c2 : r1.toInt = 0 := teq rfl kp0 c2
    refine lv_aload_n hx hb dX11_stage_15 rfl (lv_at hl 1 rfl) ?_
    refine rg_12_1 C hW (mx_ rfl) tw_365 dX11_stage_16 ?_
    refine rg_3_1 C hW (mx_ rfl) tw_278 dX11_stage_19 ?_
    refine lv_sipush (v := 9999) hx hb dX11_stage_22 (by decide) ?_
    refine lv_icmp_lt (tgt := 35) hx hb dX11_stage_25 (by decide) (fun c3 => ?_) (fun c3 => ?_)
    · have c3 : (J 3 1).toInt < 9999 := tlt rfl kp9999 c3
      refine lv_aload_n hx hb dX11_stage_35 rfl (lv_at hl 1 rfl) ?_
      refine rg_12_1 C hW (mx_ rfl) tw_365 dX11_stage_36 ?_
      refine rg_3_1 C hW (mx_ rfl) tw_278 dX11_stage_39 ?_
      refine lv_istore_n (lv' := [(3, .int (J 3 1)), (2, .int r1), (0, .ref (g.2.2.1 12)), (1, .int a0)]) hx hb dX11_stage_42 rfl hl (by decide) rfl (fun ls hl => ?_)
      refine g_new (r := 9) (S' := fun q => (J, L, clr I 9 q 0, clr P 9 q none, E, N)) (ci := 9) (fs := [.int 0, .int 0, .int 0, .int 0, .int 0, .int 0, .int 0]) C hW rfl rfl in_X8 tyX8 tyX8_ok tw_415 tw_416 tw_81 (fun j hj => by rcases (show j = 0 ∨ j = 1 ∨ j = 2 ∨ j = 3 ∨ j = 4 ∨ j = 5 ∨ j = 6 by omega) with rfl | rfl | rfl | rfl | rfl | rfl | rfl <;> rfl) (fun q => by simp only [cel, celc, clr_s] <;> rfl) (fun q r' a h => cel_clr 9 q r' a h) ⟨Nat.le_of_ble_eq_true rfl, Nat.le_of_ble_eq_true rfl⟩ dX11_stage_43 (fun q4 H hfr4 hW => ?_)
      rw [List.append_assoc] at hW
      have hW : WB g A s.heap H locs (J, L, (clr I 9 q4 0), (clr P 9 q4 none), E, N) (sgX g ++ (dy ++ [(9, q4)])) := hW
      refine lv_dup hx hb dX11_stage_46 rfl ?_
      refine lv_iload_n hx hb dX11_stage_47 rfl (lv_at hl 0 rfl) ?_
      refine lv_iconst (v := 1) hx hb dX11_stage_48 (by decide) ?_
      refine lv_iconst (v := 3) hx hb dX11_stage_49 (by decide) ?_
      refine lv_aload_n hx hb dX11_stage_50 rfl (lv_at hl 2 rfl) ?_
      refine rg_12_0 C hW (mx_ rfl) tw_364 dX11_stage_51 ?_
      refine rg_4_4 C hW (mx_ rfl) tw_240 dX11_stage_54 ?_
      refine cv_ C hW (runI (x := q4) (As := [.int (J 3 1), .int 1, .int 3, .int (J 4 4)]) (rest := [.ref q4]) (T := ((J, L, (clr I 9 q4 0), (clr P 9 q4 none), E, N), sgX g ++ (dy ++ [(9, q4)]))) C hW (c_X8_init l g J L (clr I 9 q4 0) (clr P 9 q4 none) E N (dy ++ [(9, q4)]) H.size q4 (List.mem_append_right _ (List.mem_singleton.mpr rfl)) (J 3 1) 1 3 (J 4 4) (show 0 ≤ (J 3 1).toInt ∧ (J 3 1).toInt ≤ 9999 ∧ 0 ≤ (1 : Int32).toInt ∧ (1 : Int32).toInt ≤ 9999 from by (try simp only [kp1]); omega)) mi_X8_init tw_417 ⟨rfl, rfl, Nat.le_of_ble_eq_true rfl, Nat.le_of_ble_eq_true rfl⟩ rfl hl.1 rfl (Nat.le_of_ble_eq_true rfl) dX11_stage_57 ⟨Nat.le_of_ble_eq_true rfl, Nat.le_of_ble_eq_true rfl⟩) (fun u5 H locs hp5 hW => ?_)
      have hW : WB g A s.heap H locs (J, L, (up3 (up3 (up3 (up3 (up3 (up3 (clr I 9 q4 0) 9 4 q4 (-9)) 9 6 q4 (-9)) 9 0 q4 (J 3 1)) 9 1 q4 u5) 9 2 q4 3) 9 3 q4 (J 4 4)), (clr P 9 q4 none), E, N) (sgX g ++ (dy ++ [(9, q4)])) := hW
      have hfc5 : ((u5).toInt = (J 3 1).toInt + 1 - 1) := hp5
      have hwf : WXF g J (clr P 9 q4 none) E N (dy ++ [(9, q4)]) := wxf_new (J := J) hwf (fun x hx => hfr4 x (List.mem_append_right _ hx)) (fun r f a h => clr_o _ _ _ h _ _) (fun _ _ => rfl) ⟨fun h => absurd h (by decide), fun h => absurd h (by decide), fun h => absurd h (by decide), fun h => absurd h (by decide)⟩
      refine lv_astore (lv' := [(4, .ref q4), (3, .int (J 3 1)), (2, .int r1), (0, .ref (g.2.2.1 12)), (1, .int a0)]) hx hb dX11_stage_60 hl (by decide) rfl (fun ls hl => ?_)
      refine lv_aload hx hb dX11_stage_62 (lv_at hl 0 rfl) ?_
      refine lv_iload_n hx hb dX11_stage_64 rfl (lv_at hl 4 rfl) ?_
      refine rp_9_5 C hW (List.mem_append_right _ (List.mem_append_right _ (List.mem_singleton.mpr rfl))) tw_436 dX11_stage_65 (fun H locs hW => ?_)
      refine lv_aload_n hx hb dX11_stage_68 rfl (lv_at hl 3 rfl) ?_
      refine rg_12_1 C hW (mx_ rfl) tw_365 dX11_stage_69 ?_
      refine lv_aload hx hb dX11_stage_72 (lv_at hl 0 rfl) ?_
      have hi6 : (up3 (up3 (up3 (up3 (up3 (up3 (up3 (clr I 9 q4 0) 9 4 q4 (-9)) 9 6 q4 (-9)) 9 0 q4 (J 3 1)) 9 1 q4 u5) 9 2 q4 3) 9 3 q4 (J 4 4)) 9 5 q4 a0) 9 1 q4 = u5 := (show (up3 (up3 (up3 (up3 (clr I 9 q4 0) 9 4 q4 (-9)) 9 6 q4 (-9)) 9 0 q4 (J 3 1)) 9 1 q4 u5) 9 1 q4 = _ from up3_s _ _ _ _ _)
      refine cv_ C hW (runV (x := (g.2.2.1 3)) (As := [.ref q4]) (rest := []) (T := ((J, L, (up3 (up3 (up3 (up3 (up3 (up3 (up3 (clr I 9 q4 0) 9 4 q4 (-9)) 9 6 q4 (-9)) 9 0 q4 (J 3 1)) 9 1 q4 u5) 9 2 q4 3) 9 3 q4 (J 4 4)) 9 5 q4 a0), (clr P 9 q4 none), E, N), sgX g ++ (dy ++ [(9, q4)]))) C hW (c_X2_goBy_e l g J L (up3 (up3 (up3 (up3 (up3 (up3 (up3 (clr I 9 q4 0) 9 4 q4 (-9)) 9 6 q4 (-9)) 9 0 q4 (J 3 1)) 9 1 q4 u5) 9 2 q4 3) 9 3 q4 (J 4 4)) 9 5 q4 a0) (clr P 9 q4 none) E N (dy ++ [(9, q4)]) H.size q4 (List.mem_append_right _ (List.mem_singleton.mpr rfl)) hwf (show 0 ≤ (((up3 (up3 (up3 (up3 (up3 (up3 (up3 (clr I 9 q4 0) 9 4 q4 (-9)) 9 6 q4 (-9)) 9 0 q4 (J 3 1)) 9 1 q4 u5) 9 2 q4 3) 9 3 q4 (J 4 4)) 9 5 q4 a0) 9 1 q4)).toInt ∧ (((up3 (up3 (up3 (up3 (up3 (up3 (up3 (clr I 9 q4 0) 9 4 q4 (-9)) 9 6 q4 (-9)) 9 0 q4 (J 3 1)) 9 1 q4 u5) 9 2 q4 3) 9 3 q4 (J 4 4)) 9 5 q4 a0) 9 1 q4)).toInt ≤ 9998 from by rw [hi6]; omega) (show (J 27 2).toInt ≤ 9999 from by omega)) mi_X2_goBy tw_454 (recv_ (T := ((J, L, (up3 (up3 (up3 (up3 (up3 (up3 (up3 (clr I 9 q4 0) 9 4 q4 (-9)) 9 6 q4 (-9)) 9 0 q4 (J 3 1)) 9 1 q4 u5) 9 2 q4 3) 9 3 q4 (J 4 4)) 9 5 q4 a0), (clr P 9 q4 none), E, N), sgX g ++ (dy ++ [(9, q4)]))) C hW (mx_ rfl) rfl rfl) ⟨rfl, rfl, Nat.le_of_ble_eq_true rfl, Nat.le_of_ble_eq_true rfl⟩ rfl hl.1 rfl (Nat.le_of_ble_eq_true rfl) dX11_stage_74 ⟨Nat.le_of_ble_eq_true rfl, Nat.le_of_ble_eq_true rfl⟩) (fun u7 H locs hp7 hW => ?_)
      have hW : WB g A s.heap H locs ((hv J [] [(3, 1), (3, 2), (3, 3), (27, 0), (27, 2)] u7.1), L, (hv (up3 (up3 (up3 (up3 (up3 (up3 (up3 (clr I 9 q4 0) 9 4 q4 (-9)) 9 6 q4 (-9)) 9 0 q4 (J 3 1)) 9 1 q4 u5) 9 2 q4 3) 9 3 q4 (J 4 4)) 9 5 q4 a0) [] [] u7.2.1), (hv (clr P 9 q4 none) [37] [] u7.2.2.1), (hv1 E [27] u7.2.2.2.1), u7.2.2.2.2.1) (sgX g ++ u7.2.2.2.2.2) := hW
      obtain ⟨hwf, hd7, hf7_0, hf7_1, hf7_2, hf7_3, hf7_4⟩ : WXF g (hv J [] [(3, 1), (3, 2), (3, 3), (27, 0), (27, 2)] u7.1) (hv (clr P 9 q4 none) [37] [] u7.2.2.1) (hv1 E [27] u7.2.2.2.1) u7.2.2.2.2.1 u7.2.2.2.2.2 ∧ (∀ x ∈ (dy ++ [(9, q4)]), x ∈ u7.2.2.2.2.2) ∧ ((u7.1 3 1).toInt = (((up3 (up3 (up3 (up3 (up3 (up3 (up3 (clr I 9 q4 0) 9 4 q4 (-9)) 9 6 q4 (-9)) 9 0 q4 (J 3 1)) 9 1 q4 u5) 9 2 q4 3) 9 3 q4 (J 4 4)) 9 5 q4 a0) 9 1 q4)).toInt + 1) ∧ ((u7.1 27 2).toInt = (J 27 2).toInt + 1) ∧ (∀ k : Nat, (k : Int) < (J 27 2).toInt → elt (hv1 E [27] u7.2.2.2.1) (hv (clr P 9 q4 none) [37] [] u7.2.2.1) 27 k = elt E (clr P 9 q4 none) 27 k) ∧ (elt (hv1 E [27] u7.2.2.2.1) (hv (clr P 9 q4 none) [37] [] u7.2.2.1) 27 (J 27 2).toNatClampNeg = q4) ∧ (∀ x ∈ (dy ++ [(9, q4)]), u7.2.2.2.2.1 x.2 = N x.2) := hp7
      rw [hi6] at hf7_0
      refine lv_iload_n hx hb dX11_stage_77 rfl (lv_at hl 1 rfl) ?_
      have hF9 : elt (hv1 E [27] u7.2.2.2.1) (hv (clr P 9 q4 none) [37] [] u7.2.2.1) 27 (J 27 2).toNatClampNeg = q4 := hf7_3
      have hE7 : ∀ k : Nat, (k : Int) < (J 27 2).toInt → elt (hv1 E [27] u7.2.2.2.1) (hv (clr P 9 q4 none) [37] [] u7.2.2.1) 27 k = elt E P 27 k := hf7_2
      have hJe : (hv J [] [(3, 1), (3, 2), (3, 3), (27, 0), (27, 2)] u7.1) = hv J [42] [(3, 1), (3, 2), (3, 3), (27, 0), (27, 2)] (hv J [] [(3, 1), (3, 2), (3, 3), (27, 0), (27, 2)] u7.1) := ag_hvE (J := J) (R := [42]) (F := [(3, 1), (3, 2), (3, 3), (27, 0), (27, 2)]) (ag_hv rfl rfl ag_rf)
      have hIe : (hv (up3 (up3 (up3 (up3 (up3 (up3 (up3 (clr I 9 q4 0) 9 4 q4 (-9)) 9 6 q4 (-9)) 9 0 q4 (J 3 1)) 9 1 q4 u5) 9 2 q4 3) 9 3 q4 (J 4 4)) 9 5 q4 a0) [] [] u7.2.1) = hv I [9] [] (hv (up3 (up3 (up3 (up3 (up3 (up3 (up3 (clr I 9 q4 0) 9 4 q4 (-9)) 9 6 q4 (-9)) 9 0 q4 (J 3 1)) 9 1 q4 u5) 9 2 q4 3) 9 3 q4 (J 4 4)) 9 5 q4 a0) [] [] u7.2.1) := ag_hvE (J := I) (R := [9]) (F := []) (ag_hv rfl rfl (ag_up3 (Or.inl rfl) (ag_up3 (Or.inl rfl) (ag_up3 (Or.inl rfl) (ag_up3 (Or.inl rfl) (ag_up3 (Or.inl rfl) (ag_up3 (Or.inl rfl) (ag_up3 (Or.inl rfl) (ag_clr rfl ag_rf)))))))))
      have hPe : (hv (clr P 9 q4 none) [37] [] u7.2.2.1) = hv P [9, 37] [] (hv (clr P 9 q4 none) [37] [] u7.2.2.1) := ag_hvE (J := P) (R := [9, 37]) (F := []) (ag_hv rfl rfl (ag_clr rfl ag_rf))
      have hEe : (hv1 E [27] u7.2.2.2.1) = hv1 E [27] (hv1 E [27] u7.2.2.2.1) := hv1_e (R := [27]) (hv1_ag rfl (fun _ _ => rfl))
      have hWr : WB g A s.heap H locs (hv J [42] [(3, 1), (3, 2), (3, 3), (27, 0), (27, 2)] (hv J [] [(3, 1), (3, 2), (3, 3), (27, 0), (27, 2)] u7.1), L, hv I [9] [] (hv (up3 (up3 (up3 (up3 (up3 (up3 (up3 (clr I 9 q4 0) 9 4 q4 (-9)) 9 6 q4 (-9)) 9 0 q4 (J 3 1)) 9 1 q4 u5) 9 2 q4 3) 9 3 q4 (J 4 4)) 9 5 q4 a0) [] [] u7.2.1), hv P [9, 37] [] (hv (clr P 9 q4 none) [37] [] u7.2.2.1), hv1 E [27] (hv1 E [27] u7.2.2.2.1), u7.2.2.2.2.1) (sgX g ++ u7.2.2.2.2.2) := by
        rw [← hJe, ← hIe, ← hPe, ← hEe]; exact hW
      have hwr : WXF g (hv J [42] [(3, 1), (3, 2), (3, 3), (27, 0), (27, 2)] (hv J [] [(3, 1), (3, 2), (3, 3), (27, 0), (27, 2)] u7.1)) (hv P [9, 37] [] (hv (clr P 9 q4 none) [37] [] u7.2.2.1)) (hv1 E [27] (hv1 E [27] u7.2.2.2.1)) u7.2.2.2.2.1 u7.2.2.2.2.2 := by
        rw [← hJe, ← hPe, ← hEe]; exact hwf
      refine W.widen (k := 10) (n := 20100) (Nat.le_of_ble_eq_true rfl) (Nat.le_of_ble_eq_true rfl) ?_
      exact end_i C hr hlocks ((hv J [] [(3, 1), (3, 2), (3, 3), (27, 0), (27, 2)] u7.1), (hv (up3 (up3 (up3 (up3 (up3 (up3 (up3 (clr I 9 q4 0) 9 4 q4 (-9)) 9 6 q4 (-9)) 9 0 q4 (J 3 1)) 9 1 q4 u5) 9 2 q4 3) 9 3 q4 (J 4 4)) 9 5 q4 a0) [] [] u7.2.1), (hv (clr P 9 q4 none) [37] [] u7.2.2.1), (hv1 E [27] u7.2.2.2.1), u7.2.2.2.2.1, u7.2.2.2.2.2) hWr ⟨by first | exact Or.inl ⟨by omega, by omega, show u7.1 3 1 = J 3 1 from by first | rfl | (intro k hk; rfl) | (intro k; rfl), show u7.1 27 2 = J 27 2 from by first | rfl | (intro k hk; rfl) | (intro k; rfl), show (∀ k : Nat, elt (hv1 E [27] u7.2.2.2.1) (hv (clr P 9 q4 none) [37] [] u7.2.2.1) 27 k = elt E P 27 k) from by first | rfl | (intro k hk; rfl) | (intro k; rfl), show (hv (up3 (up3 (up3 (up3 (up3 (up3 (up3 (clr I 9 q4 0) 9 4 q4 (-9)) 9 6 q4 (-9)) 9 0 q4 (J 3 1)) 9 1 q4 u5) 9 2 q4 3) 9 3 q4 (J 4 4)) 9 5 q4 a0) [] [] u7.2.1) 9 = I 9 from by first | rfl | (intro k hk; rfl) | (intro k; rfl)⟩ | exact Or.inr (Or.inl ⟨by omega, by omega, show u7.1 3 1 = J 3 1 from by first | rfl | (intro k hk; rfl) | (intro k; rfl), show u7.1 27 2 = J 27 2 from by first | rfl | (intro k hk; rfl) | (intro k; rfl), show (∀ k : Nat, elt (hv1 E [27] u7.2.2.2.1) (hv (clr P 9 q4 none) [37] [] u7.2.2.1) 27 k = elt E P 27 k) from by first | rfl | (intro k hk; rfl) | (intro k; rfl), show (hv (up3 (up3 (up3 (up3 (up3 (up3 (up3 (clr I 9 q4 0) 9 4 q4 (-9)) 9 6 q4 (-9)) 9 0 q4 (J 3 1)) 9 1 q4 u5) 9 2 q4 3) 9 3 q4 (J 4 4)) 9 5 q4 a0) [] [] u7.2.1) 9 = I 9 from by first | rfl | (intro k hk; rfl) | (intro k; rfl)⟩) | exact Or.inr (Or.inr (⟨by omega, by omega, show (u7.1 3 1).toInt = (J 3 1).toInt + 1 from by first | rfl | omega, show (u7.1 27 2).toInt = (J 27 2).toInt + 1 from by first | rfl | omega, show NOBJ I (hv (up3 (up3 (up3 (up3 (up3 (up3 (up3 (clr I 9 q4 0) 9 4 q4 (-9)) 9 6 q4 (-9)) 9 0 q4 (J 3 1)) 9 1 q4 u5) 9 2 q4 3) 9 3 q4 (J 4 4)) 9 5 q4 a0) [] [] u7.2.1) E (hv1 E [27] u7.2.2.2.1) P (hv (clr P 9 q4 none) [37] [] u7.2.2.1) 27 9 (J 27 2).toInt dy from by (exact ⟨fun k9 hk9 => hE7 k9 hk9, fun a9 ha9 f9 => (by have h9 : a9 ≠ q4 := hfr4 (9, a9) (List.mem_append_right _ ha9); show (up3 (up3 (up3 (up3 (up3 (up3 (up3 (clr I 9 q4 0) 9 4 q4 (-9)) 9 6 q4 (-9)) 9 0 q4 (J 3 1)) 9 1 q4 u5) 9 2 q4 3) 9 3 q4 (J 4 4)) 9 5 q4 a0) 9 f9 a9 = I 9 f9 a9; exact (up3_a _ _ _ _ h9 _ _).trans ((up3_a _ _ _ _ h9 _ _).trans ((up3_a _ _ _ _ h9 _ _).trans ((up3_a _ _ _ _ h9 _ _).trans ((up3_a _ _ _ _ h9 _ _).trans ((up3_a _ _ _ _ h9 _ _).trans ((up3_a _ _ _ _ h9 _ _).trans (clr_o _ _ _ h9 _ _)))))))), fun j9 hj9 x9 hx9 => (by have e9 : j9 = (J 27 2).toNatClampNeg := (by have h8 := tcl (J 27 2); omega); rw [e9, hF9]; exact hfr4 x9 (List.mem_append_right _ hx9))⟩), show (∀ j : Nat, (j : Int) = (J 27 2).toInt → (hv (up3 (up3 (up3 (up3 (up3 (up3 (up3 (clr I 9 q4 0) 9 4 q4 (-9)) 9 6 q4 (-9)) 9 0 q4 (J 3 1)) 9 1 q4 u5) 9 2 q4 3) 9 3 q4 (J 4 4)) 9 5 q4 a0) [] [] u7.2.1) 9 0 (elt (hv1 E [27] u7.2.2.2.1) (hv (clr P 9 q4 none) [37] [] u7.2.2.1) 27 j) = J 3 1 ∧ ((hv (up3 (up3 (up3 (up3 (up3 (up3 (up3 (clr I 9 q4 0) 9 4 q4 (-9)) 9 6 q4 (-9)) 9 0 q4 (J 3 1)) 9 1 q4 u5) 9 2 q4 3) 9 3 q4 (J 4 4)) 9 5 q4 a0) [] [] u7.2.1) 9 1 (elt (hv1 E [27] u7.2.2.2.1) (hv (clr P 9 q4 none) [37] [] u7.2.2.1) 27 j)).toInt = (J 3 1).toInt ∧ (hv (up3 (up3 (up3 (up3 (up3 (up3 (up3 (clr I 9 q4 0) 9 4 q4 (-9)) 9 6 q4 (-9)) 9 0 q4 (J 3 1)) 9 1 q4 u5) 9 2 q4 3) 9 3 q4 (J 4 4)) 9 5 q4 a0) [] [] u7.2.1) 9 2 (elt (hv1 E [27] u7.2.2.2.1) (hv (clr P 9 q4 none) [37] [] u7.2.2.1) 27 j) = 3 ∧ (hv (up3 (up3 (up3 (up3 (up3 (up3 (up3 (clr I 9 q4 0) 9 4 q4 (-9)) 9 6 q4 (-9)) 9 0 q4 (J 3 1)) 9 1 q4 u5) 9 2 q4 3) 9 3 q4 (J 4 4)) 9 5 q4 a0) [] [] u7.2.1) 9 3 (elt (hv1 E [27] u7.2.2.2.1) (hv (clr P 9 q4 none) [37] [] u7.2.2.1) 27 j) = J 4 4 ∧ (hv (up3 (up3 (up3 (up3 (up3 (up3 (up3 (clr I 9 q4 0) 9 4 q4 (-9)) 9 6 q4 (-9)) 9 0 q4 (J 3 1)) 9 1 q4 u5) 9 2 q4 3) 9 3 q4 (J 4 4)) 9 5 q4 a0) [] [] u7.2.1) 9 4 (elt (hv1 E [27] u7.2.2.2.1) (hv (clr P 9 q4 none) [37] [] u7.2.2.1) 27 j) = -9 ∧ (hv (up3 (up3 (up3 (up3 (up3 (up3 (up3 (clr I 9 q4 0) 9 4 q4 (-9)) 9 6 q4 (-9)) 9 0 q4 (J 3 1)) 9 1 q4 u5) 9 2 q4 3) 9 3 q4 (J 4 4)) 9 5 q4 a0) [] [] u7.2.1) 9 5 (elt (hv1 E [27] u7.2.2.2.1) (hv (clr P 9 q4 none) [37] [] u7.2.2.1) 27 j) = a0 ∧ (hv (up3 (up3 (up3 (up3 (up3 (up3 (up3 (clr I 9 q4 0) 9 4 q4 (-9)) 9 6 q4 (-9)) 9 0 q4 (J 3 1)) 9 1 q4 u5) 9 2 q4 3) 9 3 q4 (J 4 4)) 9 5 q4 a0) [] [] u7.2.1) 9 6 (elt (hv1 E [27] u7.2.2.2.1) (hv (clr P 9 q4 none) [37] [] u7.2.2.1) 27 j) = -9) from by (intro j9 hj9; have e9 : j9 = (J 27 2).toNatClampNeg := (by have h8 := tcl (J 27 2); omega); rw [e9, hF9]; exact ⟨(show (up3 (up3 (up3 (clr I 9 q4 0) 9 4 q4 (-9)) 9 6 q4 (-9)) 9 0 q4 (J 3 1)) 9 0 q4 = (J 3 1) from up3_s _ _ _ _ _), (congrArg Int32.toInt (show (up3 (up3 (up3 (up3 (clr I 9 q4 0) 9 4 q4 (-9)) 9 6 q4 (-9)) 9 0 q4 (J 3 1)) 9 1 q4 u5) 9 1 q4 = u5 from up3_s _ _ _ _ _)).trans (by omega), (show (up3 (up3 (up3 (up3 (up3 (clr I 9 q4 0) 9 4 q4 (-9)) 9 6 q4 (-9)) 9 0 q4 (J 3 1)) 9 1 q4 u5) 9 2 q4 3) 9 2 q4 = (3 : Int32) from up3_s _ _ _ _ _), (show (up3 (up3 (up3 (up3 (up3 (up3 (clr I 9 q4 0) 9 4 q4 (-9)) 9 6 q4 (-9)) 9 0 q4 (J 3 1)) 9 1 q4 u5) 9 2 q4 3) 9 3 q4 (J 4 4)) 9 3 q4 = (J 4 4) from up3_s _ _ _ _ _), (show (up3 (clr I 9 q4 0) 9 4 q4 (-9)) 9 4 q4 = ((-9) : Int32) from up3_s _ _ _ _ _), (show (up3 (up3 (up3 (up3 (up3 (up3 (up3 (clr I 9 q4 0) 9 4 q4 (-9)) 9 6 q4 (-9)) 9 0 q4 (J 3 1)) 9 1 q4 u5) 9 2 q4 3) 9 3 q4 (J 4 4)) 9 5 q4 a0) 9 5 q4 = a0 from up3_s _ _ _ _ _), (show (up3 (up3 (clr I 9 q4 0) 9 4 q4 (-9)) 9 6 q4 (-9)) 9 6 q4 = ((-9) : Int32) from up3_s _ _ _ _ _)⟩)⟩)) | (rcases hc1 with qhc1 | qhc1 | qhc1 <;> first | exact Or.inl ⟨by omega, by omega, show u7.1 3 1 = J 3 1 from by first | rfl | (intro k hk; rfl) | (intro k; rfl), show u7.1 27 2 = J 27 2 from by first | rfl | (intro k hk; rfl) | (intro k; rfl), show (∀ k : Nat, elt (hv1 E [27] u7.2.2.2.1) (hv (clr P 9 q4 none) [37] [] u7.2.2.1) 27 k = elt E P 27 k) from by first | rfl | (intro k hk; rfl) | (intro k; rfl), show (hv (up3 (up3 (up3 (up3 (up3 (up3 (up3 (clr I 9 q4 0) 9 4 q4 (-9)) 9 6 q4 (-9)) 9 0 q4 (J 3 1)) 9 1 q4 u5) 9 2 q4 3) 9 3 q4 (J 4 4)) 9 5 q4 a0) [] [] u7.2.1) 9 = I 9 from by first | rfl | (intro k hk; rfl) | (intro k; rfl)⟩ | exact Or.inr (Or.inl ⟨by omega, by omega, show u7.1 3 1 = J 3 1 from by first | rfl | (intro k hk; rfl) | (intro k; rfl), show u7.1 27 2 = J 27 2 from by first | rfl | (intro k hk; rfl) | (intro k; rfl), show (∀ k : Nat, elt (hv1 E [27] u7.2.2.2.1) (hv (clr P 9 q4 none) [37] [] u7.2.2.1) 27 k = elt E P 27 k) from by first | rfl | (intro k hk; rfl) | (intro k; rfl), show (hv (up3 (up3 (up3 (up3 (up3 (up3 (up3 (clr I 9 q4 0) 9 4 q4 (-9)) 9 6 q4 (-9)) 9 0 q4 (J 3 1)) 9 1 q4 u5) 9 2 q4 3) 9 3 q4 (J 4 4)) 9 5 q4 a0) [] [] u7.2.1) 9 = I 9 from by first | rfl | (intro k hk; rfl) | (intro k; rfl)⟩) | exact Or.inr (Or.inr (⟨by omega, by omega, show (u7.1 3 1).toInt = (J 3 1).toInt + 1 from by first | rfl | omega, show (u7.1 27 2).toInt = (J 27 2).toInt + 1 from by first | rfl | omega, show NOBJ I (hv (up3 (up3 (up3 (up3 (up3 (up3 (up3 (clr I 9 q4 0) 9 4 q4 (-9)) 9 6 q4 (-9)) 9 0 q4 (J 3 1)) 9 1 q4 u5) 9 2 q4 3) 9 3 q4 (J 4 4)) 9 5 q4 a0) [] [] u7.2.1) E (hv1 E [27] u7.2.2.2.1) P (hv (clr P 9 q4 none) [37] [] u7.2.2.1) 27 9 (J 27 2).toInt dy from by (exact ⟨fun k9 hk9 => hE7 k9 hk9, fun a9 ha9 f9 => (by have h9 : a9 ≠ q4 := hfr4 (9, a9) (List.mem_append_right _ ha9); show (up3 (up3 (up3 (up3 (up3 (up3 (up3 (clr I 9 q4 0) 9 4 q4 (-9)) 9 6 q4 (-9)) 9 0 q4 (J 3 1)) 9 1 q4 u5) 9 2 q4 3) 9 3 q4 (J 4 4)) 9 5 q4 a0) 9 f9 a9 = I 9 f9 a9; exact (up3_a _ _ _ _ h9 _ _).trans ((up3_a _ _ _ _ h9 _ _).trans ((up3_a _ _ _ _ h9 _ _).trans ((up3_a _ _ _ _ h9 _ _).trans ((up3_a _ _ _ _ h9 _ _).trans ((up3_a _ _ _ _ h9 _ _).trans ((up3_a _ _ _ _ h9 _ _).trans (clr_o _ _ _ h9 _ _)))))))), fun j9 hj9 x9 hx9 => (by have e9 : j9 = (J 27 2).toNatClampNeg := (by have h8 := tcl (J 27 2); omega); rw [e9, hF9]; exact hfr4 x9 (List.mem_append_right _ hx9))⟩), show (∀ j : Nat, (j : Int) = (J 27 2).toInt → (hv (up3 (up3 (up3 (up3 (up3 (up3 (up3 (clr I 9 q4 0) 9 4 q4 (-9)) 9 6 q4 (-9)) 9 0 q4 (J 3 1)) 9 1 q4 u5) 9 2 q4 3) 9 3 q4 (J 4 4)) 9 5 q4 a0) [] [] u7.2.1) 9 0 (elt (hv1 E [27] u7.2.2.2.1) (hv (clr P 9 q4 none) [37] [] u7.2.2.1) 27 j) = J 3 1 ∧ ((hv (up3 (up3 (up3 (up3 (up3 (up3 (up3 (clr I 9 q4 0) 9 4 q4 (-9)) 9 6 q4 (-9)) 9 0 q4 (J 3 1)) 9 1 q4 u5) 9 2 q4 3) 9 3 q4 (J 4 4)) 9 5 q4 a0) [] [] u7.2.1) 9 1 (elt (hv1 E [27] u7.2.2.2.1) (hv (clr P 9 q4 none) [37] [] u7.2.2.1) 27 j)).toInt = (J 3 1).toInt ∧ (hv (up3 (up3 (up3 (up3 (up3 (up3 (up3 (clr I 9 q4 0) 9 4 q4 (-9)) 9 6 q4 (-9)) 9 0 q4 (J 3 1)) 9 1 q4 u5) 9 2 q4 3) 9 3 q4 (J 4 4)) 9 5 q4 a0) [] [] u7.2.1) 9 2 (elt (hv1 E [27] u7.2.2.2.1) (hv (clr P 9 q4 none) [37] [] u7.2.2.1) 27 j) = 3 ∧ (hv (up3 (up3 (up3 (up3 (up3 (up3 (up3 (clr I 9 q4 0) 9 4 q4 (-9)) 9 6 q4 (-9)) 9 0 q4 (J 3 1)) 9 1 q4 u5) 9 2 q4 3) 9 3 q4 (J 4 4)) 9 5 q4 a0) [] [] u7.2.1) 9 3 (elt (hv1 E [27] u7.2.2.2.1) (hv (clr P 9 q4 none) [37] [] u7.2.2.1) 27 j) = J 4 4 ∧ (hv (up3 (up3 (up3 (up3 (up3 (up3 (up3 (clr I 9 q4 0) 9 4 q4 (-9)) 9 6 q4 (-9)) 9 0 q4 (J 3 1)) 9 1 q4 u5) 9 2 q4 3) 9 3 q4 (J 4 4)) 9 5 q4 a0) [] [] u7.2.1) 9 4 (elt (hv1 E [27] u7.2.2.2.1) (hv (clr P 9 q4 none) [37] [] u7.2.2.1) 27 j) = -9 ∧ (hv (up3 (up3 (up3 (up3 (up3 (up3 (up3 (clr I 9 q4 0) 9 4 q4 (-9)) 9 6 q4 (-9)) 9 0 q4 (J 3 1)) 9 1 q4 u5) 9 2 q4 3) 9 3 q4 (J 4 4)) 9 5 q4 a0) [] [] u7.2.1) 9 5 (elt (hv1 E [27] u7.2.2.2.1) (hv (clr P 9 q4 none) [37] [] u7.2.2.1) 27 j) = a0 ∧ (hv (up3 (up3 (up3 (up3 (up3 (up3 (up3 (clr I 9 q4 0) 9 4 q4 (-9)) 9 6 q4 (-9)) 9 0 q4 (J 3 1)) 9 1 q4 u5) 9 2 q4 3) 9 3 q4 (J 4 4)) 9 5 q4 a0) [] [] u7.2.1) 9 6 (elt (hv1 E [27] u7.2.2.2.1) (hv (clr P 9 q4 none) [37] [] u7.2.2.1) 27 j) = -9) from by (intro j9 hj9; have e9 : j9 = (J 27 2).toNatClampNeg := (by have h8 := tcl (J 27 2); omega); rw [e9, hF9]; exact ⟨(show (up3 (up3 (up3 (clr I 9 q4 0) 9 4 q4 (-9)) 9 6 q4 (-9)) 9 0 q4 (J 3 1)) 9 0 q4 = (J 3 1) from up3_s _ _ _ _ _), (congrArg Int32.toInt (show (up3 (up3 (up3 (up3 (clr I 9 q4 0) 9 4 q4 (-9)) 9 6 q4 (-9)) 9 0 q4 (J 3 1)) 9 1 q4 u5) 9 1 q4 = u5 from up3_s _ _ _ _ _)).trans (by omega), (show (up3 (up3 (up3 (up3 (up3 (clr I 9 q4 0) 9 4 q4 (-9)) 9 6 q4 (-9)) 9 0 q4 (J 3 1)) 9 1 q4 u5) 9 2 q4 3) 9 2 q4 = (3 : Int32) from up3_s _ _ _ _ _), (show (up3 (up3 (up3 (up3 (up3 (up3 (clr I 9 q4 0) 9 4 q4 (-9)) 9 6 q4 (-9)) 9 0 q4 (J 3 1)) 9 1 q4 u5) 9 2 q4 3) 9 3 q4 (J 4 4)) 9 3 q4 = (J 4 4) from up3_s _ _ _ _ _), (show (up3 (clr I 9 q4 0) 9 4 q4 (-9)) 9 4 q4 = ((-9) : Int32) from up3_s _ _ _ _ _), (show (up3 (up3 (up3 (up3 (up3 (up3 (up3 (clr I 9 q4 0) 9 4 q4 (-9)) 9 6 q4 (-9)) 9 0 q4 (J 3 1)) 9 1 q4 u5) 9 2 q4 3) 9 3 q4 (J 4 4)) 9 5 q4 a0) 9 5 q4 = a0 from up3_s _ _ _ _ _), (show (up3 (up3 (clr I 9 q4 0) 9 4 q4 (-9)) 9 6 q4 (-9)) 9 6 q4 = ((-9) : Int32) from up3_s _ _ _ _ _)⟩)⟩)) | (exfalso; omega)), hwr, fun x hx => hd7 x ((fun x hx => List.mem_append_left _ ((fun x hx => hx) x hx)) x hx), show 0 ≤ (u7.1 3 1).toInt ∧ (u7.1 3 1).toInt ≤ 9999 ∧ (u7.1 27 2).toInt ≤ (u7.1 3 1).toInt from by first | omega | exact ⟨by omega, by omega, by omega⟩, show ∀ x ∈ dy, u7.2.2.2.2.1 x.2 = N x.2 from by exact fun x hx => (hf7_4 x ((fun x hx => List.mem_append_left _ ((fun x hx => hx) x hx)) x hx)).trans ((fun _ _ => rfl) x hx)⟩ dX11_stage_78
    · have c3 : 9999 ≤ (J 3 1).toInt := tnlt rfl kp9999 c3
      refine lv_aload_n hx hb dX11_stage_28 rfl (lv_at hl 1 rfl) ?_
      refine lv_bipush (v := (-6)) hx hb dX11_stage_29 (by decide) ?_
      refine ci_ C hW (runV (x := (g.2.2.1 12)) (As := [.int (-6)]) (rest := []) (T := ((J, L, I, P, E, N), sgX g ++ dy)) C hW (c_X11_refuse l g J L I P E N dy H.size (-6) hwf) mi_X11_refuse tw_411 (recv_ (T := ((J, L, I, P, E, N), sgX g ++ dy)) C hW (mx_ rfl) rfl rfl) ⟨rfl, rfl, Nat.le_of_ble_eq_true rfl, Nat.le_of_ble_eq_true rfl⟩ rfl hl.1 rfl (Nat.le_of_ble_eq_true rfl) dX11_stage_31 ⟨Nat.le_of_ble_eq_true rfl, Nat.le_of_ble_eq_true rfl⟩) (fun r8 u8 H locs hp8 hW => ?_)
      have hc8 : ((r8 = (-6))) := hp8
      clear hp8
      have hr8 : r8.toInt = (-6) := by rw [hc8]; exact kn6
      have hW : WB g A s.heap H locs ((hv J [42] [] u8), L, I, P, E, N) (sgX g ++ dy) := hW
      have hJe : (hv J [42] [] u8) = hv J [42] [(3, 1), (3, 2), (3, 3), (27, 0), (27, 2)] (hv J [42] [] u8) := ag_hvE (J := J) (R := [42]) (F := [(3, 1), (3, 2), (3, 3), (27, 0), (27, 2)]) (ag_hv rfl rfl ag_rf)
      have hIe : I = hv I [9] [] I := ag_hvE (J := I) (R := [9]) (F := []) ag_rf
      have hPe : P = hv P [9, 37] [] P := ag_hvE (J := P) (R := [9, 37]) (F := []) ag_rf
      have hEe : E = hv1 E [27] E := hv1_e (R := [27]) (fun _ _ => rfl)
      have hWr : WB g A s.heap H locs (hv J [42] [(3, 1), (3, 2), (3, 3), (27, 0), (27, 2)] (hv J [42] [] u8), L, hv I [9] [] I, hv P [9, 37] [] P, hv1 E [27] E, N) (sgX g ++ dy) := by
        rw [← hJe, ← hIe, ← hPe, ← hEe]; exact hW
      have hwr : WXF g (hv J [42] [(3, 1), (3, 2), (3, 3), (27, 0), (27, 2)] (hv J [42] [] u8)) (hv P [9, 37] [] P) (hv1 E [27] E) N dy := by
        rw [← hJe, ← hPe, ← hEe]; exact hwf
      refine W.widen (k := 10) (n := 20100) (Nat.le_of_ble_eq_true rfl) (Nat.le_of_ble_eq_true rfl) ?_
      exact end_i C hr hlocks ((hv J [42] [] u8), I, P, E, N, dy) hWr ⟨by first | exact Or.inl ⟨by omega, by omega, show J 3 1 = J 3 1 from by first | rfl | (intro k hk; rfl) | (intro k; rfl), show J 27 2 = J 27 2 from by first | rfl | (intro k hk; rfl) | (intro k; rfl), show (∀ k : Nat, elt E P 27 k = elt E P 27 k) from by first | rfl | (intro k hk; rfl) | (intro k; rfl), show I 9 = I 9 from by first | rfl | (intro k hk; rfl) | (intro k; rfl)⟩ | exact Or.inr (Or.inl ⟨by omega, by omega, show J 3 1 = J 3 1 from by first | rfl | (intro k hk; rfl) | (intro k; rfl), show J 27 2 = J 27 2 from by first | rfl | (intro k hk; rfl) | (intro k; rfl), show (∀ k : Nat, elt E P 27 k = elt E P 27 k) from by first | rfl | (intro k hk; rfl) | (intro k; rfl), show I 9 = I 9 from by first | rfl | (intro k hk; rfl) | (intro k; rfl)⟩) | exact Or.inr (Or.inr (⟨by omega, by omega, show (J 3 1).toInt = (J 3 1).toInt + 1 from by first | rfl | omega | assumption, show (J 27 2).toInt = (J 27 2).toInt + 1 from by first | rfl | omega | assumption, show NOBJ I I E E P P 27 9 (J 27 2).toInt dy from by first | rfl | omega | assumption, show (∀ j : Nat, (j : Int) = (J 27 2).toInt → I 9 0 (elt E P 27 j) = J 3 1 ∧ (I 9 1 (elt E P 27 j)).toInt = (J 3 1).toInt ∧ I 9 2 (elt E P 27 j) = 3 ∧ I 9 3 (elt E P 27 j) = J 4 4 ∧ I 9 4 (elt E P 27 j) = -9 ∧ I 9 5 (elt E P 27 j) = a0 ∧ I 9 6 (elt E P 27 j) = -9) from by first | rfl | omega | assumption⟩)) | (rcases hc1 with qhc1 | qhc1 | qhc1 <;> first | exact Or.inl ⟨by omega, by omega, show J 3 1 = J 3 1 from by first | rfl | (intro k hk; rfl) | (intro k; rfl), show J 27 2 = J 27 2 from by first | rfl | (intro k hk; rfl) | (intro k; rfl), show (∀ k : Nat, elt E P 27 k = elt E P 27 k) from by first | rfl | (intro k hk; rfl) | (intro k; rfl), show I 9 = I 9 from by first | rfl | (intro k hk; rfl) | (intro k; rfl)⟩ | exact Or.inr (Or.inl ⟨by omega, by omega, show J 3 1 = J 3 1 from by first | rfl | (intro k hk; rfl) | (intro k; rfl), show J 27 2 = J 27 2 from by first | rfl | (intro k hk; rfl) | (intro k; rfl), show (∀ k : Nat, elt E P 27 k = elt E P 27 k) from by first | rfl | (intro k hk; rfl) | (intro k; rfl), show I 9 = I 9 from by first | rfl | (intro k hk; rfl) | (intro k; rfl)⟩) | exact Or.inr (Or.inr (⟨by omega, by omega, show (J 3 1).toInt = (J 3 1).toInt + 1 from by first | rfl | omega | assumption, show (J 27 2).toInt = (J 27 2).toInt + 1 from by first | rfl | omega | assumption, show NOBJ I I E E P P 27 9 (J 27 2).toInt dy from by first | rfl | omega | assumption, show (∀ j : Nat, (j : Int) = (J 27 2).toInt → I 9 0 (elt E P 27 j) = J 3 1 ∧ (I 9 1 (elt E P 27 j)).toInt = (J 3 1).toInt ∧ I 9 2 (elt E P 27 j) = 3 ∧ I 9 3 (elt E P 27 j) = J 4 4 ∧ I 9 4 (elt E P 27 j) = -9 ∧ I 9 5 (elt E P 27 j) = a0 ∧ I 9 6 (elt E P 27 j) = -9) from by first | rfl | omega | assumption⟩)) | (exfalso; omega)), hwr, fun x hx => hx, show 0 ≤ (J 3 1).toInt ∧ (J 3 1).toInt ≤ 9999 ∧ (J 27 2).toInt ≤ (J 3 1).toInt from by first | omega | exact ⟨by omega, by omega, by omega⟩, show ∀ x ∈ dy, N x.2 = N x.2 from by exact fun _ _ => rfl⟩ dX11_stage_34
  · have c2 : ¬ r1.toInt = 0 := tne rfl kp0 c2
    refine lv_aload_n hx hb dX11_stage_9 rfl (lv_at hl 1 rfl) ?_
    refine lv_iload_n hx hb dX11_stage_10 rfl (lv_at hl 0 rfl) ?_
    refine ci_ C hW (runV (x := (g.2.2.1 12)) (As := [.int r1]) (rest := []) (T := ((J, L, I, P, E, N), sgX g ++ dy)) C hW (c_X11_refuse l g J L I P E N dy H.size r1 hwf) mi_X11_refuse tw_411 (recv_ (T := ((J, L, I, P, E, N), sgX g ++ dy)) C hW (mx_ rfl) rfl rfl) ⟨rfl, rfl, Nat.le_of_ble_eq_true rfl, Nat.le_of_ble_eq_true rfl⟩ rfl hl.1 rfl (Nat.le_of_ble_eq_true rfl) dX11_stage_11 ⟨Nat.le_of_ble_eq_true rfl, Nat.le_of_ble_eq_true rfl⟩) (fun r9 u9 H locs hp9 hW => ?_)
    have hc9 : ((r9 = r1)) := hp9
    clear hp9
    have hr9 : r9.toInt = (r1).toInt := by rw [hc9]
    have hW : WB g A s.heap H locs ((hv J [42] [] u9), L, I, P, E, N) (sgX g ++ dy) := hW
    have hJe : (hv J [42] [] u9) = hv J [42] [(3, 1), (3, 2), (3, 3), (27, 0), (27, 2)] (hv J [42] [] u9) := ag_hvE (J := J) (R := [42]) (F := [(3, 1), (3, 2), (3, 3), (27, 0), (27, 2)]) (ag_hv rfl rfl ag_rf)
    have hIe : I = hv I [9] [] I := ag_hvE (J := I) (R := [9]) (F := []) ag_rf
    have hPe : P = hv P [9, 37] [] P := ag_hvE (J := P) (R := [9, 37]) (F := []) ag_rf
    have hEe : E = hv1 E [27] E := hv1_e (R := [27]) (fun _ _ => rfl)
    have hWr : WB g A s.heap H locs (hv J [42] [(3, 1), (3, 2), (3, 3), (27, 0), (27, 2)] (hv J [42] [] u9), L, hv I [9] [] I, hv P [9, 37] [] P, hv1 E [27] E, N) (sgX g ++ dy) := by
      rw [← hJe, ← hIe, ← hPe, ← hEe]; exact hW
    have hwr : WXF g (hv J [42] [(3, 1), (3, 2), (3, 3), (27, 0), (27, 2)] (hv J [42] [] u9)) (hv P [9, 37] [] P) (hv1 E [27] E) N dy := by
      rw [← hJe, ← hPe, ← hEe]; exact hwf
    refine W.widen (k := 10) (n := 20100) (Nat.le_of_ble_eq_true rfl) (Nat.le_of_ble_eq_true rfl) ?_
    exact end_i C hr hlocks ((hv J [42] [] u9), I, P, E, N, dy) hWr ⟨by first | exact Or.inl ⟨by omega, by omega, show J 3 1 = J 3 1 from by first | rfl | (intro k hk; rfl) | (intro k; rfl), show J 27 2 = J 27 2 from by first | rfl | (intro k hk; rfl) | (intro k; rfl), show (∀ k : Nat, elt E P 27 k = elt E P 27 k) from by first | rfl | (intro k hk; rfl) | (intro k; rfl), show I 9 = I 9 from by first | rfl | (intro k hk; rfl) | (intro k; rfl)⟩ | exact Or.inr (Or.inl ⟨by omega, by omega, show J 3 1 = J 3 1 from by first | rfl | (intro k hk; rfl) | (intro k; rfl), show J 27 2 = J 27 2 from by first | rfl | (intro k hk; rfl) | (intro k; rfl), show (∀ k : Nat, elt E P 27 k = elt E P 27 k) from by first | rfl | (intro k hk; rfl) | (intro k; rfl), show I 9 = I 9 from by first | rfl | (intro k hk; rfl) | (intro k; rfl)⟩) | exact Or.inr (Or.inr (⟨by omega, by omega, show (J 3 1).toInt = (J 3 1).toInt + 1 from by first | rfl | omega | assumption, show (J 27 2).toInt = (J 27 2).toInt + 1 from by first | rfl | omega | assumption, show NOBJ I I E E P P 27 9 (J 27 2).toInt dy from by first | rfl | omega | assumption, show (∀ j : Nat, (j : Int) = (J 27 2).toInt → I 9 0 (elt E P 27 j) = J 3 1 ∧ (I 9 1 (elt E P 27 j)).toInt = (J 3 1).toInt ∧ I 9 2 (elt E P 27 j) = 3 ∧ I 9 3 (elt E P 27 j) = J 4 4 ∧ I 9 4 (elt E P 27 j) = -9 ∧ I 9 5 (elt E P 27 j) = a0 ∧ I 9 6 (elt E P 27 j) = -9) from by first | rfl | omega | assumption⟩)) | (rcases hc1 with qhc1 | qhc1 | qhc1 <;> first | exact Or.inl ⟨by omega, by omega, show J 3 1 = J 3 1 from by first | rfl | (intro k hk; rfl) | (intro k; rfl), show J 27 2 = J 27 2 from by first | rfl | (intro k hk; rfl) | (intro k; rfl), show (∀ k : Nat, elt E P 27 k = elt E P 27 k) from by first | rfl | (intro k hk; rfl) | (intro k; rfl), show I 9 = I 9 from by first | rfl | (intro k hk; rfl) | (intro k; rfl)⟩ | exact Or.inr (Or.inl ⟨by omega, by omega, show J 3 1 = J 3 1 from by first | rfl | (intro k hk; rfl) | (intro k; rfl), show J 27 2 = J 27 2 from by first | rfl | (intro k hk; rfl) | (intro k; rfl), show (∀ k : Nat, elt E P 27 k = elt E P 27 k) from by first | rfl | (intro k hk; rfl) | (intro k; rfl), show I 9 = I 9 from by first | rfl | (intro k hk; rfl) | (intro k; rfl)⟩) | exact Or.inr (Or.inr (⟨by omega, by omega, show (J 3 1).toInt = (J 3 1).toInt + 1 from by first | rfl | omega | assumption, show (J 27 2).toInt = (J 27 2).toInt + 1 from by first | rfl | omega | assumption, show NOBJ I I E E P P 27 9 (J 27 2).toInt dy from by first | rfl | omega | assumption, show (∀ j : Nat, (j : Int) = (J 27 2).toInt → I 9 0 (elt E P 27 j) = J 3 1 ∧ (I 9 1 (elt E P 27 j)).toInt = (J 3 1).toInt ∧ I 9 2 (elt E P 27 j) = 3 ∧ I 9 3 (elt E P 27 j) = J 4 4 ∧ I 9 4 (elt E P 27 j) = -9 ∧ I 9 5 (elt E P 27 j) = a0 ∧ I 9 6 (elt E P 27 j) = -9) from by first | rfl | omega | assumption⟩)) | (exfalso; omega)), hwr, fun x hx => hx, show 0 ≤ (J 3 1).toInt ∧ (J 3 1).toInt ≤ 9999 ∧ (J 27 2).toInt ≤ (J 3 1).toInt from by first | omega | exact ⟨by omega, by omega, by omega⟩, show ∀ x ∈ dy, N x.2 = N x.2 from by exact fun _ _ => rfl⟩ dX11_stage_14

set_option maxHeartbeats 4000000 in
set_option maxRecDepth 100000 in
theorem c_X11_mayRead_e (l : Launch) (g : gG) (J : Nat → Nat → Int32) (L : Nat → Nat → Int64) (I : Nat → Nat → Nat → Int32) (P : Nat → Nat → Nat → Option Nat) (E : Nat → Option Nat) (N : Nat → Nat) (dy : List (Nat × Nat)) (sz : Nat) (a0 : Int32) (hwf : WXF g J P E N dy) (hnw : 0 ≤ (J 3 1).toInt ∧ (J 3 1).toInt ≤ 9999) (hrdb : RDB I E P (J 24 2).toInt) (hrs : 0 ≤ (J 12 13).toInt ∧ (J 12 13).toInt ≤ 240) : Met l yX11_mayRead (WS yX11_mayRead cX11_mayRead 3 (some .int)) (RM (5) 0 0) (PC g [.ref (g.2.2.1 12), .int a0] ((J, L, I, P, E, N), sgX g ++ dy) sz) (va_Qi (fun (r : Int32) (u : (Nat → Nat → Int32)) => ((r.toInt = (-1) ∧ (¬ (0 ≤ a0.toInt ∧ a0.toInt < (J 24 2).toInt))) ∨ (r.toInt = 1 ∧ (0 ≤ a0.toInt ∧ a0.toInt < (J 24 2).toInt ∧ ((I 7 2 (elt E P 24 a0.toNatClampNeg)).toInt < (J 12 12).toInt ∨ (I 7 1 (elt E P 24 a0.toNatClampNeg)).toInt + (J 12 13).toInt < (J 3 1).toInt))) ∨ (r.toInt = 0 ∧ (0 ≤ a0.toInt ∧ a0.toInt < (J 24 2).toInt ∧ ¬ ((I 7 2 (elt E P 24 a0.toNatClampNeg)).toInt < (J 12 12).toInt ∨ (I 7 1 (elt E P 24 a0.toNatClampNeg)).toInt + (J 12 13).toInt < (J 3 1).toInt))))) (fun u t => at_ g (FR g ((J, L, I, P, E, N), sgX g ++ dy) sz) (((hv J [42] [] u), L, I, P, E, N), sgX g ++ dy) t) (FR g ((J, L, I, P, E, N), sgX g ++ dy) sz)) 0 0 (FR g ((J, L, I, P, E, N), sgX g ++ dy) sz) := by
  refine ent (by decide +kernel) (Nat.le_of_ble_eq_true rfl) ?_
  intro p e s m below meth c ls hsz C hW hr hlocks hname hl
  generalize FR g ((J, L, I, P, E, N), sgX g ++ dy) sz = A at C hW ⊢
  have hx := C.1.1
  have hb := C.1.2.1
  have hts := C.1.2.2.2.2
  have hl : lv_has ls 3 [(0, .ref (g.2.2.1 12)), (1, .int a0)] := hl
  obtain ⟨H, hH⟩ : ∃ H : Heap, H = s.heap := ⟨_, rfl⟩
  obtain ⟨locs, hlocs⟩ : ∃ q : List Loc, q = [] := ⟨_, rfl⟩
  have hW : WB g A s.heap H locs (J, L, I, P, E, N) (sgX g ++ dy) := by rw [hH, hlocs]; exact hW
  refine start_ hH hlocs ?_
  refine lv_aload_n hx hb dX11_mayRead_0 rfl (lv_at hl 0 rfl) ?_
  refine lv_iload_n hx hb dX11_mayRead_1 rfl (lv_at hl 1 rfl) ?_
  refine cq_ C hW (runV (x := (g.2.2.1 12)) (As := [.int a0]) (rest := []) (T := ((J, L, I, P, E, N), sgX g ++ dy)) C hW (c_X11_readerOf_e l g J L I P E N dy H.size a0 hwf) mi_X11_readerOf tw_614 (recv_ (T := ((J, L, I, P, E, N), sgX g ++ dy)) C hW (mx_ rfl) rfl rfl) ⟨rfl, rfl, Nat.le_of_ble_eq_true rfl, Nat.le_of_ble_eq_true rfl⟩ rfl hl.1 rfl (Nat.le_of_ble_eq_true rfl) dX11_mayRead_2 ⟨Nat.le_of_ble_eq_true rfl, Nat.le_of_ble_eq_true rfl⟩) (fun q1 u1 H locs hp1 hW => ?_)
  have hq1 : ((q1 = none ∧ (¬ (0 ≤ a0.toInt ∧ a0.toInt < (J 24 2).toInt))) ∨ (q1 = some (elt E P 24 a0.toNatClampNeg) ∧ (0 ≤ a0.toInt ∧ a0.toInt < (J 24 2).toInt))) := hp1
  clear hp1
  have hW : WB g A s.heap H locs (J, L, I, P, E, N) (sgX g ++ dy) := hW
  rcases hq1 with ⟨rfl, hn1⟩ | ⟨rfl, hs1⟩
  · refine lv_asv (v' := .null) rfl ?_
    refine lv_astore_nN (lv' := [(2, .null), (0, .ref (g.2.2.1 12)), (1, .int a0)]) hx hb dX11_mayRead_5 rfl hl (by decide) rfl (fun ls hl => ?_)
    refine lv_aload_nN hx hb dX11_mayRead_6 rfl (lv_at hl 0 rfl) ?_
    refine lv_ifnonnullN hx hb dX11_mayRead_7 ?_
    refine lv_aload_n hx hb dX11_mayRead_10 rfl (lv_at hl 1 rfl) ?_
    refine lv_iconst (v := (-1)) hx hb dX11_mayRead_11 (by decide) ?_
    refine ci_ C hW (runV (x := (g.2.2.1 12)) (As := [.int (-1)]) (rest := []) (T := ((J, L, I, P, E, N), sgX g ++ dy)) C hW (c_X11_refuse l g J L I P E N dy H.size (-1) hwf) mi_X11_refuse tw_411 (recv_ (T := ((J, L, I, P, E, N), sgX g ++ dy)) C hW (mx_ rfl) rfl rfl) ⟨rfl, rfl, Nat.le_of_ble_eq_true rfl, Nat.le_of_ble_eq_true rfl⟩ rfl hl.1 rfl (Nat.le_of_ble_eq_true rfl) dX11_mayRead_12 ⟨Nat.le_of_ble_eq_true rfl, Nat.le_of_ble_eq_true rfl⟩) (fun r2 u2 H locs hp2 hW => ?_)
    have hc2 : ((r2 = (-1))) := hp2
    clear hp2
    have hr2 : r2.toInt = (-1) := by rw [hc2]; exact kn1
    have hW : WB g A s.heap H locs ((hv J [42] [] u2), L, I, P, E, N) (sgX g ++ dy) := hW
    have hWr : WB g A s.heap H locs ((hv J [42] [] (hv J [42] [] u2)), L, I, P, E, N) (sgX g ++ dy) := by
      rw [← ag_hvE (J := J) (R := [42]) (F := []) (ag_hv rfl rfl ag_rf)]
      exact hW
    exact end_i C hr hlocks (hv J [42] [] u2) hWr (by first | omega | exact Or.inl ⟨by omega, by omega⟩ | exact Or.inr (Or.inl ⟨by omega, by omega⟩) | exact Or.inr (Or.inr (⟨by omega, by omega⟩))) dX11_mayRead_15
  · skip
    obtain ⟨o1, ho1⟩ : ∃ z : Nat, z = elt E P 24 a0.toNatClampNeg := ⟨_, rfl⟩
    have hm1 : (7, o1) ∈ dy := by rw [ho1]; exact (lw_mem (er := 7) hwf.2.1.1 (show (a0.toNatClampNeg : Int) < (J 24 2).toInt from by have := tcl a0; omega))
    try have hrb1 := hrdb a0.toNatClampNeg (by have h8 := tcl a0; omega)
    have hrq1 : (I 7 1 o1).toInt = (I 7 1 (elt E P 24 a0.toNatClampNeg)).toInt ∧ (I 7 2 o1).toInt = (I 7 2 (elt E P 24 a0.toNatClampNeg)).toInt := by rw [ho1]; exact ⟨rfl, rfl⟩
    refine lv_asv (v' := .ref o1) (by rw [ho1]; rfl) ?_
    refine lv_astore_n (lv' := [(2, .ref o1), (0, .ref (g.2.2.1 12)), (1, .int a0)]) hx hb dX11_mayRead_5 rfl hl (by decide) rfl (fun ls hl => ?_)
    refine lv_aload_n hx hb dX11_mayRead_6 rfl (lv_at hl 0 rfl) ?_
    refine lv_ifnonnull (tgt := 16) hx hb dX11_mayRead_7 (by decide) ?_
    refine lv_aload_n hx hb dX11_mayRead_16 rfl (lv_at hl 0 rfl) ?_
    refine lv_aload_n hx hb dX11_mayRead_17 rfl (lv_at hl 1 rfl) ?_
    refine rg_12_1 C hW (mx_ rfl) tw_365 dX11_mayRead_18 ?_
    refine rg_3_1 C hW (mx_ rfl) tw_278 dX11_mayRead_21 ?_
    refine lv_aload_n hx hb dX11_mayRead_24 rfl (lv_at hl 1 rfl) ?_
    refine rg_12_12 C hW (mx_ rfl) tw_376 dX11_mayRead_25 ?_
    refine lv_aload_n hx hb dX11_mayRead_28 rfl (lv_at hl 1 rfl) ?_
    refine rg_12_13 C hW (mx_ rfl) tw_377 dX11_mayRead_29 ?_
    refine ci_ C hW (runV (x := o1) (As := [.int (J 3 1), .int (J 12 12), .int (J 12 13)]) (rest := []) (T := ((J, L, I, P, E, N), sgX g ++ dy)) C hW (c_X6_isFree_e l g J L I P E N dy H.size o1 hm1 (J 3 1) (J 12 12) (J 12 13) hwf (show 0 ≤ (J 3 1).toInt ∧ (J 3 1).toInt ≤ 10000 ∧ 0 ≤ (J 12 13).toInt ∧ (J 12 13).toInt ≤ 240 ∧ -1 ≤ (I 7 1 o1).toInt ∧ (I 7 1 o1).toInt ≤ 9999 from by omega)) mi_X6_isFree tw_619 (recv_ (T := ((J, L, I, P, E, N), sgX g ++ dy)) C hW (List.mem_append_right _ hm1) rfl rfl) ⟨rfl, rfl, Nat.le_of_ble_eq_true rfl, Nat.le_of_ble_eq_true rfl⟩ rfl hl.1 rfl (Nat.le_of_ble_eq_true rfl) dX11_mayRead_32 ⟨Nat.le_of_ble_eq_true rfl, Nat.le_of_ble_eq_true rfl⟩) (fun r3 u3 H locs hp3 hW => ?_)
    have hc3 : ((r3.toInt = 1 ∧ ((I 7 2 o1).toInt < (J 12 12).toInt ∨ (I 7 1 o1).toInt + (J 12 13).toInt < (J 3 1).toInt)) ∨ (r3.toInt = 0 ∧ (¬ ((I 7 2 o1).toInt < (J 12 12).toInt ∨ (I 7 1 o1).toInt + (J 12 13).toInt < (J 3 1).toInt)))) := hp3
    clear hp3
    have hW : WB g A s.heap H locs (J, L, I, P, E, N) (sgX g ++ dy) := hW
    refine lv_if_eq (tgt := 42) hx hb dX11_mayRead_35 (by decide) (fun c4 => ?_) (fun c4 => ?_)
    · have c4 : r3.toInt = 0 := teq rfl kp0 c4
      refine lv_iconst (v := 0) hx hb dX11_mayRead_42 (by decide) ?_
      have hWr : WB g A s.heap H locs ((hv J [42] [] J), L, I, P, E, N) (sgX g ++ dy) := by
        rw [← ag_hvE (J := J) (R := [42]) (F := []) ag_rf]
        exact hW
      exact end_i C hr hlocks J hWr (by first | exact Or.inr (Or.inr (⟨by decide, by omega⟩))) dX11_mayRead_43
    · have c4 : ¬ r3.toInt = 0 := tne rfl kp0 c4
      refine lv_iconst (v := 1) hx hb dX11_mayRead_38 (by decide) ?_
      refine lv_goto (tgt := 43) hx hb dX11_mayRead_39 (by decide) ?_
      have hWr : WB g A s.heap H locs ((hv J [42] [] J), L, I, P, E, N) (sgX g ++ dy) := by
        rw [← ag_hvE (J := J) (R := [42]) (F := []) ag_rf]
        exact hW
      exact end_i C hr hlocks J hWr (by first | exact Or.inr (Or.inl ⟨by decide, by omega⟩)) dX11_mayRead_43
