/-- what the reference has found before holds still -/
def CAV (J : Nat → Nat → Int32) (m : Nat) (s o : Int) : Prop := ∃ x : Nat → Int32, SND x (J 101) (J 102) (J 103) (J 104) (fun k => 0 ≤ (m : Int) ∧ CUTP (J 105) (J 106) (J 107) (J 13 34).toInt (m : Int) k) (J 118 m) (J 120 m) (J 13 32).toInt ∧ s = CT2 (HFM (J 116 m) (J 110) (J 111) (m : Int) (J 13 36) (J 109) (J 108) x) (J 13 35).toInt.toNat ∧ o = CT1 (HFM (J 116 m) (J 110) (J 111) (m : Int) (J 13 36) (J 109) (J 108) x) (J 13 35).toInt.toNat
def FNI (f : Nat → Int32) (now told : Int) : Prop := 1 ≤ told ∧ ∀ m : Nat, (f m).toInt ≤ told ∧ (now ≤ (m : Int) → f m = 0)
def CAC (J : Nat → Nat → Int32) : Prop := FNI (J 152) (J 13 31).toInt (J 13 49).toInt ∧ ∀ m : Nat, (m : Int) < (J 13 31).toInt → ¬ (J 116 m).toInt = 6 → J 152 m = J 13 49 → CAV J m (J 150 m).toInt (J 151 m).toInt
/-- all that it rests on is as it was -/
def CAE (J J' : Nat → Nat → Int32) : Prop := J' 13 31 = J 13 31 ∧ J' 13 49 = J 13 49 ∧ J' 101 = J 101 ∧ J' 102 = J 102 ∧ J' 103 = J 103 ∧ J' 104 = J 104 ∧ J' 105 = J 105 ∧ J' 106 = J 106 ∧ J' 107 = J 107 ∧ J' 108 = J 108 ∧ J' 109 = J 109 ∧ J' 110 = J 110 ∧ J' 111 = J 111 ∧ J' 13 32 = J 13 32 ∧ J' 13 34 = J 13 34 ∧ J' 13 35 = J 13 35 ∧ J' 13 36 = J 13 36 ∧ J' 116 = J 116 ∧ J' 118 = J 118 ∧ J' 120 = J 120
theorem cav_e {J J' : Nat → Nat → Int32} (h : CAE J J') {m : Nat} {s o : Int} (h2 : CAV J m s o) : CAV J' m s o := by
  obtain ⟨-, -, e1, e2, e3, e4, e5, e6, e7, e8, e9, e10, e11, e12, e13, e14, e15, e16, e17, e18⟩ := h
  unfold CAV at h2 ⊢
  rw [e1, e2, e3, e4, e5, e6, e7, e8, e9, e10, e11, e12, e13, e14, e15, e16, e17, e18]; exact h2
theorem cac_e {J J' : Nat → Nat → Int32} (h : CAE J J') (h0 : J' 150 = J 150) (h1 : J' 151 = J 151) (h2 : J' 152 = J 152) (h3 : CAC J) : CAC J' := ⟨by rw [h2, h.1, h.2.1]; exact h3.1, fun m q1 q2 q3 => by
  rw [h0, h1]
  rw [h2, h.2.1] at q3
  rw [h.1] at q1
  have e := h
  obtain ⟨-, -, -, -, -, -, -, -, -, -, -, -, -, -, -, -, -, e16, -⟩ := e
  rw [e16] at q2
  exact cav_e h (h3.2 m q1 q2 q3)⟩
theorem cac_up {J J' : Nat → Nat → Int32} {i : Nat} {s o : Int32} (h : CAE J J') (h0 : J' 150 = up2 J 150 i s 150) (h1 : J' 151 = up2 J 151 i o 151) (h2 : J' 152 = up2 J 152 i (J 13 49) 152) (hi : (i : Int) < (J 13 31).toInt) (hv : CAV J i s.toInt o.toInt) (h3 : CAC J) : CAC J' := by
  obtain ⟨⟨f1, f2⟩, h3⟩ := h3
  have e := h
  obtain ⟨-, -, -, -, -, -, -, -, -, -, -, -, -, -, -, -, -, e16, -⟩ := e
  refine ⟨?_, fun m q1 q2 q3 => ?_⟩
  · rw [h2, h.1, h.2.1]
    refine ⟨f1, fun m => ?_⟩
    by_cases q : m = i
    · subst q; rw [up2_s]; exact ⟨Int.le_refl _, fun z => by omega⟩
    · rw [up2_f _ _ _ q]; exact f2 m
  · rw [h0, h1]
    rw [h2, h.2.1] at q3
    rw [h.1] at q1
    rw [e16] at q2
    by_cases q : m = i
    · subst q; rw [up2_s, up2_s]; exact cav_e h hv
    · rw [up2_f _ _ _ q] at q3
      rw [up2_f _ _ _ q, up2_f _ _ _ q]; exact cav_e h (h3 m q1 q2 q3)
/-- told once more: nothing found before counts -/
theorem cac_told {J J' : Nat → Nat → Int32} (hn : J' 13 31 = J 13 31) (h2 : J' 152 = J 152) (ht : J' 13 49 = J 13 49 + 1) (hb : (J 13 49).toInt ≤ 65) (h3 : CAC J) : CAC J' := by
  obtain ⟨⟨f1, f2⟩, -⟩ := h3
  have e : (J' 13 49).toInt = (J 13 49).toInt + 1 := tadd ht rfl (show (1 : Int32).toInt = 1 by decide) (by omega)
  refine ⟨?_, fun m q1 q2 q3 => ?_⟩
  · rw [h2, hn]
    exact ⟨by omega, fun m => ⟨by have := (f2 m).1; omega, (f2 m).2⟩⟩
  · rw [h2] at q3
    have h8 := (f2 m).1
    have h9 := congrArg Int32.toInt q3
    omega
/-- minutes have gone by -/
theorem cac_now {J J' : Nat → Nat → Int32} (h : CAE J (fun r k => if r = 13 ∧ k = 31 then J 13 31 else if r = 116 ∨ r = 118 ∨ r = 120 then J r k else J' r k)) (h0 : J' 150 = J 150) (h1 : J' 151 = J 151) (h2 : J' 152 = J 152) (hn : (J 13 31).toInt ≤ (J' 13 31).toInt) (hr : ∀ m : Nat, (m : Int) < (J 13 31).toInt → J' 116 m = J 116 m ∧ J' 118 m = J 118 m ∧ J' 120 m = J 120 m) (h3 : CAC J) : CAC J' := by
  obtain ⟨⟨f1, f2⟩, h3⟩ := h3
  obtain ⟨-, e0, e1, e2, e3, e4, e5, e6, e7, e8, e9, e10, e11, e12, e13, e14, e15, -⟩ := h
  have e0 : J' 13 49 = J 13 49 := e0
  refine ⟨?_, fun m q1 q2 q3 => ?_⟩
  · rw [h2, e0]
    exact ⟨f1, fun m => ⟨(f2 m).1, fun z => (f2 m).2 (by omega)⟩⟩
  · rw [h2, e0] at q3
    rcases Int.lt_or_le (m : Int) (J 13 31).toInt with q | q
    · obtain ⟨r1, r2, r3⟩ := hr m q
      rw [r1] at q2
      have hv := h3 m q q2 q3
      unfold CAV at hv ⊢
      rw [h0, h1, r1, r2, r3, show J' 101 = J 101 from e1, show J' 102 = J 102 from e2, show J' 103 = J 103 from e3, show J' 104 = J 104 from e4, show J' 105 = J 105 from e5, show J' 106 = J 106 from e6, show J' 107 = J 107 from e7, show J' 108 = J 108 from e8, show J' 109 = J 109 from e9, show J' 110 = J 110 from e10, show J' 111 = J 111 from e11, show J' 13 32 = J 13 32 from e12, show J' 13 34 = J 13 34 from e13, show J' 13 35 = J 13 35 from e14, show J' 13 36 = J 13 36 from e15]
      exact hv
    · have h8 := (f2 m).2 q
      rw [h8] at q3
      have h9 := congrArg Int32.toInt q3
      have h7 : (0 : Int32).toInt = 0 := by decide
      omega
/-- a wire is cut from now on -/
theorem cutp_app {G : Nat → Nat → Int32} {cn cf ct : Nat → Int32} {c a b z : Int32} {i m : Int} {k : Nat} (e1 : cn = up2 G 105 c.toNatClampNeg a 105) (e2 : cf = up2 G 106 c.toNatClampNeg b 106) (e3 : ct = up2 G 107 c.toNatClampNeg z 107) (hc : 0 ≤ c.toInt) (hi : i = c.toInt + 1) (hm : m < b.toInt) : CUTP cn cf ct i m k ↔ CUTP (G 105) (G 106) (G 107) c.toInt m k := by
  subst e1 e2 e3 hi
  have h8 := tcl c
  constructor
  · rintro ⟨j, h1, h2, h3, h4⟩
    by_cases e : j = c.toNatClampNeg
    · subst e; rw [up2_s] at h3; omega
    · rw [up2_f _ _ _ e] at h2 h3 h4
      exact ⟨j, by omega, h2, h3, h4⟩
  · rintro ⟨j, h1, h2, h3, h4⟩
    have e : j ≠ c.toNatClampNeg := by omega
    exact ⟨j, by omega, by rw [up2_f _ _ _ e]; exact h2, by rw [up2_f _ _ _ e]; exact h3, by rw [up2_f _ _ _ e]; exact h4⟩
theorem cac_cut {J J' : Nat → Nat → Int32} {a b z : Int32} (h : CAE J (fun r k => if r = 105 ∨ r = 106 ∨ r = 107 ∨ (r = 13 ∧ k = 34) then J r k else J' r k)) (h0 : J' 150 = J 150) (h1 : J' 151 = J 151) (h2 : J' 152 = J 152) (e1 : J' 105 = up2 J 105 (J 13 34).toNatClampNeg a 105) (e2 : J' 106 = up2 J 106 (J 13 34).toNatClampNeg b 106) (e3 : J' 107 = up2 J 107 (J 13 34).toNatClampNeg z 107) (hc : 0 ≤ (J 13 34).toInt) (hi : (J' 13 34).toInt = (J 13 34).toInt + 1) (hb : (J 13 31).toInt ≤ b.toInt) (h3 : CAC J) : CAC J' := by
  obtain ⟨hF, h3⟩ := h3
  obtain ⟨en, e0, g1, g2, g3, g4, -, -, -, g8, g9, g10, g11, g12, -, g14, g15, g16, g17, g18⟩ := h
  have en : J' 13 31 = J 13 31 := en
  have e0 : J' 13 49 = J 13 49 := e0
  refine ⟨by rw [h2, en, e0]; exact hF, fun m q1 q2 q3 => ?_⟩
  rw [h2, e0] at q3
  rw [en] at q1
  rw [show J' 116 = J 116 from g16] at q2
  obtain ⟨x, hx, hs⟩ := h3 m q1 q2 q3
  refine ⟨x, ?_, ?_⟩
  · rw [show J' 101 = J 101 from g1, show J' 102 = J 102 from g2, show J' 103 = J 103 from g3, show J' 104 = J 104 from g4, show J' 118 = J 118 from g17, show J' 120 = J 120 from g18, show J' 13 32 = J 13 32 from g12]
    have e : (fun k => 0 ≤ (m : Int) ∧ CUTP (J' 105) (J' 106) (J' 107) (J' 13 34).toInt m k) = fun k => 0 ≤ (m : Int) ∧ CUTP (J 105) (J 106) (J 107) (J 13 34).toInt m k := funext fun k => propext (and_congr Iff.rfl (cutp_app e1 e2 e3 hc hi (by omega)))
    rw [e]; exact hx
  · rw [h0, h1, show J' 116 = J 116 from g16, show J' 110 = J 110 from g10, show J' 111 = J 111 from g11, show J' 109 = J 109 from g9, show J' 108 = J 108 from g8, show J' 13 35 = J 13 35 from g14, show J' 13 36 = J 13 36 from g15]; exact hs
theorem tol_s {a b : Int32} {k : Nat} (hk : k ≤ 64) (e : b = a ∨ b = a + 1) (h : 1 ≤ a.toInt ∧ a.toInt ≤ (k : Int) + 1) : 1 ≤ b.toInt ∧ b.toInt ≤ ((k + 1 : Nat) : Int) + 1 := by
  rcases e with e | e
  · subst e; omega
  · have := tadd e rfl (show (1 : Int32).toInt = 1 by decide) (by omega)
    omega
/-- both sides count the same -/
theorem cnt_eq {kd le le' : Int32} {su ma ea hn x y : Nat → Int32} {m m' n nn : Int} (hl : 1 ≤ le.toInt ∧ le.toInt ≤ 99) (e : le = le') (em : m = m') (hb : ∀ j : Nat, (j : Int) < n → 0 ≤ (hn j).toInt ∧ (hn j).toInt < nn ∧ 1 ≤ (ea j).toInt ∧ (ea j).toInt ≤ 9) (h : ∀ k : Nat, (k : Int) < nn → x k = y k) : ∀ j : Nat, j < n.toNat → HF kd su ma m le ea hn x j = HFM kd su ma m' le' ea hn y j := by
  subst e em
  intro j hj
  obtain ⟨h1, h2, h3, h4⟩ := hb j (by omega)
  have h8 := tcl (hn j)
  unfold HF HFM
  rw [h _ (show ((hn j).toNatClampNeg : Int) < nn by omega)]
  exact hwv_iff (div_ge rfl rfl hl.1 hl.2 h3 h4).symm
set_option maxHeartbeats 4000000 in
set_option maxRecDepth 100000 in
theorem c_X12_countsAnew_e (l : Launch) (g : gG) (J : Nat → Nat → Int32) (L : Nat → Nat → Int64) (I : Nat → Nat → Nat → Int32) (P : Nat → Nat → Nat → Option Nat) (E : Nat → Option Nat) (N : Nat → Nat) (sz : Nat) (a0 : Int32) (hwm : WM J) (hm : 0 ≤ a0.toInt ∧ a0.toInt < 10000) (hk6 : ¬ (J 116 a0.toNatClampNeg).toInt = 6) (hz : (J 13 47).toInt = 0 ∧ (J 13 48).toInt = 0) : Met l yX12_countsAnew (WS yX12_countsAnew cX12_countsAnew 4 none) (RM (4) 0 0) (PC g [.ref (g.2.2.1 13), .int a0] ((J, L, I, P, E, N), sgM g) sz) (va_Qv (fun (u : (Nat → Nat → Int32)) => (∃ s o : Int32, u 150 = up2 J 150 a0.toNatClampNeg s 150 ∧ u 151 = up2 J 151 a0.toNatClampNeg o 151 ∧ CAV J a0.toNatClampNeg s.toInt o.toInt) ∧ (u 152 = up2 J 152 a0.toNatClampNeg (J 13 49) 152)) (fun u t => at_ g (FR g ((J, L, I, P, E, N), sgM g) sz) ((hv J [146, 150, 151, 152] [(13, 47), (13, 48)] u, L, I, P, E, N), sgM g) t) (FR g ((J, L, I, P, E, N), sgM g) sz)) 0 0 (FR g ((J, L, I, P, E, N), sgM g) sz) := by
  refine ent (by decide +kernel) (Nat.le_of_ble_eq_true rfl) ?_
  intro p e s m below meth c ls hsz C hW hr hlocks hname hl
  generalize FR g ((J, L, I, P, E, N), sgM g) sz = A at C hW ⊢
  generalize hQ9 : (va_Qv (fun (u : (Nat → Nat → Int32)) => (∃ s o : Int32, u 150 = up2 J 150 a0.toNatClampNeg s 150 ∧ u 151 = up2 J 151 a0.toNatClampNeg o 151 ∧ CAV J a0.toNatClampNeg s.toInt o.toInt) ∧ (u 152 = up2 J 152 a0.toNatClampNeg (J 13 49) 152)) (fun u t => at_ g A ((hv J [146, 150, 151, 152] [(13, 47), (13, 48)] u, L, I, P, E, N), sgM g) t) A) = Q9
  have hx := C.1.1
  have hb := C.1.2.1
  have hts := C.1.2.2.2.2
  have hW : WB g A s.heap s.heap [] (J, L, I, P, E, N) (sgM g) := hW
  have hl : lv_has ls 4 [(0, .ref (g.2.2.1 13)), (1, .int a0)] := hl
  obtain ⟨H, hH⟩ : ∃ H : Heap, H = s.heap := ⟨_, rfl⟩
  obtain ⟨locs, hlocs⟩ : ∃ q : List Loc, q = [] := ⟨_, rfl⟩
  have hW : WB g A s.heap H locs (J, L, I, P, E, N) (sgM g) := by rw [hH, hlocs]; exact hW
  obtain ⟨⟨hnd1, hnd2, hon, hhm1, hhm2, hhN, hcu1, hcu2, hco1, hco2, hcN⟩, ⟨hrd1, hrd2⟩, ⟨hnw1, hnw2, hns1, hns2, hof⟩, ⟨htm1, htm2, hts_⟩, ⟨had1, had2, hrw1, hrw2, htp1, htp2⟩⟩ := id hwm
  refine start_ hH hlocs ?_
  refine lv_aload_n hx hb dX12_countsAnew_0 rfl (lv_at hl 0 rfl) ?_
  refine lv_aload_n hx hb dX12_countsAnew_1 rfl (lv_at hl 0 rfl) ?_
  refine rg_13_18 C hW (mm_ rfl) tw_1041 dX12_countsAnew_2 ?_
  refine lv_iload_n hx hb dX12_countsAnew_5 rfl (lv_at hl 1 rfl) ?_
  have hin : vp_in a0 10000 := tin rfl (by omega)
  refine ra_118 C hW (mm_ rfl) hin dX12_countsAnew_6 ?_
  refine lv_topi (fun x1 (e1 : x1 = J 118 a0.toNatClampNeg) => ?_)
  refine lv_aload_n hx hb dX12_countsAnew_7 rfl (lv_at hl 0 rfl) ?_
  refine rg_13_20 C hW (mm_ rfl) tw_1043 dX12_countsAnew_8 ?_
  refine lv_iload_n hx hb dX12_countsAnew_11 rfl (lv_at hl 1 rfl) ?_
  have hin : vp_in a0 10000 := tin rfl (by omega)
  refine ra_120 C hW (mm_ rfl) hin dX12_countsAnew_12 ?_
  refine lv_topi (fun x2 (e2 : x2 = J 120 a0.toNatClampNeg) => ?_)
  refine lv_iload_n hx hb dX12_countsAnew_13 rfl (lv_at hl 1 rfl) ?_
  refine cv_ C hW (runV (x := (g.2.2.1 13)) (As := [.int x1, .int x2, .int a0]) (rest := []) (T := ((J, L, I, P, E, N), sgM g)) C hW (c_X12_sounds_e l g J L I P E N H.size x1 x2 a0 hwm) mi_X12_sounds tw_1277 (recv_ (T := ((J, L, I, P, E, N), sgM g)) C hW (mm_ rfl) rfl rfl) ⟨rfl, rfl, Nat.le_of_ble_eq_true rfl, Nat.le_of_ble_eq_true rfl⟩ rfl hl.1 rfl (Nat.le_of_ble_eq_true rfl) dX12_countsAnew_14 ⟨Nat.le_of_ble_eq_true rfl, Nat.le_of_ble_eq_true rfl⟩) (fun u3 H locs hp3 hW => ?_)
  have hf3_0 : (SND (u3 146) (J 101) (J 102) (J 103) (J 104) (fun k => 0 ≤ a0.toInt ∧ CUTP (J 105) (J 106) (J 107) (J 13 34).toInt a0.toInt k) x1 x2 (J 13 32).toInt) := hp3
  clear hp3
  have hW : WB g A s.heap H locs ((hv J [146] [] u3), L, I, P, E, N) (sgM g) := hW
  have hS := hf3_0
  refine lv_iconst (v := 0) hx hb dX12_countsAnew_17 (by decide) ?_
  refine lv_istore_n (lv' := [(2, .int 0), (0, .ref (g.2.2.1 13)), (1, .int a0)]) hx hb dX12_countsAnew_18 rfl hl (by decide) rfl (fun ls hl => ?_)
  have loop19 : ∀ (n : Nat) (m2 : Int32) (Gl4 : Nat → Nat → Int32) (H : Heap) (locs : List Loc) (ls : Array Slot), (40 - m2.toInt).toNat < n → 0 ≤ m2.toInt ∧ m2.toInt ≤ (J 13 35).toInt ∧ 0 ≤ (Gl4 13 47).toInt ∧ (Gl4 13 47).toInt ≤ m2.toInt ∧ 0 ≤ (Gl4 13 48).toInt ∧ (Gl4 13 48).toInt ≤ m2.toInt → (Gl4 13 47).toInt = CT2 (HFM (J 116 a0.toNatClampNeg) (J 110) (J 111) a0.toInt (J 13 36) (J 109) (J 108) (u3 146)) m2.toInt.toNat → (Gl4 13 48).toInt = CT1 (HFM (J 116 a0.toNatClampNeg) (J 110) (J 111) a0.toInt (J 13 36) (J 109) (J 108) (u3 146)) m2.toInt.toNat → WB g A s.heap H locs ((hv (hv J [146] [] u3) [] [(13, 47), (13, 48)] Gl4), L, I, P, E, N) (sgM g) → lv_has ls 4 [(2, .int m2), (0, .ref (g.2.2.1 13)), (1, .int a0)] → W p l e (RM (4) 0 0) s m ([.ref (g.2.2.1 13), .int a0] : List Value).toArray below meth c H locs 0 0 (MQ below Q9 ([.ref (g.2.2.1 13), .int a0] : List Value).toArray s 0 0 A) (F0 m 19 ls []) := by
    intro n
    induction n with
    | zero => intro m2 Gl4 H locs ls hmeas; exact absurd hmeas (Nat.not_lt_zero _)
    | succ n ih =>
      intro m2 Gl4 H locs ls hmeas hi hc2 hc1 hW hl
      refine lv_iload_n hx hb dX12_countsAnew_19 rfl (lv_at hl 0 rfl) ?_
      refine lv_aload_n hx hb dX12_countsAnew_20 rfl (lv_at hl 1 rfl) ?_
      refine rg_13_35 C hW (mm_ rfl) tw_1058 dX12_countsAnew_21 ?_
      refine lv_as (J 13 35) rfl ?_
      refine lv_icmp_ge (tgt := 89) hx hb dX12_countsAnew_24 (by decide) (fun c5 => ?_) (fun c5 => ?_)
      · have c5 : (J 13 35).toInt ≤ m2.toInt := tle rfl rfl c5
        refine lv_aload_n hx hb dX12_countsAnew_89 rfl (lv_at hl 1 rfl) ?_
        refine rg_13_50 C hW (mm_ rfl) tw_1073 dX12_countsAnew_90 ?_
        refine lv_iload_n hx hb dX12_countsAnew_93 rfl (lv_at hl 2 rfl) ?_
        refine lv_aload_n hx hb dX12_countsAnew_94 rfl (lv_at hl 1 rfl) ?_
        refine rg_13_47 C hW (mm_ rfl) tw_1070 dX12_countsAnew_95 ?_
        refine lv_as (Gl4 13 47) rfl ?_
        have hin : vp_in a0 10000 := tin rfl (by omega)
        refine rs_150 C hW (mm_ rfl) hin dX12_countsAnew_98 (fun H locs hW => ?_)
        refine lv_aload_n hx hb dX12_countsAnew_99 rfl (lv_at hl 1 rfl) ?_
        refine rg_13_51 C hW (mm_ rfl) tw_1074 dX12_countsAnew_100 ?_
        refine lv_iload_n hx hb dX12_countsAnew_103 rfl (lv_at hl 2 rfl) ?_
        refine lv_aload_n hx hb dX12_countsAnew_104 rfl (lv_at hl 1 rfl) ?_
        refine rg_13_48 C hW (mm_ rfl) tw_1071 dX12_countsAnew_105 ?_
        refine lv_as (Gl4 13 48) rfl ?_
        have hin : vp_in a0 10000 := tin rfl (by omega)
        refine rs_151 C hW (mm_ rfl) hin dX12_countsAnew_108 (fun H locs hW => ?_)
        refine lv_aload_n hx hb dX12_countsAnew_109 rfl (lv_at hl 1 rfl) ?_
        refine rg_13_52 C hW (mm_ rfl) tw_1075 dX12_countsAnew_110 ?_
        refine lv_iload_n hx hb dX12_countsAnew_113 rfl (lv_at hl 2 rfl) ?_
        refine lv_aload_n hx hb dX12_countsAnew_114 rfl (lv_at hl 1 rfl) ?_
        refine rg_13_49 C hW (mm_ rfl) tw_1072 dX12_countsAnew_115 ?_
        refine lv_as (J 13 49) rfl ?_
        have hin : vp_in a0 10000 := tin rfl (by omega)
        refine rs_152 C hW (mm_ rfl) hin dX12_countsAnew_118 (fun H locs hW => ?_)
        have hWr : WB g A s.heap H locs (hv J [146, 150, 151, 152] [(13, 47), (13, 48)] (up2 (up2 (up2 (hv (hv J [146] [] u3) [] [(13, 47), (13, 48)] Gl4) 150 a0.toNatClampNeg (Gl4 13 47)) 151 a0.toNatClampNeg (Gl4 13 48)) 152 a0.toNatClampNeg (J 13 49)), L, I, P, E, N) (sgM g) := by
          rw [← ag_hvE (J := J) (R := [146, 150, 151, 152]) (F := [(13, 47), (13, 48)]) (ag_up (Or.inl rfl) (ag_up (Or.inl rfl) (ag_up (Or.inl rfl) (ag_hv rfl rfl (ag_hv rfl rfl ag_rf)))))]
          exact hW
        subst hQ9
        exact end_v C hr hlocks (up2 (up2 (up2 (hv (hv J [146] [] u3) [] [(13, 47), (13, 48)] Gl4) 150 a0.toNatClampNeg (Gl4 13 47)) 151 a0.toNatClampNeg (Gl4 13 48)) 152 a0.toNatClampNeg (J 13 49)) hWr ⟨show ∃ s o : Int32, (up2 J 150 a0.toNatClampNeg (Gl4 13 47)) 150 = up2 J 150 a0.toNatClampNeg s 150 ∧ (up2 J 151 a0.toNatClampNeg (Gl4 13 48)) 151 = up2 J 151 a0.toNatClampNeg o 151 ∧ CAV J a0.toNatClampNeg s.toInt o.toInt from by (have e8 : ((a0.toNatClampNeg : Nat) : Int) = a0.toInt := (by have h8 := tcl a0; omega); have e9 : m2.toInt = (J 13 35).toInt := (by omega); rw [e9] at hc2 hc1; rw [e1, e2] at hS; refine ⟨_, _, rfl, rfl, ?_⟩; unfold CAV; rw [e8]; exact ⟨_, hS, hc2, hc1⟩), show (up2 J 152 a0.toNatClampNeg (J 13 49)) 152 = up2 J 152 a0.toNatClampNeg (J 13 49) 152 from by rfl⟩ dX12_countsAnew_119
      · have c5 : m2.toInt < (J 13 35).toInt := tnle rfl rfl c5
        refine lv_aload_n hx hb dX12_countsAnew_27 rfl (lv_at hl 1 rfl) ?_
        refine lv_iload_n hx hb dX12_countsAnew_28 rfl (lv_at hl 0 rfl) ?_
        refine ci_ C hW (runV (x := (g.2.2.1 13)) (As := [.int m2]) (rest := []) (T := (((hv (hv J [146] [] u3) [] [(13, 47), (13, 48)] Gl4), L, I, P, E, N), sgM g)) C hW (c_X12_hearsNow_e l g (hv (hv J [146] [] u3) [] [(13, 47), (13, 48)] Gl4) L I P E N H.size m2 hwm (show 0 ≤ m2.toInt ∧ m2.toInt < (J 13 35).toInt from by omega)) mi_X12_hearsNow tw_1302 (recv_ (T := (((hv (hv J [146] [] u3) [] [(13, 47), (13, 48)] Gl4), L, I, P, E, N), sgM g)) C hW (mm_ rfl) rfl rfl) ⟨rfl, rfl, Nat.le_of_ble_eq_true rfl, Nat.le_of_ble_eq_true rfl⟩ rfl hl.1 rfl (Nat.le_of_ble_eq_true rfl) dX12_countsAnew_29 ⟨Nat.le_of_ble_eq_true rfl, Nat.le_of_ble_eq_true rfl⟩) (fun r6 u6 H locs hp6 hW => ?_)
        have hf6_0 : (((r6.toInt : Int) = 1 ∧ (J 13 36).toInt ≤ (u3 146 (J 108 m2.toNatClampNeg).toNatClampNeg / J 109 m2.toNatClampNeg).toInt) ∨ ((r6.toInt : Int) = 0 ∧ (u3 146 (J 108 m2.toNatClampNeg).toNatClampNeg / J 109 m2.toNatClampNeg).toInt < (J 13 36).toInt)) := hp6
        clear hp6
        have hW : WB g A s.heap H locs ((hv (hv J [146] [] u3) [] [(13, 47), (13, 48)] Gl4), L, I, P, E, N) (sgM g) := hW
        have hB := hf6_0
        refine lv_if_eq (tgt := 44) hx hb dX12_countsAnew_32 (by decide) (fun c7 => ?_) (fun c7 => ?_)
        · have c7 : r6.toInt = 0 := teq rfl kp0 c7
          refine lv_iconst (v := 0) hx hb dX12_countsAnew_44 (by decide) ?_
          have hf9 : ¬ (J 116 a0.toNatClampNeg).toInt = 6 → (0 : Int) = (HFM (J 116 a0.toNatClampNeg) (J 110) (J 111) a0.toInt (J 13 36) (J 109) (J 108) (u3 146)) m2.toInt.toNat := fun h6 => hwv_0 (Or.inr (hB.elim (fun q => absurd q.1 (by omega)) (fun q => q.2))) rfl
          have hf9 := hf9 hk6
          refine lv_istore_n (lv' := [(3, .int 0), (2, .int m2), (0, .ref (g.2.2.1 13)), (1, .int a0)]) hx hb dX12_countsAnew_45 rfl hl (by decide) rfl (fun ls hl => ?_)
          refine lv_aload_n hx hb dX12_countsAnew_46 rfl (lv_at hl 2 rfl) ?_
          refine lv_dup hx hb dX12_countsAnew_47 rfl ?_
          refine rg_13_47 C hW (mm_ rfl) tw_1070 dX12_countsAnew_48 ?_
          refine lv_as (Gl4 13 47) rfl ?_
          refine lv_iload_n hx hb dX12_countsAnew_51 rfl (lv_at hl 0 rfl) ?_
          refine lv_iconst (v := 2) hx hb dX12_countsAnew_52 (by decide) ?_
          refine lv_icmp_ne (tgt := 60) hx hb dX12_countsAnew_53 (by decide) (fun c8 => ?_) (fun c8 => ?_)
          · skip
            refine lv_iconst (v := 0) hx hb dX12_countsAnew_60 (by decide) ?_
            refine lv_iadd hx hb dX12_countsAnew_61 ?_
            refine lv_topi (fun x9 (e9 : x9 = (Gl4 13 47) + 0) => ?_)
            try have t9 : x9.toInt = (Gl4 13 47).toInt + 0 := tadd e9 rfl kp0 (by omega)
            refine rp_13_47 C hW (mm_ rfl) tw_1070 dX12_countsAnew_62 (fun H locs hW => ?_)
            refine lv_aload_n hx hb dX12_countsAnew_65 rfl (lv_at hl 2 rfl) ?_
            refine lv_dup hx hb dX12_countsAnew_66 rfl ?_
            refine rg_13_48 C hW (mm_ rfl) tw_1071 dX12_countsAnew_67 ?_
            refine lv_as (Gl4 13 48) rfl ?_
            refine lv_iload_n hx hb dX12_countsAnew_70 rfl (lv_at hl 0 rfl) ?_
            refine lv_if_le (tgt := 78) hx hb dX12_countsAnew_71 (by decide) (fun c10 => ?_) (fun c10 => ?_)
            · skip
              refine lv_iconst (v := 0) hx hb dX12_countsAnew_78 (by decide) ?_
              refine lv_iadd hx hb dX12_countsAnew_79 ?_
              refine lv_topi (fun x11 (e11 : x11 = (Gl4 13 48) + 0) => ?_)
              try have t11 : x11.toInt = (Gl4 13 48).toInt + 0 := tadd e11 rfl kp0 (by omega)
              refine rp_13_48 C hW (mm_ rfl) tw_1071 dX12_countsAnew_80 (fun H locs hW => ?_)
              obtain ⟨x12, e12⟩ : ∃ y : Int32, y = m2 + 1 := ⟨_, rfl⟩
              refine lv_iinc (v := x12) (lv' := [(2, .int x12), (3, .int 0), (0, .ref (g.2.2.1 13)), (1, .int a0)]) hx hb dX12_countsAnew_83 hl (k := 1) rfl (by rw [e12]; rfl) (by decide) rfl (fun ls hl => ?_)
              try have t12 : x12.toInt = m2.toInt + 1 := tadd e12 rfl kp1 (by omega)
              refine lv_goto (tgt := 19) hx hb dX12_countsAnew_86 (by decide) ?_
              have hWl : WB g A s.heap H locs ((hv (hv J [146] [] u3) [] [(13, 47), (13, 48)] (up2 (up2 (hv (hv J [146] [] u3) [] [(13, 47), (13, 48)] Gl4) 13 47 x9) 13 48 x11)), L, I, P, E, N) (sgM g) := by
                rw [← ag_hvE (J := (hv J [146] [] u3)) (R := []) (F := [(13, 47), (13, 48)]) (ag_up (Or.inr rfl) (ag_up (Or.inr rfl) (ag_hv rfl rfl ag_rf)))]
                exact hW
              refine ih x12 (up2 (up2 (hv (hv J [146] [] u3) [] [(13, 47), (13, 48)] Gl4) 13 47 x9) 13 48 x11) H locs ls ?_ ?_ ?_ ?_ hWl (lv_sub hl [0, 2, 3] rfl)
              · show (40 - x12.toInt).toNat < n
                omega
              · show 0 ≤ x12.toInt ∧ x12.toInt ≤ (J 13 35).toInt ∧ 0 ≤ (x9).toInt ∧ (x9).toInt ≤ x12.toInt ∧ 0 ≤ (x11).toInt ∧ (x11).toInt ≤ x12.toInt
                first | omega | exact hi | assumption
              · show (x9).toInt = CT2 (HFM (J 116 a0.toNatClampNeg) (J 110) (J 111) a0.toInt (J 13 36) (J 109) (J 108) (u3 146)) x12.toInt.toNat
                first | exact ct2_y hc2 (by omega) (by omega) (hf9.symm.trans (by omega)) (by omega) | exact ct2_n hc2 (by omega) (by omega) (fun z => by have z9 := hf9.trans z; omega) (by omega)
              · show (x11).toInt = CT1 (HFM (J 116 a0.toNatClampNeg) (J 110) (J 111) a0.toInt (J 13 36) (J 109) (J 108) (u3 146)) x12.toInt.toNat
                first | exact ct1_y hc1 (by omega) (by omega) (by rw [← hf9]; omega) (by omega) | exact ct1_n hc1 (by omega) (by omega) (fun z => by rw [← hf9] at z; omega) (by omega)
            · exact absurd (by decide) c10
          · exact absurd c8 (by decide)
        · have c7 : ¬ r6.toInt = 0 := tne rfl kp0 c7
          refine lv_aload_n hx hb dX12_countsAnew_35 rfl (lv_at hl 1 rfl) ?_
          refine lv_iload_n hx hb dX12_countsAnew_36 rfl (lv_at hl 0 rfl) ?_
          refine lv_iload_n hx hb dX12_countsAnew_37 rfl (lv_at hl 2 rfl) ?_
          refine ci_ C hW (runV (x := (g.2.2.1 13)) (As := [.int m2, .int a0]) (rest := []) (T := (((hv (hv J [146] [] u3) [] [(13, 47), (13, 48)] Gl4), L, I, P, E, N), sgM g)) C hW (c_X12_listens_e l g (hv (hv J [146] [] u3) [] [(13, 47), (13, 48)] Gl4) L I P E N H.size m2 a0 hwm (show 0 ≤ m2.toInt ∧ m2.toInt < 40 from by omega) (show 0 ≤ a0.toInt ∧ a0.toInt < 10000 from by omega)) mi_X12_listens tw_1398 (recv_ (T := (((hv (hv J [146] [] u3) [] [(13, 47), (13, 48)] Gl4), L, I, P, E, N), sgM g)) C hW (mm_ rfl) rfl rfl) ⟨rfl, rfl, Nat.le_of_ble_eq_true rfl, Nat.le_of_ble_eq_true rfl⟩ rfl hl.1 rfl (Nat.le_of_ble_eq_true rfl) dX12_countsAnew_38 ⟨Nat.le_of_ble_eq_true rfl, Nat.le_of_ble_eq_true rfl⟩) (fun r13 u13 H locs hp13 hW => ?_)
          have hf13_0 : (((r13.toInt : Int) = 2 ∧ ((J 116 a0.toNatClampNeg).toInt = 2 ∨ BT (J 110 m2.toNatClampNeg) a0.toInt = true)) ∨ (¬ (J 116 a0.toNatClampNeg).toInt = 2 ∧ ¬ BT (J 110 m2.toNatClampNeg) a0.toInt = true ∧ (((r13.toInt : Int) = 1 ∧ BT (J 111 m2.toNatClampNeg) a0.toInt = true) ∨ ((r13.toInt : Int) = 0 ∧ ¬ BT (J 111 m2.toNatClampNeg) a0.toInt = true)))) := hp13
          clear hp13
          have hW : WB g A s.heap H locs ((hv (hv J [146] [] u3) [] [(13, 47), (13, 48)] Gl4), L, I, P, E, N) (sgM g) := hW
          have hL := hf13_0
          refine lv_goto (tgt := 45) hx hb dX12_countsAnew_41 (by decide) ?_
          have hf9 : ¬ (J 116 a0.toNatClampNeg).toInt = 6 → r13.toInt = (HFM (J 116 a0.toNatClampNeg) (J 110) (J 111) a0.toInt (J 13 36) (J 109) (J 108) (u3 146)) m2.toInt.toNat := fun h6 => hwv_ls h6 (hB.elim (fun q => q.2) (fun q => absurd q.1 (by omega))) hL
          have hf9 := hf9 hk6
          refine lv_istore_n (lv' := [(3, .int r13), (2, .int m2), (0, .ref (g.2.2.1 13)), (1, .int a0)]) hx hb dX12_countsAnew_45 rfl hl (by decide) rfl (fun ls hl => ?_)
          refine lv_aload_n hx hb dX12_countsAnew_46 rfl (lv_at hl 2 rfl) ?_
          refine lv_dup hx hb dX12_countsAnew_47 rfl ?_
          refine rg_13_47 C hW (mm_ rfl) tw_1070 dX12_countsAnew_48 ?_
          refine lv_as (Gl4 13 47) rfl ?_
          refine lv_iload_n hx hb dX12_countsAnew_51 rfl (lv_at hl 0 rfl) ?_
          refine lv_iconst (v := 2) hx hb dX12_countsAnew_52 (by decide) ?_
          refine lv_icmp_ne (tgt := 60) hx hb dX12_countsAnew_53 (by decide) (fun c14 => ?_) (fun c14 => ?_)
          · have c14 : ¬ r13.toInt = 2 := tne rfl kp2 c14
            refine lv_iconst (v := 0) hx hb dX12_countsAnew_60 (by decide) ?_
            refine lv_iadd hx hb dX12_countsAnew_61 ?_
            refine lv_topi (fun x15 (e15 : x15 = (Gl4 13 47) + 0) => ?_)
            try have t15 : x15.toInt = (Gl4 13 47).toInt + 0 := tadd e15 rfl kp0 (by omega)
            refine rp_13_47 C hW (mm_ rfl) tw_1070 dX12_countsAnew_62 (fun H locs hW => ?_)
            refine lv_aload_n hx hb dX12_countsAnew_65 rfl (lv_at hl 2 rfl) ?_
            refine lv_dup hx hb dX12_countsAnew_66 rfl ?_
            refine rg_13_48 C hW (mm_ rfl) tw_1071 dX12_countsAnew_67 ?_
            refine lv_as (Gl4 13 48) rfl ?_
            refine lv_iload_n hx hb dX12_countsAnew_70 rfl (lv_at hl 0 rfl) ?_
            refine lv_if_le (tgt := 78) hx hb dX12_countsAnew_71 (by decide) (fun c16 => ?_) (fun c16 => ?_)
            · have c16 : r13.toInt ≤ 0 := tle rfl kp0 c16
              refine lv_iconst (v := 0) hx hb dX12_countsAnew_78 (by decide) ?_
              refine lv_iadd hx hb dX12_countsAnew_79 ?_
              refine lv_topi (fun x17 (e17 : x17 = (Gl4 13 48) + 0) => ?_)
              try have t17 : x17.toInt = (Gl4 13 48).toInt + 0 := tadd e17 rfl kp0 (by omega)
              refine rp_13_48 C hW (mm_ rfl) tw_1071 dX12_countsAnew_80 (fun H locs hW => ?_)
              obtain ⟨x18, e18⟩ : ∃ y : Int32, y = m2 + 1 := ⟨_, rfl⟩
              refine lv_iinc (v := x18) (lv' := [(2, .int x18), (3, .int r13), (0, .ref (g.2.2.1 13)), (1, .int a0)]) hx hb dX12_countsAnew_83 hl (k := 1) rfl (by rw [e18]; rfl) (by decide) rfl (fun ls hl => ?_)
              try have t18 : x18.toInt = m2.toInt + 1 := tadd e18 rfl kp1 (by omega)
              refine lv_goto (tgt := 19) hx hb dX12_countsAnew_86 (by decide) ?_
              have hWl : WB g A s.heap H locs ((hv (hv J [146] [] u3) [] [(13, 47), (13, 48)] (up2 (up2 (hv (hv J [146] [] u3) [] [(13, 47), (13, 48)] Gl4) 13 47 x15) 13 48 x17)), L, I, P, E, N) (sgM g) := by
                rw [← ag_hvE (J := (hv J [146] [] u3)) (R := []) (F := [(13, 47), (13, 48)]) (ag_up (Or.inr rfl) (ag_up (Or.inr rfl) (ag_hv rfl rfl ag_rf)))]
                exact hW
              refine ih x18 (up2 (up2 (hv (hv J [146] [] u3) [] [(13, 47), (13, 48)] Gl4) 13 47 x15) 13 48 x17) H locs ls ?_ ?_ ?_ ?_ hWl (lv_sub hl [0, 2, 3] rfl)
              · show (40 - x18.toInt).toNat < n
                omega
              · show 0 ≤ x18.toInt ∧ x18.toInt ≤ (J 13 35).toInt ∧ 0 ≤ (x15).toInt ∧ (x15).toInt ≤ x18.toInt ∧ 0 ≤ (x17).toInt ∧ (x17).toInt ≤ x18.toInt
                first | omega | exact hi | assumption
              · show (x15).toInt = CT2 (HFM (J 116 a0.toNatClampNeg) (J 110) (J 111) a0.toInt (J 13 36) (J 109) (J 108) (u3 146)) x18.toInt.toNat
                first | exact ct2_y hc2 (by omega) (by omega) (hf9.symm.trans (by omega)) (by omega) | exact ct2_n hc2 (by omega) (by omega) (fun z => by have z9 := hf9.trans z; omega) (by omega)
              · show (x17).toInt = CT1 (HFM (J 116 a0.toNatClampNeg) (J 110) (J 111) a0.toInt (J 13 36) (J 109) (J 108) (u3 146)) x18.toInt.toNat
                first | exact ct1_y hc1 (by omega) (by omega) (by rw [← hf9]; omega) (by omega) | exact ct1_n hc1 (by omega) (by omega) (fun z => by rw [← hf9] at z; omega) (by omega)
            · have c16 : 0 < r13.toInt := tnle rfl kp0 c16
              refine lv_iconst (v := 1) hx hb dX12_countsAnew_74 (by decide) ?_
              refine lv_goto (tgt := 79) hx hb dX12_countsAnew_75 (by decide) ?_
              refine lv_iadd hx hb dX12_countsAnew_79 ?_
              refine lv_topi (fun x19 (e19 : x19 = (Gl4 13 48) + 1) => ?_)
              try have t19 : x19.toInt = (Gl4 13 48).toInt + 1 := tadd e19 rfl kp1 (by omega)
              refine rp_13_48 C hW (mm_ rfl) tw_1071 dX12_countsAnew_80 (fun H locs hW => ?_)
              obtain ⟨x20, e20⟩ : ∃ y : Int32, y = m2 + 1 := ⟨_, rfl⟩
              refine lv_iinc (v := x20) (lv' := [(2, .int x20), (3, .int r13), (0, .ref (g.2.2.1 13)), (1, .int a0)]) hx hb dX12_countsAnew_83 hl (k := 1) rfl (by rw [e20]; rfl) (by decide) rfl (fun ls hl => ?_)
              try have t20 : x20.toInt = m2.toInt + 1 := tadd e20 rfl kp1 (by omega)
              refine lv_goto (tgt := 19) hx hb dX12_countsAnew_86 (by decide) ?_
              have hWl : WB g A s.heap H locs ((hv (hv J [146] [] u3) [] [(13, 47), (13, 48)] (up2 (up2 (hv (hv J [146] [] u3) [] [(13, 47), (13, 48)] Gl4) 13 47 x15) 13 48 x19)), L, I, P, E, N) (sgM g) := by
                rw [← ag_hvE (J := (hv J [146] [] u3)) (R := []) (F := [(13, 47), (13, 48)]) (ag_up (Or.inr rfl) (ag_up (Or.inr rfl) (ag_hv rfl rfl ag_rf)))]
                exact hW
              refine ih x20 (up2 (up2 (hv (hv J [146] [] u3) [] [(13, 47), (13, 48)] Gl4) 13 47 x15) 13 48 x19) H locs ls ?_ ?_ ?_ ?_ hWl (lv_sub hl [0, 2, 3] rfl)
              · show (40 - x20.toInt).toNat < n
                omega
              · show 0 ≤ x20.toInt ∧ x20.toInt ≤ (J 13 35).toInt ∧ 0 ≤ (x15).toInt ∧ (x15).toInt ≤ x20.toInt ∧ 0 ≤ (x19).toInt ∧ (x19).toInt ≤ x20.toInt
                first | omega | exact hi | assumption
              · show (x15).toInt = CT2 (HFM (J 116 a0.toNatClampNeg) (J 110) (J 111) a0.toInt (J 13 36) (J 109) (J 108) (u3 146)) x20.toInt.toNat
                first | exact ct2_y hc2 (by omega) (by omega) (hf9.symm.trans (by omega)) (by omega) | exact ct2_n hc2 (by omega) (by omega) (fun z => by have z9 := hf9.trans z; omega) (by omega)
              · show (x19).toInt = CT1 (HFM (J 116 a0.toNatClampNeg) (J 110) (J 111) a0.toInt (J 13 36) (J 109) (J 108) (u3 146)) x20.toInt.toNat
                first | exact ct1_y hc1 (by omega) (by omega) (by rw [← hf9]; omega) (by omega) | exact ct1_n hc1 (by omega) (by omega) (fun z => by rw [← hf9] at z; omega) (by omega)
          · have c14 : r13.toInt = 2 := teq rfl kp2 c14
            refine lv_iconst (v := 1) hx hb dX12_countsAnew_56 (by decide) ?_
            refine lv_goto (tgt := 61) hx hb dX12_countsAnew_57 (by decide) ?_
            refine lv_iadd hx hb dX12_countsAnew_61 ?_
            refine lv_topi (fun x21 (e21 : x21 = (Gl4 13 47) + 1) => ?_)
            try have t21 : x21.toInt = (Gl4 13 47).toInt + 1 := tadd e21 rfl kp1 (by omega)
            refine rp_13_47 C hW (mm_ rfl) tw_1070 dX12_countsAnew_62 (fun H locs hW => ?_)
            refine lv_aload_n hx hb dX12_countsAnew_65 rfl (lv_at hl 2 rfl) ?_
            refine lv_dup hx hb dX12_countsAnew_66 rfl ?_
            refine rg_13_48 C hW (mm_ rfl) tw_1071 dX12_countsAnew_67 ?_
            refine lv_as (Gl4 13 48) rfl ?_
            refine lv_iload_n hx hb dX12_countsAnew_70 rfl (lv_at hl 0 rfl) ?_
            refine lv_if_le (tgt := 78) hx hb dX12_countsAnew_71 (by decide) (fun c22 => ?_) (fun c22 => ?_)
            · have c22 : r13.toInt ≤ 0 := tle rfl kp0 c22
              exfalso; omega
            · have c22 : 0 < r13.toInt := tnle rfl kp0 c22
              refine lv_iconst (v := 1) hx hb dX12_countsAnew_74 (by decide) ?_
              refine lv_goto (tgt := 79) hx hb dX12_countsAnew_75 (by decide) ?_
              refine lv_iadd hx hb dX12_countsAnew_79 ?_
              refine lv_topi (fun x23 (e23 : x23 = (Gl4 13 48) + 1) => ?_)
              try have t23 : x23.toInt = (Gl4 13 48).toInt + 1 := tadd e23 rfl kp1 (by omega)
              refine rp_13_48 C hW (mm_ rfl) tw_1071 dX12_countsAnew_80 (fun H locs hW => ?_)
              obtain ⟨x24, e24⟩ : ∃ y : Int32, y = m2 + 1 := ⟨_, rfl⟩
              refine lv_iinc (v := x24) (lv' := [(2, .int x24), (3, .int r13), (0, .ref (g.2.2.1 13)), (1, .int a0)]) hx hb dX12_countsAnew_83 hl (k := 1) rfl (by rw [e24]; rfl) (by decide) rfl (fun ls hl => ?_)
              try have t24 : x24.toInt = m2.toInt + 1 := tadd e24 rfl kp1 (by omega)
              refine lv_goto (tgt := 19) hx hb dX12_countsAnew_86 (by decide) ?_
              have hWl : WB g A s.heap H locs ((hv (hv J [146] [] u3) [] [(13, 47), (13, 48)] (up2 (up2 (hv (hv J [146] [] u3) [] [(13, 47), (13, 48)] Gl4) 13 47 x21) 13 48 x23)), L, I, P, E, N) (sgM g) := by
                rw [← ag_hvE (J := (hv J [146] [] u3)) (R := []) (F := [(13, 47), (13, 48)]) (ag_up (Or.inr rfl) (ag_up (Or.inr rfl) (ag_hv rfl rfl ag_rf)))]
                exact hW
              refine ih x24 (up2 (up2 (hv (hv J [146] [] u3) [] [(13, 47), (13, 48)] Gl4) 13 47 x21) 13 48 x23) H locs ls ?_ ?_ ?_ ?_ hWl (lv_sub hl [0, 2, 3] rfl)
              · show (40 - x24.toInt).toNat < n
                omega
              · show 0 ≤ x24.toInt ∧ x24.toInt ≤ (J 13 35).toInt ∧ 0 ≤ (x21).toInt ∧ (x21).toInt ≤ x24.toInt ∧ 0 ≤ (x23).toInt ∧ (x23).toInt ≤ x24.toInt
                first | omega | exact hi | assumption
              · show (x21).toInt = CT2 (HFM (J 116 a0.toNatClampNeg) (J 110) (J 111) a0.toInt (J 13 36) (J 109) (J 108) (u3 146)) x24.toInt.toNat
                first | exact ct2_y hc2 (by omega) (by omega) (hf9.symm.trans (by omega)) (by omega) | exact ct2_n hc2 (by omega) (by omega) (fun z => by have z9 := hf9.trans z; omega) (by omega)
              · show (x23).toInt = CT1 (HFM (J 116 a0.toNatClampNeg) (J 110) (J 111) a0.toInt (J 13 36) (J 109) (J 108) (u3 146)) x24.toInt.toNat
                first | exact ct1_y hc1 (by omega) (by omega) (by rw [← hf9]; omega) (by omega) | exact ct1_n hc1 (by omega) (by omega) (fun z => by rw [← hf9] at z; omega) (by omega)
  -- into the loop
  have hWl : WB g A s.heap H locs ((hv (hv J [146] [] u3) [] [(13, 47), (13, 48)] (hv J [146] [] u3)), L, I, P, E, N) (sgM g) := by
    rw [← ag_hvE (J := (hv J [146] [] u3)) (R := []) (F := [(13, 47), (13, 48)]) ag_rf]
    exact hW
  refine loop19 ((40 - (0 : Int32).toInt).toNat + 1) 0 (hv J [146] [] u3) H locs ls ?_ ?_ ?_ ?_ hWl (lv_sub hl [0, 1, 2] rfl)
  · exact Nat.lt_succ_self _
  · show 0 ≤ (0 : Int32).toInt ∧ (0 : Int32).toInt ≤ (J 13 35).toInt ∧ 0 ≤ (J 13 47).toInt ∧ (J 13 47).toInt ≤ (0 : Int32).toInt ∧ 0 ≤ (J 13 48).toInt ∧ (J 13 48).toInt ≤ (0 : Int32).toInt
    try rw [kp0]
    first | omega | exact ⟨by decide, by omega, by decide, by decide, by decide, by decide⟩
  · show (J 13 47).toInt = CT2 (HFM (J 116 a0.toNatClampNeg) (J 110) (J 111) a0.toInt (J 13 36) (J 109) (J 108) (u3 146)) (0 : Int32).toInt.toNat
    try rw [kp0]
    exact hz.1
  · show (J 13 48).toInt = CT1 (HFM (J 116 a0.toNatClampNeg) (J 110) (J 111) a0.toInt (J 13 36) (J 109) (J 108) (u3 146)) (0 : Int32).toInt.toNat
    try rw [kp0]
    exact hz.2

set_option maxHeartbeats 4000000 in
set_option maxRecDepth 100000 in
theorem c_X12_counts_e (l : Launch) (g : gG) (J : Nat → Nat → Int32) (L : Nat → Nat → Int64) (I : Nat → Nat → Nat → Int32) (P : Nat → Nat → Nat → Option Nat) (E : Nat → Option Nat) (N : Nat → Nat) (sz : Nat) (a0 : Int32) (hwm : WM J) (hm : 0 ≤ a0.toInt ∧ a0.toInt < 10000) (hmn : a0.toInt < (J 13 31).toInt) (hcac : CAC J) : Met l yX12_counts (WS yX12_counts cX12_counts 2 none) (RM (5) 0 0) (PC g [.ref (g.2.2.1 13), .int a0] ((J, L, I, P, E, N), sgM g) sz) (va_Qv (fun (u : (Nat → Nat → Int32)) => ((J 116 a0.toNatClampNeg).toInt = 6 → (u 13 47).toInt = 0 ∧ (u 13 48).toInt = 0) ∧ (¬ (J 116 a0.toNatClampNeg).toInt = 6 → CAV J a0.toNatClampNeg (u 13 47).toInt (u 13 48).toInt) ∧ (CAC (hv J [146, 150, 151, 152] [(13, 47), (13, 48)] u))) (fun u t => at_ g (FR g ((J, L, I, P, E, N), sgM g) sz) ((hv J [146, 150, 151, 152] [(13, 47), (13, 48)] u, L, I, P, E, N), sgM g) t) (FR g ((J, L, I, P, E, N), sgM g) sz)) 0 0 (FR g ((J, L, I, P, E, N), sgM g) sz) := by
  refine ent (by decide +kernel) (Nat.le_of_ble_eq_true rfl) ?_
  intro p e s m below meth c ls hsz C hW hr hlocks hname hl
  generalize FR g ((J, L, I, P, E, N), sgM g) sz = A at C hW ⊢
  generalize hQ9 : (va_Qv (fun (u : (Nat → Nat → Int32)) => ((J 116 a0.toNatClampNeg).toInt = 6 → (u 13 47).toInt = 0 ∧ (u 13 48).toInt = 0) ∧ (¬ (J 116 a0.toNatClampNeg).toInt = 6 → CAV J a0.toNatClampNeg (u 13 47).toInt (u 13 48).toInt) ∧ (CAC (hv J [146, 150, 151, 152] [(13, 47), (13, 48)] u))) (fun u t => at_ g A ((hv J [146, 150, 151, 152] [(13, 47), (13, 48)] u, L, I, P, E, N), sgM g) t) A) = Q9
  have hx := C.1.1
  have hb := C.1.2.1
  have hts := C.1.2.2.2.2
  have hW : WB g A s.heap s.heap [] (J, L, I, P, E, N) (sgM g) := hW
  have hl : lv_has ls 2 [(0, .ref (g.2.2.1 13)), (1, .int a0)] := hl
  obtain ⟨H, hH⟩ : ∃ H : Heap, H = s.heap := ⟨_, rfl⟩
  obtain ⟨locs, hlocs⟩ : ∃ q : List Loc, q = [] := ⟨_, rfl⟩
  have hW : WB g A s.heap H locs (J, L, I, P, E, N) (sgM g) := by rw [hH, hlocs]; exact hW
  obtain ⟨⟨hnd1, hnd2, hon, hhm1, hhm2, hhN, hcu1, hcu2, hco1, hco2, hcN⟩, ⟨hrd1, hrd2⟩, ⟨hnw1, hnw2, hns1, hns2, hof⟩, ⟨htm1, htm2, hts_⟩, ⟨had1, had2, hrw1, hrw2, htp1, htp2⟩⟩ := id hwm
  refine start_ hH hlocs ?_
  refine lv_aload_n hx hb dX12_counts_0 rfl (lv_at hl 0 rfl) ?_
  refine lv_iconst (v := 0) hx hb dX12_counts_1 (by decide) ?_
  refine rp_13_47 C hW (mm_ rfl) tw_1070 dX12_counts_2 (fun H locs hW => ?_)
  refine lv_aload_n hx hb dX12_counts_5 rfl (lv_at hl 0 rfl) ?_
  refine lv_iconst (v := 0) hx hb dX12_counts_6 (by decide) ?_
  refine rp_13_48 C hW (mm_ rfl) tw_1071 dX12_counts_7 (fun H locs hW => ?_)
  refine lv_aload_n hx hb dX12_counts_10 rfl (lv_at hl 0 rfl) ?_
  refine rg_13_16 C hW (mm_ rfl) tw_1039 dX12_counts_11 ?_
  refine lv_iload_n hx hb dX12_counts_14 rfl (lv_at hl 1 rfl) ?_
  have hin : vp_in a0 10000 := tin rfl (by omega)
  refine ra_116 C hW (mm_ rfl) hin dX12_counts_15 ?_
  refine lv_topi (fun x1 (e1 : x1 = J 116 a0.toNatClampNeg) => ?_)
  have t1 : x1.toInt = (J 116 a0.toNatClampNeg).toInt := by rw [e1]
  refine lv_bipush (v := 6) hx hb dX12_counts_16 (by decide) ?_
  refine lv_icmp_ne (tgt := 22) hx hb dX12_counts_18 (by decide) (fun c2 => ?_) (fun c2 => ?_)
  · have c2 : ¬ x1.toInt = 6 := tne rfl kp6 c2
    refine lv_aload_n hx hb dX12_counts_22 rfl (lv_at hl 0 rfl) ?_
    refine rg_13_52 C hW (mm_ rfl) tw_1075 dX12_counts_23 ?_
    refine lv_iload_n hx hb dX12_counts_26 rfl (lv_at hl 1 rfl) ?_
    have hin : vp_in a0 10000 := tin rfl (by omega)
    refine ra_152 C hW (mm_ rfl) hin dX12_counts_27 ?_
    refine lv_topi (fun x3 (e3 : x3 = J 152 a0.toNatClampNeg) => ?_)
    have t3 : x3.toInt = (J 152 a0.toNatClampNeg).toInt := by rw [e3]
    refine lv_aload_n hx hb dX12_counts_28 rfl (lv_at hl 0 rfl) ?_
    refine rg_13_49 C hW (mm_ rfl) tw_1072 dX12_counts_29 ?_
    refine lv_as (J 13 49) rfl ?_
    refine lv_icmp_eq (tgt := 40) hx hb dX12_counts_32 (by decide) (fun c4 => ?_) (fun c4 => ?_)
    · have c4 : x3.toInt = (J 13 49).toInt := teq rfl rfl c4
      refine lv_aload_n hx hb dX12_counts_40 rfl (lv_at hl 0 rfl) ?_
      refine lv_aload_n hx hb dX12_counts_41 rfl (lv_at hl 0 rfl) ?_
      refine rg_13_50 C hW (mm_ rfl) tw_1073 dX12_counts_42 ?_
      refine lv_iload_n hx hb dX12_counts_45 rfl (lv_at hl 1 rfl) ?_
      have hin : vp_in a0 10000 := tin rfl (by omega)
      refine ra_150 C hW (mm_ rfl) hin dX12_counts_46 ?_
      refine lv_topi (fun x5 (e5 : x5 = J 150 a0.toNatClampNeg) => ?_)
      refine rp_13_47 C hW (mm_ rfl) tw_1070 dX12_counts_47 (fun H locs hW => ?_)
      refine lv_aload_n hx hb dX12_counts_50 rfl (lv_at hl 0 rfl) ?_
      refine lv_aload_n hx hb dX12_counts_51 rfl (lv_at hl 0 rfl) ?_
      refine rg_13_51 C hW (mm_ rfl) tw_1074 dX12_counts_52 ?_
      refine lv_iload_n hx hb dX12_counts_55 rfl (lv_at hl 1 rfl) ?_
      have hin : vp_in a0 10000 := tin rfl (by omega)
      refine ra_151 C hW (mm_ rfl) hin dX12_counts_56 ?_
      refine lv_topi (fun x6 (e6 : x6 = J 151 a0.toNatClampNeg) => ?_)
      refine rp_13_48 C hW (mm_ rfl) tw_1071 dX12_counts_57 (fun H locs hW => ?_)
      have hWr : WB g A s.heap H locs (hv J [146, 150, 151, 152] [(13, 47), (13, 48)] (up2 (up2 (up2 (up2 J 13 47 0) 13 48 0) 13 47 x5) 13 48 x6), L, I, P, E, N) (sgM g) := by
        rw [← ag_hvE (J := J) (R := [146, 150, 151, 152]) (F := [(13, 47), (13, 48)]) (ag_up (Or.inr rfl) (ag_up (Or.inr rfl) (ag_up (Or.inr rfl) (ag_up (Or.inr rfl) ag_rf))))]
        exact hW
      subst hQ9
      exact end_v C hr hlocks (up2 (up2 (up2 (up2 J 13 47 0) 13 48 0) 13 47 x5) 13 48 x6) hWr ⟨show (J 116 a0.toNatClampNeg).toInt = 6 → (x5).toInt = 0 ∧ (x6).toInt = 0 from by (intro h9; exfalso; omega), show ¬ (J 116 a0.toNatClampNeg).toInt = 6 → CAV J a0.toNatClampNeg (x5).toInt (x6).toInt from by (intro h9; have g3 := hcac.2 a0.toNatClampNeg (by have h8 := tcl a0; omega) h9 (ext_i (by omega)); rw [← e5, ← e6] at g3; exact g3), show CAC (hv J [146, 150, 151, 152] [(13, 47), (13, 48)] (up2 (up2 (up2 (up2 J 13 47 0) 13 48 0) 13 47 x5) 13 48 x6)) from by rw [← ag_hvE (J := J) (R := [146, 150, 151, 152]) (F := [(13, 47), (13, 48)]) (ag_up (Or.inr rfl) (ag_up (Or.inr rfl) (ag_up (Or.inr rfl) (ag_up (Or.inr rfl) ag_rf))))]; exact cac_e (J := J) ⟨rfl, rfl, rfl, rfl, rfl, rfl, rfl, rfl, rfl, rfl, rfl, rfl, rfl, rfl, rfl, rfl, rfl, rfl, rfl, rfl⟩ rfl rfl rfl hcac⟩ dX12_counts_60
    · have c4 : ¬ x3.toInt = (J 13 49).toInt := tne rfl rfl c4
      refine lv_aload_n hx hb dX12_counts_35 rfl (lv_at hl 0 rfl) ?_
      refine lv_iload_n hx hb dX12_counts_36 rfl (lv_at hl 1 rfl) ?_
      refine cv_ C hW (runV (x := (g.2.2.1 13)) (As := [.int a0]) (rest := []) (T := (((up2 (up2 J 13 47 0) 13 48 0), L, I, P, E, N), sgM g)) C hW (c_X12_countsAnew_e l g (up2 (up2 J 13 47 0) 13 48 0) L I P E N H.size a0 hwm (show 0 ≤ a0.toInt ∧ a0.toInt < 10000 from by omega) (show ¬ (J 116 a0.toNatClampNeg).toInt = 6 from (by omega)) (show ((0 : Int32)).toInt = 0 ∧ ((0 : Int32)).toInt = 0 from ⟨kp0, kp0⟩)) mi_X12_countsAnew tw_1394 (recv_ (T := (((up2 (up2 J 13 47 0) 13 48 0), L, I, P, E, N), sgM g)) C hW (mm_ rfl) rfl rfl) ⟨rfl, rfl, Nat.le_of_ble_eq_true rfl, Nat.le_of_ble_eq_true rfl⟩ rfl hl.1 rfl (Nat.le_of_ble_eq_true rfl) dX12_counts_37 ⟨Nat.le_of_ble_eq_true rfl, Nat.le_of_ble_eq_true rfl⟩) (fun u7 H locs hp7 hW => ?_)
      obtain ⟨hf7_0, hf7_1⟩ : (∃ s o : Int32, u7 150 = up2 J 150 a0.toNatClampNeg s 150 ∧ u7 151 = up2 J 151 a0.toNatClampNeg o 151 ∧ CAV (up2 (up2 J 13 47 0) 13 48 0) a0.toNatClampNeg s.toInt o.toInt) ∧ (u7 152 = up2 J 152 a0.toNatClampNeg (J 13 49) 152) := hp7
      have hW : WB g A s.heap H locs ((hv (up2 (up2 J 13 47 0) 13 48 0) [146, 150, 151, 152] [(13, 47), (13, 48)] u7), L, I, P, E, N) (sgM g) := hW
      have hN0 := hf7_0
      have hN1 := hf7_1
      refine lv_aload_n hx hb dX12_counts_40 rfl (lv_at hl 0 rfl) ?_
      refine lv_aload_n hx hb dX12_counts_41 rfl (lv_at hl 0 rfl) ?_
      refine rg_13_50 C hW (mm_ rfl) tw_1073 dX12_counts_42 ?_
      refine lv_iload_n hx hb dX12_counts_45 rfl (lv_at hl 1 rfl) ?_
      have hin : vp_in a0 10000 := tin rfl (by omega)
      refine ra_150 C hW (mm_ rfl) hin dX12_counts_46 ?_
      refine lv_topi (fun x8 (e8 : x8 = u7 150 a0.toNatClampNeg) => ?_)
      refine rp_13_47 C hW (mm_ rfl) tw_1070 dX12_counts_47 (fun H locs hW => ?_)
      refine lv_aload_n hx hb dX12_counts_50 rfl (lv_at hl 0 rfl) ?_
      refine lv_aload_n hx hb dX12_counts_51 rfl (lv_at hl 0 rfl) ?_
      refine rg_13_51 C hW (mm_ rfl) tw_1074 dX12_counts_52 ?_
      refine lv_iload_n hx hb dX12_counts_55 rfl (lv_at hl 1 rfl) ?_
      have hin : vp_in a0 10000 := tin rfl (by omega)
      refine ra_151 C hW (mm_ rfl) hin dX12_counts_56 ?_
      refine lv_topi (fun x9 (e9 : x9 = u7 151 a0.toNatClampNeg) => ?_)
      refine rp_13_48 C hW (mm_ rfl) tw_1071 dX12_counts_57 (fun H locs hW => ?_)
      have hWr : WB g A s.heap H locs (hv J [146, 150, 151, 152] [(13, 47), (13, 48)] (up2 (up2 (hv (up2 (up2 J 13 47 0) 13 48 0) [146, 150, 151, 152] [(13, 47), (13, 48)] u7) 13 47 x8) 13 48 x9), L, I, P, E, N) (sgM g) := by
        rw [← ag_hvE (J := J) (R := [146, 150, 151, 152]) (F := [(13, 47), (13, 48)]) (ag_up (Or.inr rfl) (ag_up (Or.inr rfl) (ag_hv rfl rfl (ag_up (Or.inr rfl) (ag_up (Or.inr rfl) ag_rf)))))]
        exact hW
      subst hQ9
      exact end_v C hr hlocks (up2 (up2 (hv (up2 (up2 J 13 47 0) 13 48 0) [146, 150, 151, 152] [(13, 47), (13, 48)] u7) 13 47 x8) 13 48 x9) hWr ⟨show (J 116 a0.toNatClampNeg).toInt = 6 → (x8).toInt = 0 ∧ (x9).toInt = 0 from by (intro h9; exfalso; omega), show ¬ (J 116 a0.toNatClampNeg).toInt = 6 → CAV J a0.toNatClampNeg (x8).toInt (x9).toInt from by (intro h9; obtain ⟨s9, o9, g1, g2, g3⟩ := hN0; have q1 : x8 = s9 := (by rw [e8, g1]; exact up2_s _ _ _ _); have q2 : x9 = o9 := (by rw [e9, g2]; exact up2_s _ _ _ _); rw [q1, q2]; exact g3), show CAC (hv J [146, 150, 151, 152] [(13, 47), (13, 48)] (up2 (up2 (hv (up2 (up2 J 13 47 0) 13 48 0) [146, 150, 151, 152] [(13, 47), (13, 48)] u7) 13 47 x8) 13 48 x9)) from by (rw [← ag_hvE (J := J) (R := [146, 150, 151, 152]) (F := [(13, 47), (13, 48)]) (ag_up (Or.inr rfl) (ag_up (Or.inr rfl) (ag_hv rfl rfl (ag_up (Or.inr rfl) (ag_up (Or.inr rfl) ag_rf)))))]; obtain ⟨s9, o9, g1, g2, g3⟩ := hN0; exact cac_up (J := J) ⟨rfl, rfl, rfl, rfl, rfl, rfl, rfl, rfl, rfl, rfl, rfl, rfl, rfl, rfl, rfl, rfl, rfl, rfl, rfl, rfl⟩ g1 g2 hN1 (by have h8 := tcl a0; omega) g3 hcac)⟩ dX12_counts_60
  · have c2 : x1.toInt = 6 := teq rfl kp6 c2
    have hWr : WB g A s.heap H locs (hv J [146, 150, 151, 152] [(13, 47), (13, 48)] (up2 (up2 J 13 47 0) 13 48 0), L, I, P, E, N) (sgM g) := by
      rw [← ag_hvE (J := J) (R := [146, 150, 151, 152]) (F := [(13, 47), (13, 48)]) (ag_up (Or.inr rfl) (ag_up (Or.inr rfl) ag_rf))]
      exact hW
    subst hQ9
    exact end_v C hr hlocks (up2 (up2 J 13 47 0) 13 48 0) hWr ⟨show (J 116 a0.toNatClampNeg).toInt = 6 → ((0 : Int32)).toInt = 0 ∧ ((0 : Int32)).toInt = 0 from by exact fun _ => ⟨kp0, kp0⟩, show ¬ (J 116 a0.toNatClampNeg).toInt = 6 → CAV J a0.toNatClampNeg ((0 : Int32)).toInt ((0 : Int32)).toInt from by (intro h9; exfalso; omega), show CAC (hv J [146, 150, 151, 152] [(13, 47), (13, 48)] (up2 (up2 J 13 47 0) 13 48 0)) from by rw [← ag_hvE (J := J) (R := [146, 150, 151, 152]) (F := [(13, 47), (13, 48)]) (ag_up (Or.inr rfl) (ag_up (Or.inr rfl) ag_rf))]; exact cac_e (J := J) ⟨rfl, rfl, rfl, rfl, rfl, rfl, rfl, rfl, rfl, rfl, rfl, rfl, rfl, rfl, rfl, rfl, rfl, rfl, rfl, rfl⟩ rfl rfl rfl hcac⟩ dX12_counts_21
