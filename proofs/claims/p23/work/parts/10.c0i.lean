/-- a row filled from a to b -/
def FILL (x y : Nat → Int32) (a b : Int) (v : Int32) : Prop := ∀ m : Nat, (a ≤ (m : Int) → (m : Int) < b → y m = v) ∧ ((m : Int) < a → y m = x m)
theorem fill_0 {x : Nat → Int32} {a b : Int} {v : Int32} (h : b = a) : FILL x x a b v := fun m => ⟨fun _ _ => by omega, fun _ => rfl⟩
theorem fill_s {x z : Nat → Int32} {G : Nat → Nat → Int32} {r : Nat} {a b b' : Int} {v w : Int32} (h : FILL x (G r) a b v) (hz : z = up2 G r w.toNatClampNeg v r) (hw : w.toInt = b) (h0 : 0 ≤ b) (ha : a ≤ b) (hb : b' = b + 1) : FILL x z a b' v := by
  have h8 := tcl w
  intro m
  obtain ⟨h1, h2⟩ := h m
  subst hz
  by_cases e : m = w.toNatClampNeg
  · subst e; rw [up2_s]; exact ⟨fun _ _ => rfl, fun q => by omega⟩
  · rw [up2_f _ _ _ e]; exact ⟨fun q1 q2 => h1 q1 (by omega), h2⟩
theorem zf_s {G : Nat → Nat → Int32} {r : Nat} {w : Int32} {b : Int} (h : ∀ k : Nat, (k : Int) < w.toInt → G r k = 0) (h0 : 0 ≤ w.toInt) (hb : b = w.toInt + 1) : ∀ k : Nat, (k : Int) < b → up2 G r w.toNatClampNeg 0 r k = 0 := fun k hk => by
  have h8 := tcl w
  by_cases e : k = w.toNatClampNeg
  · subst e; rw [up2_s]
  · rw [up2_f _ _ _ e]; exact h k (by omega)
/-- what a text is worth by letters -/
def TVL (sz x : Nat → Int32) (k : Nat) (L : Int → Int32) (r : Int32) : Prop := (∃ q c, PT (NX (fun i => x (60 * k + i)) (sz k)) 0 5 0 q c ∧ VAL L c r) ∨ ∃ q, PF (NX (fun i => x (60 * k + i)) (sz k)) 0 5 0 q
abbrev MJ (x : Nat → Int32) : Nat → Int := fun j => (x j).toInt
def IFI (r : Int) (pu fr : Nat → Int) (i p m : Int) : Prop := (r = -1 ∧ INN pu fr i p m) ∨ ∃ k : Nat, r = k ∧ INF pu fr i p m k
def WVM (sz pu fr x : Nat → Int32) (L : Int → Int32) (n p m : Int) (d r : Int32) : Prop := (INN (MJ pu) (MJ fr) n p m ∧ r = d) ∨ ∃ k : Nat, INF (MJ pu) (MJ fr) n p m k ∧ TVL sz x k L r
section WORTH
variable {sz pu fr x t : Nat → Int32} {L L' : Int → Int32} {n p m w : Int} {d r r4 a b : Int32} {q : Nat}
theorem wv_n (h : (r4.toInt = -1 ∧ INN (MJ pu) (MJ fr) n p m) ∨ ∃ k : Nat, r4.toInt = k ∧ INF (MJ pu) (MJ fr) n p m k) (h0 : r4.toInt < 0) : WVM sz pu fr x L n p m d d := by
  rcases h with ⟨-, h⟩ | ⟨k, h1, -⟩
  · exact Or.inl ⟨h, rfl⟩
  · omega
theorem wv_k (h : (r4.toInt = -1 ∧ INN (MJ pu) (MJ fr) n p m) ∨ ∃ k : Nat, r4.toInt = k ∧ INF (MJ pu) (MJ fr) n p m k) (h0 : 0 ≤ r4.toInt) (ea : a.toInt = 60 * r4.toInt) (es : b = sz r4.toNatClampNeg) (hg : (¬ w = 0 ∧ ∃ c, PT (NX (RBY a t x) b) 0 5 0 q c ∧ VAL L c r) ∨ (w = 0 ∧ PF (NX (RBY a t x) b) 0 5 0 q)) : WVM sz pu fr x L n p m d r := by
  rcases h with ⟨h, -⟩ | ⟨k, h1, h2⟩
  · omega
  · have h8 := tcl r4
    have e1 : r4.toNatClampNeg = k := by omega
    have e2 : RBY a t x = fun i => x (60 * k + i) := funext fun i => rby_p (by omega) (by omega)
    rw [e2, es, e1] at hg
    exact Or.inr ⟨k, h2, hg.imp (fun y => ⟨q, y.2⟩) (fun y => ⟨q, y.2⟩)⟩
theorem wvm_L (hL : ∀ c, isl c → L' c = L c) (h : WVM sz pu fr x L n p m d r) : WVM sz pu fr x L' n p m d r := by
  rcases h with h | ⟨k, h1, h2⟩
  · exact Or.inl h
  · refine Or.inr ⟨k, h1, h2.imp (fun ⟨q, c, y1, y2⟩ => ⟨q, c, y1, fun st => ?_⟩) id⟩
    rw [ws_congr hL]; exact y2 st
theorem let_row {U : Nat → Nat → Int32} {h v w n : Int32} (hU : ∀ k : Nat, k < 128 → U 154 k = 0) : ∀ c, isl c → SCL 2 h v 0 0 w 0 n c = LTR ((up2 (up2 (up2 (up2 (up2 U 154 107 2) 154 104 h) 154 118 v) 154 119 w) 154 110 n) 154) c := by
  intro c hc
  rcases hc with e | e | e | e | e | e | e | e <;> subst e
  · rfl
  · rfl
  · rfl
  · exact (hU 115 (by decide)).symm
  · exact (hU 109 (by decide)).symm
  · rfl
  · exact (hU 97 (by decide)).symm
  · rfl
theorem wvm_row {U : Nat → Nat → Int32} {h v w n9 h' v' : Int32} (hw : WVM sz pu fr x (LTR ((up2 (up2 (up2 (up2 (up2 U 154 107 2) 154 104 h) 154 118 v) 154 119 w) 154 110 n9) 154)) n p m d r) (hU : ∀ k : Nat, k < 128 → U 154 k = 0) (eh : h = h') (ev : v = v') : WVM sz pu fr x (SCL 2 h' v' 0 0 w 0 n9) n p m d r := by
  subst eh ev
  exact wvm_L (let_row hU) hw
theorem mf_end {i : Int} (h : (r4.toInt = -1 ∧ INN (MJ pu) (MJ fr) i p m) ∨ ∃ k : Nat, r4.toInt = k ∧ INF (MJ pu) (MJ fr) i p m k) (e : i = n) : (r4.toInt = -1 ∧ INN (MJ pu) (MJ fr) n p m) ∨ ∃ k : Nat, r4.toInt = k ∧ INF (MJ pu) (MJ fr) n p m k := by
  subst e; exact h
end WORTH
set_option maxHeartbeats 4000000 in
set_option maxRecDepth 100000 in
theorem c_X12_goesBy_e (l : Launch) (g : gG) (J : Nat → Nat → Int32) (L : Nat → Nat → Int64) (I : Nat → Nat → Nat → Int32) (P : Nat → Nat → Nat → Option Nat) (E : Nat → Option Nat) (N : Nat → Nat) (sz : Nat) (a0 : Int32) (a1 : Int32) (a2 : Int32) (a3 : Int32) (hwm : WM J) (hn : (J 13 31).toInt ≤ 9998) (ho : a0.toInt = 0 → a3.toInt < 40) : Met l yX12_goesBy (WS yX12_goesBy cX12_goesBy 5 (some .int)) (RM (1) 0 0) (PC g [.ref (g.2.2.1 13), .int a0, .int a1, .int a2, .int a3] ((J, L, I, P, E, N), sgM g) sz) (va_Qi (fun (r : Int32) (u : (Nat → Nat → Int32)) => WM (hv J [116, 117, 118, 119, 120] [(13, 31)] u) ∧ ((r.toInt = (J 13 31).toInt)) ∧ ((u 13 31).toInt = (J 13 31).toInt + 1) ∧ (u 116 = up2 J 116 (J 13 31).toNatClampNeg a0 116) ∧ (u 117 = up2 J 117 (J 13 31).toNatClampNeg a1 117) ∧ (u 118 = up2 J 118 (J 13 31).toNatClampNeg a2 118) ∧ (u 119 = up2 J 119 (J 13 31).toNatClampNeg a3 119) ∧ (u 120 = up2 J 120 (J 13 31).toNatClampNeg (J 13 33) 120)) (fun u t => at_ g (FR g ((J, L, I, P, E, N), sgM g) sz) ((hv J [116, 117, 118, 119, 120] [(13, 31)] u, L, I, P, E, N), sgM g) t) (FR g ((J, L, I, P, E, N), sgM g) sz)) 0 0 (FR g ((J, L, I, P, E, N), sgM g) sz) := by
  refine ent (by decide +kernel) (Nat.le_of_ble_eq_true rfl) ?_
  intro p e s m below meth c ls hsz C hW hr hlocks hname hl
  generalize FR g ((J, L, I, P, E, N), sgM g) sz = A at C hW ⊢
  generalize hQ9 : (va_Qi (fun (r : Int32) (u : (Nat → Nat → Int32)) => WM (hv J [116, 117, 118, 119, 120] [(13, 31)] u) ∧ ((r.toInt = (J 13 31).toInt)) ∧ ((u 13 31).toInt = (J 13 31).toInt + 1) ∧ (u 116 = up2 J 116 (J 13 31).toNatClampNeg a0 116) ∧ (u 117 = up2 J 117 (J 13 31).toNatClampNeg a1 117) ∧ (u 118 = up2 J 118 (J 13 31).toNatClampNeg a2 118) ∧ (u 119 = up2 J 119 (J 13 31).toNatClampNeg a3 119) ∧ (u 120 = up2 J 120 (J 13 31).toNatClampNeg (J 13 33) 120)) (fun u t => at_ g A ((hv J [116, 117, 118, 119, 120] [(13, 31)] u, L, I, P, E, N), sgM g) t) A) = Q9
  have hx := C.1.1
  have hb := C.1.2.1
  have hts := C.1.2.2.2.2
  have hW : WB g A s.heap s.heap [] (J, L, I, P, E, N) (sgM g) := hW
  have hl : lv_has ls 5 [(0, .ref (g.2.2.1 13)), (1, .int a0), (2, .int a1), (3, .int a2), (4, .int a3)] := hl
  obtain ⟨H, hH⟩ : ∃ H : Heap, H = s.heap := ⟨_, rfl⟩
  obtain ⟨locs, hlocs⟩ : ∃ q : List Loc, q = [] := ⟨_, rfl⟩
  have hW : WB g A s.heap H locs (J, L, I, P, E, N) (sgM g) := by rw [hH, hlocs]; exact hW
  obtain ⟨⟨hnd1, hnd2, hon, hhm1, hhm2, hhN, hcu1, hcu2, hco1, hco2, hcN⟩, ⟨hrd1, hrd2⟩, ⟨hnw1, hnw2, hns1, hns2, hof⟩, ⟨htm1, htm2, hts_⟩, ⟨had1, had2, hrw1, hrw2, htp1, htp2⟩⟩ := id hwm
  refine start_ hH hlocs ?_
  refine lv_aload_n hx hb dX12_goesBy_0 rfl (lv_at hl 0 rfl) ?_
  refine rg_13_16 C hW (mm_ rfl) tw_1039 dX12_goesBy_1 ?_
  refine lv_aload_n hx hb dX12_goesBy_4 rfl (lv_at hl 0 rfl) ?_
  refine rg_13_31 C hW (mm_ rfl) tw_1054 dX12_goesBy_5 ?_
  refine lv_iload_n hx hb dX12_goesBy_8 rfl (lv_at hl 1 rfl) ?_
  have hin : vp_in (J 13 31) 10000 := tin rfl (by omega)
  refine rs_116 C hW (mm_ rfl) hin dX12_goesBy_9 (fun H locs hW => ?_)
  refine lv_aload_n hx hb dX12_goesBy_10 rfl (lv_at hl 0 rfl) ?_
  refine rg_13_17 C hW (mm_ rfl) tw_1040 dX12_goesBy_11 ?_
  refine lv_aload_n hx hb dX12_goesBy_14 rfl (lv_at hl 0 rfl) ?_
  refine rg_13_31 C hW (mm_ rfl) tw_1054 dX12_goesBy_15 ?_
  refine lv_as (J 13 31) rfl ?_
  refine lv_iload_n hx hb dX12_goesBy_18 rfl (lv_at hl 2 rfl) ?_
  have hin : vp_in (J 13 31) 10000 := tin rfl (by omega)
  refine rs_117 C hW (mm_ rfl) hin dX12_goesBy_19 (fun H locs hW => ?_)
  refine lv_aload_n hx hb dX12_goesBy_20 rfl (lv_at hl 0 rfl) ?_
  refine rg_13_18 C hW (mm_ rfl) tw_1041 dX12_goesBy_21 ?_
  refine lv_aload_n hx hb dX12_goesBy_24 rfl (lv_at hl 0 rfl) ?_
  refine rg_13_31 C hW (mm_ rfl) tw_1054 dX12_goesBy_25 ?_
  refine lv_as (J 13 31) rfl ?_
  refine lv_iload_n hx hb dX12_goesBy_28 rfl (lv_at hl 3 rfl) ?_
  have hin : vp_in (J 13 31) 10000 := tin rfl (by omega)
  refine rs_118 C hW (mm_ rfl) hin dX12_goesBy_29 (fun H locs hW => ?_)
  refine lv_aload_n hx hb dX12_goesBy_30 rfl (lv_at hl 0 rfl) ?_
  refine rg_13_19 C hW (mm_ rfl) tw_1042 dX12_goesBy_31 ?_
  refine lv_aload_n hx hb dX12_goesBy_34 rfl (lv_at hl 0 rfl) ?_
  refine rg_13_31 C hW (mm_ rfl) tw_1054 dX12_goesBy_35 ?_
  refine lv_as (J 13 31) rfl ?_
  refine lv_iload hx hb dX12_goesBy_38 (lv_at hl 4 rfl) ?_
  have hin : vp_in (J 13 31) 10000 := tin rfl (by omega)
  refine rs_119 C hW (mm_ rfl) hin dX12_goesBy_40 (fun H locs hW => ?_)
  refine lv_aload_n hx hb dX12_goesBy_41 rfl (lv_at hl 0 rfl) ?_
  refine rg_13_20 C hW (mm_ rfl) tw_1043 dX12_goesBy_42 ?_
  refine lv_aload_n hx hb dX12_goesBy_45 rfl (lv_at hl 0 rfl) ?_
  refine rg_13_31 C hW (mm_ rfl) tw_1054 dX12_goesBy_46 ?_
  refine lv_as (J 13 31) rfl ?_
  refine lv_aload_n hx hb dX12_goesBy_49 rfl (lv_at hl 0 rfl) ?_
  refine rg_13_33 C hW (mm_ rfl) tw_1056 dX12_goesBy_50 ?_
  refine lv_as (J 13 33) rfl ?_
  have hin : vp_in (J 13 31) 10000 := tin rfl (by omega)
  refine rs_120 C hW (mm_ rfl) hin dX12_goesBy_53 (fun H locs hW => ?_)
  refine lv_aload_n hx hb dX12_goesBy_54 rfl (lv_at hl 0 rfl) ?_
  refine lv_dup hx hb dX12_goesBy_55 rfl ?_
  refine rg_13_31 C hW (mm_ rfl) tw_1054 dX12_goesBy_56 ?_
  refine lv_as (J 13 31) rfl ?_
  refine lv_iconst (v := 1) hx hb dX12_goesBy_59 (by decide) ?_
  refine lv_iadd hx hb dX12_goesBy_60 ?_
  refine lv_topi (fun x1 (e1 : x1 = (J 13 31) + 1) => ?_)
  try have t1 : x1.toInt = (J 13 31).toInt + 1 := tadd e1 rfl kp1 (by omega)
  refine rp_13_31 C hW (mm_ rfl) tw_1054 dX12_goesBy_61 (fun H locs hW => ?_)
  refine lv_aload_n hx hb dX12_goesBy_64 rfl (lv_at hl 0 rfl) ?_
  refine rg_13_31 C hW (mm_ rfl) tw_1054 dX12_goesBy_65 ?_
  refine lv_as x1 rfl ?_
  refine lv_iconst (v := 1) hx hb dX12_goesBy_68 (by decide) ?_
  refine lv_isub hx hb dX12_goesBy_69 ?_
  refine lv_topi (fun x2 (e2 : x2 = x1 - 1) => ?_)
  try have t2 : x2.toInt = x1.toInt - 1 := tsub e2 rfl kp1 (by omega)
  have hWr : WB g A s.heap H locs (hv J [116, 117, 118, 119, 120] [(13, 31)] (up2 (up2 (up2 (up2 (up2 (up2 J 116 ((J 13 31).toNatClampNeg) a0) 117 ((J 13 31).toNatClampNeg) a1) 118 ((J 13 31).toNatClampNeg) a2) 119 ((J 13 31).toNatClampNeg) a3) 120 ((J 13 31).toNatClampNeg) (J 13 33)) 13 31 x1), L, I, P, E, N) (sgM g) := by
    rw [← ag_hvE (J := J) (R := [116, 117, 118, 119, 120]) (F := [(13, 31)]) (ag_up (Or.inr rfl) (ag_up (Or.inl rfl) (ag_up (Or.inl rfl) (ag_up (Or.inl rfl) (ag_up (Or.inl rfl) (ag_up (Or.inl rfl) ag_rf))))))]
    exact hW
  have hwmr : WM (up2 (up2 (up2 (up2 (up2 (up2 J 116 ((J 13 31).toNatClampNeg) a0) 117 ((J 13 31).toNatClampNeg) a1) 118 ((J 13 31).toNatClampNeg) a2) 119 ((J 13 31).toNatClampNeg) a3) 120 ((J 13 31).toNatClampNeg) (J 13 33)) 13 31 x1) := by exact wm_goes hwm (tcl _) hn ho t1
  have hwmr : WM (hv J [116, 117, 118, 119, 120] [(13, 31)] (up2 (up2 (up2 (up2 (up2 (up2 J 116 ((J 13 31).toNatClampNeg) a0) 117 ((J 13 31).toNatClampNeg) a1) 118 ((J 13 31).toNatClampNeg) a2) 119 ((J 13 31).toNatClampNeg) a3) 120 ((J 13 31).toNatClampNeg) (J 13 33)) 13 31 x1)) := by
    rw [← ag_hvE (J := J) (R := [116, 117, 118, 119, 120]) (F := [(13, 31)]) (ag_up (Or.inr rfl) (ag_up (Or.inl rfl) (ag_up (Or.inl rfl) (ag_up (Or.inl rfl) (ag_up (Or.inl rfl) (ag_up (Or.inl rfl) ag_rf))))))]; exact hwmr
  subst hQ9
  exact end_i C hr hlocks (up2 (up2 (up2 (up2 (up2 (up2 J 116 ((J 13 31).toNatClampNeg) a0) 117 ((J 13 31).toNatClampNeg) a1) 118 ((J 13 31).toNatClampNeg) a2) 119 ((J 13 31).toNatClampNeg) a3) 120 ((J 13 31).toNatClampNeg) (J 13 33)) 13 31 x1) hWr ⟨hwmr, by first | omega | exact (by omega), show (x1).toInt = (J 13 31).toInt + 1 from by show Int32.toInt x1 = _; exact t1, show (up2 J 116 ((J 13 31).toNatClampNeg) a0) 116 = up2 J 116 (J 13 31).toNatClampNeg a0 116 from by rfl, show (up2 J 117 ((J 13 31).toNatClampNeg) a1) 117 = up2 J 117 (J 13 31).toNatClampNeg a1 117 from by rfl, show (up2 J 118 ((J 13 31).toNatClampNeg) a2) 118 = up2 J 118 (J 13 31).toNatClampNeg a2 118 from by rfl, show (up2 J 119 ((J 13 31).toNatClampNeg) a3) 119 = up2 J 119 (J 13 31).toNatClampNeg a3 119 from by rfl, show (up2 J 120 ((J 13 31).toNatClampNeg) (J 13 33)) 120 = up2 J 120 (J 13 31).toNatClampNeg (J 13 33) 120 from by rfl⟩ dX12_goesBy_70

set_option maxHeartbeats 4000000 in
set_option maxRecDepth 100000 in
theorem c_X12_pass_e (l : Launch) (g : gG) (J : Nat → Nat → Int32) (L : Nat → Nat → Int64) (I : Nat → Nat → Nat → Int32) (P : Nat → Nat → Nat → Option Nat) (E : Nat → Option Nat) (N : Nat → Nat) (sz : Nat) (a0 : Int32) (hwm : WM J) : Met l yX12_pass (WS yX12_pass cX12_pass 3 (some .int)) (RM (3) 0 0) (PC g [.ref (g.2.2.1 13), .int a0] ((J, L, I, P, E, N), sgM g) sz) (va_Qi (fun (r : Int32) (u : (Nat → Nat → Int32)) => WM (hv J [100, 116, 117, 118, 119, 120] [(13, 31)] u) ∧ ((r.toInt = (-4) ∧ (a0.toInt < 1) ∧ u 13 31 = J 13 31 ∧ u 116 = J 116 ∧ u 117 = J 117 ∧ u 118 = J 118 ∧ u 119 = J 119 ∧ u 120 = J 120) ∨ (r.toInt = (-6) ∧ (1 ≤ a0.toInt ∧ 9999 - (J 13 31).toInt < a0.toInt) ∧ u 13 31 = J 13 31 ∧ u 116 = J 116 ∧ u 117 = J 117 ∧ u 118 = J 118 ∧ u 119 = J 119 ∧ u 120 = J 120) ∨ (r.toInt = (J 13 31).toInt + a0.toInt ∧ (1 ≤ a0.toInt ∧ a0.toInt ≤ 9999 - (J 13 31).toInt) ∧ (u 13 31).toInt = (J 13 31).toInt + a0.toInt ∧ FILL (J 116) (u 116) (J 13 31).toInt ((J 13 31).toInt + a0.toInt) 6 ∧ FILL (J 117) (u 117) (J 13 31).toInt ((J 13 31).toInt + a0.toInt) (-9) ∧ FILL (J 118) (u 118) (J 13 31).toInt ((J 13 31).toInt + a0.toInt) 0 ∧ FILL (J 119) (u 119) (J 13 31).toInt ((J 13 31).toInt + a0.toInt) (-9) ∧ FILL (J 120) (u 120) (J 13 31).toInt ((J 13 31).toInt + a0.toInt) (J 13 33)))) (fun u t => at_ g (FR g ((J, L, I, P, E, N), sgM g) sz) ((hv J [100, 116, 117, 118, 119, 120] [(13, 31)] u, L, I, P, E, N), sgM g) t) (FR g ((J, L, I, P, E, N), sgM g) sz)) 0 0 (FR g ((J, L, I, P, E, N), sgM g) sz) := by
  refine ent (by decide +kernel) (Nat.le_of_ble_eq_true rfl) ?_
  intro p e s m below meth c ls hsz C hW hr hlocks hname hl
  generalize FR g ((J, L, I, P, E, N), sgM g) sz = A at C hW ⊢
  generalize hQ9 : (va_Qi (fun (r : Int32) (u : (Nat → Nat → Int32)) => WM (hv J [100, 116, 117, 118, 119, 120] [(13, 31)] u) ∧ ((r.toInt = (-4) ∧ (a0.toInt < 1) ∧ u 13 31 = J 13 31 ∧ u 116 = J 116 ∧ u 117 = J 117 ∧ u 118 = J 118 ∧ u 119 = J 119 ∧ u 120 = J 120) ∨ (r.toInt = (-6) ∧ (1 ≤ a0.toInt ∧ 9999 - (J 13 31).toInt < a0.toInt) ∧ u 13 31 = J 13 31 ∧ u 116 = J 116 ∧ u 117 = J 117 ∧ u 118 = J 118 ∧ u 119 = J 119 ∧ u 120 = J 120) ∨ (r.toInt = (J 13 31).toInt + a0.toInt ∧ (1 ≤ a0.toInt ∧ a0.toInt ≤ 9999 - (J 13 31).toInt) ∧ (u 13 31).toInt = (J 13 31).toInt + a0.toInt ∧ FILL (J 116) (u 116) (J 13 31).toInt ((J 13 31).toInt + a0.toInt) 6 ∧ FILL (J 117) (u 117) (J 13 31).toInt ((J 13 31).toInt + a0.toInt) (-9) ∧ FILL (J 118) (u 118) (J 13 31).toInt ((J 13 31).toInt + a0.toInt) 0 ∧ FILL (J 119) (u 119) (J 13 31).toInt ((J 13 31).toInt + a0.toInt) (-9) ∧ FILL (J 120) (u 120) (J 13 31).toInt ((J 13 31).toInt + a0.toInt) (J 13 33)))) (fun u t => at_ g A ((hv J [100, 116, 117, 118, 119, 120] [(13, 31)] u, L, I, P, E, N), sgM g) t) A) = Q9
  have hx := C.1.1
  have hb := C.1.2.1
  have hts := C.1.2.2.2.2
  have hW : WB g A s.heap s.heap [] (J, L, I, P, E, N) (sgM g) := hW
  have hl : lv_has ls 3 [(0, .ref (g.2.2.1 13)), (1, .int a0)] := hl
  obtain ⟨H, hH⟩ : ∃ H : Heap, H = s.heap := ⟨_, rfl⟩
  obtain ⟨locs, hlocs⟩ : ∃ q : List Loc, q = [] := ⟨_, rfl⟩
  have hW : WB g A s.heap H locs (J, L, I, P, E, N) (sgM g) := by rw [hH, hlocs]; exact hW
  obtain ⟨⟨hnd1, hnd2, hon, hhm1, hhm2, hhN, hcu1, hcu2, hco1, hco2, hcN⟩, ⟨hrd1, hrd2⟩, ⟨hnw1, hnw2, hns1, hns2, hof⟩, ⟨htm1, htm2, hts_⟩, ⟨had1, had2, hrw1, hrw2, htp1, htp2⟩⟩ := id hwm
  refine start_ hH hlocs ?_
  refine lv_iload_n hx hb dX12_pass_0 rfl (lv_at hl 1 rfl) ?_
  refine lv_iconst (v := 1) hx hb dX12_pass_1 (by decide) ?_
  refine lv_icmp_ge (tgt := 12) hx hb dX12_pass_2 (by decide) (fun c1 => ?_) (fun c1 => ?_)
  · have c1 : 1 ≤ a0.toInt := tle kp1 rfl c1
    refine lv_iload_n hx hb dX12_pass_12 rfl (lv_at hl 1 rfl) ?_
    refine lv_sipush (v := 9999) hx hb dX12_pass_13 (by decide) ?_
    refine lv_aload_n hx hb dX12_pass_16 rfl (lv_at hl 0 rfl) ?_
    refine rg_13_31 C hW (mm_ rfl) tw_1054 dX12_pass_17 ?_
    refine lv_isub hx hb dX12_pass_20 ?_
    refine lv_topi (fun x2 (e2 : x2 = 9999 - (J 13 31)) => ?_)
    try have t2 : x2.toInt = 9999 - (J 13 31).toInt := tsub e2 kp9999 rfl (by omega)
    refine lv_icmp_le (tgt := 31) hx hb dX12_pass_21 (by decide) (fun c3 => ?_) (fun c3 => ?_)
    · have c3 : a0.toInt ≤ x2.toInt := tle rfl rfl c3
      refine lv_iconst (v := 0) hx hb dX12_pass_31 (by decide) ?_
      refine lv_istore_n (lv' := [(2, .int 0), (0, .ref (g.2.2.1 13)), (1, .int a0)]) hx hb dX12_pass_32 rfl hl (by decide) rfl (fun ls hl => ?_)
      have loop33 : ∀ (n : Nat) (m2 : Int32) (Gl4 : Nat → Nat → Int32) (H : Heap) (locs : List Loc) (ls : Array Slot), (a0.toInt - m2.toInt).toNat < n → WM (hv J [100, 116, 117, 118, 119, 120] [(13, 31)] Gl4) → 0 ≤ m2.toInt ∧ m2.toInt ≤ a0.toInt → (Gl4 13 31).toInt = (J 13 31).toInt + m2.toInt → FILL (J 116) (Gl4 116) (J 13 31).toInt ((J 13 31).toInt + m2.toInt) 6 → FILL (J 117) (Gl4 117) (J 13 31).toInt ((J 13 31).toInt + m2.toInt) (-9) → FILL (J 118) (Gl4 118) (J 13 31).toInt ((J 13 31).toInt + m2.toInt) 0 → FILL (J 119) (Gl4 119) (J 13 31).toInt ((J 13 31).toInt + m2.toInt) (-9) → FILL (J 120) (Gl4 120) (J 13 31).toInt ((J 13 31).toInt + m2.toInt) (J 13 33) → WB g A s.heap H locs ((hv J [100, 116, 117, 118, 119, 120] [(13, 31)] Gl4), L, I, P, E, N) (sgM g) → lv_has ls 3 [(2, .int m2), (0, .ref (g.2.2.1 13)), (1, .int a0)] → W p l e (RM (3) 0 0) s m ([.ref (g.2.2.1 13), .int a0] : List Value).toArray below meth c H locs 0 0 (MQ below Q9 ([.ref (g.2.2.1 13), .int a0] : List Value).toArray s 0 0 A) (F0 m 33 ls []) := by
        intro n
        induction n with
        | zero => intro m2 Gl4 H locs ls hmeas; exact absurd hmeas (Nat.not_lt_zero _)
        | succ n ih =>
          intro m2 Gl4 H locs ls hmeas hwm hi hw hL0 hL1 hL2 hL3 hL4 hW hl
          refine lv_iload_n hx hb dX12_pass_33 rfl (lv_at hl 0 rfl) ?_
          refine lv_iload_n hx hb dX12_pass_34 rfl (lv_at hl 2 rfl) ?_
          refine lv_icmp_ge (tgt := 56) hx hb dX12_pass_35 (by decide) (fun c5 => ?_) (fun c5 => ?_)
          · have c5 : a0.toInt ≤ m2.toInt := tle rfl rfl c5
            refine lv_aload_n hx hb dX12_pass_56 rfl (lv_at hl 1 rfl) ?_
            refine rg_13_31 C hW (mm_ rfl) tw_1054 dX12_pass_57 ?_
            refine lv_as (Gl4 13 31) rfl ?_
            have hWr : WB g A s.heap H locs (hv J [100, 116, 117, 118, 119, 120] [(13, 31)] (hv J [100, 116, 117, 118, 119, 120] [(13, 31)] Gl4), L, I, P, E, N) (sgM g) := by
              rw [← ag_hvE (J := J) (R := [100, 116, 117, 118, 119, 120]) (F := [(13, 31)]) (ag_hv rfl rfl ag_rf)]
              exact hW
            have hwmr : WM (hv J [100, 116, 117, 118, 119, 120] [(13, 31)] Gl4) := by exact hwm
            have hwmr : WM (hv J [100, 116, 117, 118, 119, 120] [(13, 31)] (hv J [100, 116, 117, 118, 119, 120] [(13, 31)] Gl4)) := by
              rw [← ag_hvE (J := J) (R := [100, 116, 117, 118, 119, 120]) (F := [(13, 31)]) (ag_hv rfl rfl ag_rf)]; exact hwmr
            subst hQ9
            exact end_i C hr hlocks (hv J [100, 116, 117, 118, 119, 120] [(13, 31)] Gl4) hWr ⟨hwmr, by first | exact Or.inl ⟨by omega, by omega, show Gl4 13 31 = J 13 31 from by first | rfl | assumption, show Gl4 116 = J 116 from by first | rfl | assumption, show Gl4 117 = J 117 from by first | rfl | assumption, show Gl4 118 = J 118 from by first | rfl | assumption, show Gl4 119 = J 119 from by first | rfl | assumption, show Gl4 120 = J 120 from by first | rfl | assumption⟩ | exact Or.inr (Or.inl ⟨by omega, by omega, show Gl4 13 31 = J 13 31 from by first | rfl | assumption, show Gl4 116 = J 116 from by first | rfl | assumption, show Gl4 117 = J 117 from by first | rfl | assumption, show Gl4 118 = J 118 from by first | rfl | assumption, show Gl4 119 = J 119 from by first | rfl | assumption, show Gl4 120 = J 120 from by first | rfl | assumption⟩) | exact Or.inr (Or.inr (⟨by omega, by omega, show (Gl4 13 31).toInt = (J 13 31).toInt + a0.toInt from (by first | omega | (have e9 : m2.toInt = a0.toInt := (by omega); rw [← e9]; assumption)), show FILL (J 116) (Gl4 116) (J 13 31).toInt ((J 13 31).toInt + a0.toInt) 6 from (by first | omega | (have e9 : m2.toInt = a0.toInt := (by omega); rw [← e9]; assumption)), show FILL (J 117) (Gl4 117) (J 13 31).toInt ((J 13 31).toInt + a0.toInt) (-9) from (by first | omega | (have e9 : m2.toInt = a0.toInt := (by omega); rw [← e9]; assumption)), show FILL (J 118) (Gl4 118) (J 13 31).toInt ((J 13 31).toInt + a0.toInt) 0 from (by first | omega | (have e9 : m2.toInt = a0.toInt := (by omega); rw [← e9]; assumption)), show FILL (J 119) (Gl4 119) (J 13 31).toInt ((J 13 31).toInt + a0.toInt) (-9) from (by first | omega | (have e9 : m2.toInt = a0.toInt := (by omega); rw [← e9]; assumption)), show FILL (J 120) (Gl4 120) (J 13 31).toInt ((J 13 31).toInt + a0.toInt) (J 13 33) from (by first | omega | (have e9 : m2.toInt = a0.toInt := (by omega); rw [← e9]; assumption))⟩))⟩ dX12_pass_60
          · have c5 : m2.toInt < a0.toInt := tnle rfl rfl c5
            refine lv_aload_n hx hb dX12_pass_38 rfl (lv_at hl 1 rfl) ?_
            refine lv_bipush (v := 6) hx hb dX12_pass_39 (by decide) ?_
            refine lv_bipush (v := (-9)) hx hb dX12_pass_41 (by decide) ?_
            refine lv_iconst (v := 0) hx hb dX12_pass_43 (by decide) ?_
            refine lv_bipush (v := (-9)) hx hb dX12_pass_44 (by decide) ?_
            refine ci_ C hW (runV (x := (g.2.2.1 13)) (As := [.int 6, .int (-9), .int 0, .int (-9)]) (rest := []) (T := (((hv J [100, 116, 117, 118, 119, 120] [(13, 31)] Gl4), L, I, P, E, N), sgM g)) C hW (c_X12_goesBy_e l g (hv J [100, 116, 117, 118, 119, 120] [(13, 31)] Gl4) L I P E N H.size 6 (-9) 0 (-9) hwm (show (Gl4 13 31).toInt ≤ 9998 from by (try simp only [kn9]); (try simp only [kp0]); (try simp only [kn9]); (try simp only [kp6]); omega) (show (6 : Int32).toInt = 0 → (-9 : Int32).toInt < 40 from by (try simp only [kn9]); (try simp only [kp0]); (try simp only [kn9]); (try simp only [kp6]); decide)) mi_X12_goesBy tw_1243 (recv_ (T := (((hv J [100, 116, 117, 118, 119, 120] [(13, 31)] Gl4), L, I, P, E, N), sgM g)) C hW (mm_ rfl) rfl rfl) ⟨rfl, rfl, Nat.le_of_ble_eq_true rfl, Nat.le_of_ble_eq_true rfl⟩ rfl hl.1 rfl (Nat.le_of_ble_eq_true rfl) dX12_pass_46 ⟨Nat.le_of_ble_eq_true rfl, Nat.le_of_ble_eq_true rfl⟩) (fun r6 u6 H locs hp6 hW => ?_)
            obtain ⟨hwm, hc6, hf6_0, hf6_1, hf6_2, hf6_3, hf6_4, hf6_5⟩ : WM (hv (hv J [100, 116, 117, 118, 119, 120] [(13, 31)] Gl4) [116, 117, 118, 119, 120] [(13, 31)] u6) ∧ ((r6.toInt = (Gl4 13 31).toInt)) ∧ ((u6 13 31).toInt = (Gl4 13 31).toInt + 1) ∧ (u6 116 = up2 Gl4 116 (Gl4 13 31).toNatClampNeg 6 116) ∧ (u6 117 = up2 Gl4 117 (Gl4 13 31).toNatClampNeg (-9) 117) ∧ (u6 118 = up2 Gl4 118 (Gl4 13 31).toNatClampNeg 0 118) ∧ (u6 119 = up2 Gl4 119 (Gl4 13 31).toNatClampNeg (-9) 119) ∧ (u6 120 = up2 Gl4 120 (Gl4 13 31).toNatClampNeg (J 13 33) 120) := hp6
            have hwm : WM (hv (hv J [100, 116, 117, 118, 119, 120] [(13, 31)] Gl4) [116, 117, 118, 119, 120] [(13, 31)] u6) := hwm
            have hW : WB g A s.heap H locs ((hv (hv J [100, 116, 117, 118, 119, 120] [(13, 31)] Gl4) [116, 117, 118, 119, 120] [(13, 31)] u6), L, I, P, E, N) (sgM g) := hW
            have hG1 := hf6_1
            have hG2 := hf6_2
            have hG3 := hf6_3
            have hG4 := hf6_4
            have hG5 := hf6_5
            refine lv_pop hx hb dX12_pass_49 rfl ?_
            obtain ⟨x7, e7⟩ : ∃ y : Int32, y = m2 + 1 := ⟨_, rfl⟩
            refine lv_iinc (v := x7) (lv' := [(2, .int x7), (0, .ref (g.2.2.1 13)), (1, .int a0)]) hx hb dX12_pass_50 hl (k := 0) rfl (by rw [e7]; rfl) (by decide) rfl (fun ls hl => ?_)
            try have t7 : x7.toInt = m2.toInt + 1 := tadd e7 rfl kp1 (by omega)
            refine lv_goto (tgt := 33) hx hb dX12_pass_53 (by decide) ?_
            have hWl : WB g A s.heap H locs ((hv J [100, 116, 117, 118, 119, 120] [(13, 31)] (hv (hv J [100, 116, 117, 118, 119, 120] [(13, 31)] Gl4) [116, 117, 118, 119, 120] [(13, 31)] u6)), L, I, P, E, N) (sgM g) := by
              rw [← ag_hvE (J := J) (R := [100, 116, 117, 118, 119, 120]) (F := [(13, 31)]) (ag_hv rfl rfl (ag_hv rfl rfl ag_rf))]
              exact hW
            refine ih x7 (hv (hv J [100, 116, 117, 118, 119, 120] [(13, 31)] Gl4) [116, 117, 118, 119, 120] [(13, 31)] u6) H locs ls ?_ ?_ ?_ ?_ ?_ ?_ ?_ ?_ ?_ hWl (lv_sub hl [0, 1, 2] rfl)
            · show (a0.toInt - x7.toInt).toNat < n
              omega
            · rw [← ag_hvE (J := J) (R := [100, 116, 117, 118, 119, 120]) (F := [(13, 31)]) (ag_hv rfl rfl (ag_hv rfl rfl ag_rf))]; exact hwm
            · show 0 ≤ x7.toInt ∧ x7.toInt ≤ a0.toInt
              first | omega | exact hi | assumption
            · show (u6 13 31).toInt = (J 13 31).toInt + x7.toInt
              first | omega | exact hw | assumption
            · show FILL (J 116) (u6 116) (J 13 31).toInt ((J 13 31).toInt + x7.toInt) 6
              exact fill_s hL0 hG1 hw (by omega) (by omega) (by omega)
            · show FILL (J 117) (u6 117) (J 13 31).toInt ((J 13 31).toInt + x7.toInt) (-9)
              exact fill_s hL1 hG2 hw (by omega) (by omega) (by omega)
            · show FILL (J 118) (u6 118) (J 13 31).toInt ((J 13 31).toInt + x7.toInt) 0
              exact fill_s hL2 hG3 hw (by omega) (by omega) (by omega)
            · show FILL (J 119) (u6 119) (J 13 31).toInt ((J 13 31).toInt + x7.toInt) (-9)
              exact fill_s hL3 hG4 hw (by omega) (by omega) (by omega)
            · show FILL (J 120) (u6 120) (J 13 31).toInt ((J 13 31).toInt + x7.toInt) (J 13 33)
              exact fill_s hL4 hG5 hw (by omega) (by omega) (by omega)
      -- into the loop
      have hWl : WB g A s.heap H locs ((hv J [100, 116, 117, 118, 119, 120] [(13, 31)] J), L, I, P, E, N) (sgM g) := by
        rw [← ag_hvE (J := J) (R := [100, 116, 117, 118, 119, 120]) (F := [(13, 31)]) ag_rf]
        exact hW
      refine loop33 ((a0.toInt - (0 : Int32).toInt).toNat + 1) 0 J H locs ls ?_ ?_ ?_ ?_ ?_ ?_ ?_ ?_ ?_ hWl (lv_sub hl [0, 1, 2] rfl)
      · exact Nat.lt_succ_self _
      · rw [← ag_hvE (J := J) (R := [100, 116, 117, 118, 119, 120]) (F := [(13, 31)]) ag_rf]; exact hwm
      · show 0 ≤ (0 : Int32).toInt ∧ (0 : Int32).toInt ≤ a0.toInt
        try rw [kp0]
        first | omega | exact hi | assumption
      · show (J 13 31).toInt = (J 13 31).toInt + (0 : Int32).toInt
        try rw [kp0]
        first | omega | exact hw | assumption
      · show FILL (J 116) (J 116) (J 13 31).toInt ((J 13 31).toInt + (0 : Int32).toInt) 6
        try rw [kp0]
        exact fill_0 (by omega)
      · show FILL (J 117) (J 117) (J 13 31).toInt ((J 13 31).toInt + (0 : Int32).toInt) (-9)
        try rw [kp0]
        exact fill_0 (by omega)
      · show FILL (J 118) (J 118) (J 13 31).toInt ((J 13 31).toInt + (0 : Int32).toInt) 0
        try rw [kp0]
        exact fill_0 (by omega)
      · show FILL (J 119) (J 119) (J 13 31).toInt ((J 13 31).toInt + (0 : Int32).toInt) (-9)
        try rw [kp0]
        exact fill_0 (by omega)
      · show FILL (J 120) (J 120) (J 13 31).toInt ((J 13 31).toInt + (0 : Int32).toInt) (J 13 33)
        try rw [kp0]
        exact fill_0 (by omega)
    · have c3 : x2.toInt < a0.toInt := tnle rfl rfl c3
      refine lv_aload_n hx hb dX12_pass_24 rfl (lv_at hl 0 rfl) ?_
      refine lv_bipush (v := (-6)) hx hb dX12_pass_25 (by decide) ?_
      refine ci_ C hW (runV (x := (g.2.2.1 13)) (As := [.int (-6)]) (rest := []) (T := ((J, L, I, P, E, N), sgM g)) C hW (c_X12_refuse l g J L I P E N H.size (-6) (show -6 ≤ (-6 : Int32).toInt ∧ (-6 : Int32).toInt ≤ -1 from by (try simp only [kn6]); omega)) mi_X12_refuse tw_1239 (recv_ (T := ((J, L, I, P, E, N), sgM g)) C hW (mm_ rfl) rfl rfl) ⟨rfl, rfl, Nat.le_of_ble_eq_true rfl, Nat.le_of_ble_eq_true rfl⟩ rfl hl.1 rfl (Nat.le_of_ble_eq_true rfl) dX12_pass_27 ⟨Nat.le_of_ble_eq_true rfl, Nat.le_of_ble_eq_true rfl⟩) (fun r8 u8 H locs hp8 hW => ?_)
      have hc8 : ((r8 = (-6))) := hp8
      clear hp8
      have hr8 : r8.toInt = (-6) := by rw [hc8]; exact kn6
      have hW : WB g A s.heap H locs ((hv J [100] [] u8), L, I, P, E, N) (sgM g) := hW
      have hWr : WB g A s.heap H locs (hv J [100, 116, 117, 118, 119, 120] [(13, 31)] (hv J [100] [] u8), L, I, P, E, N) (sgM g) := by
        rw [← ag_hvE (J := J) (R := [100, 116, 117, 118, 119, 120]) (F := [(13, 31)]) (ag_hv rfl rfl ag_rf)]
        exact hW
      have hwmr : WM (hv J [100] [] u8) := by exact hwm
      have hwmr : WM (hv J [100, 116, 117, 118, 119, 120] [(13, 31)] (hv J [100] [] u8)) := by
        rw [← ag_hvE (J := J) (R := [100, 116, 117, 118, 119, 120]) (F := [(13, 31)]) (ag_hv rfl rfl ag_rf)]; exact hwmr
      subst hQ9
      exact end_i C hr hlocks (hv J [100] [] u8) hWr ⟨hwmr, by first | exact Or.inl ⟨by omega, by omega, show J 13 31 = J 13 31 from by first | rfl | assumption, show J 116 = J 116 from by first | rfl | assumption, show J 117 = J 117 from by first | rfl | assumption, show J 118 = J 118 from by first | rfl | assumption, show J 119 = J 119 from by first | rfl | assumption, show J 120 = J 120 from by first | rfl | assumption⟩ | exact Or.inr (Or.inl ⟨by omega, by omega, show J 13 31 = J 13 31 from by first | rfl | assumption, show J 116 = J 116 from by first | rfl | assumption, show J 117 = J 117 from by first | rfl | assumption, show J 118 = J 118 from by first | rfl | assumption, show J 119 = J 119 from by first | rfl | assumption, show J 120 = J 120 from by first | rfl | assumption⟩) | exact Or.inr (Or.inr (⟨by omega, by omega, show (J 13 31).toInt = (J 13 31).toInt + a0.toInt from (by first | omega | (have e9 : m2.toInt = a0.toInt := (by omega); rw [← e9]; assumption)), show FILL (J 116) (J 116) (J 13 31).toInt ((J 13 31).toInt + a0.toInt) 6 from (by first | omega | (have e9 : m2.toInt = a0.toInt := (by omega); rw [← e9]; assumption)), show FILL (J 117) (J 117) (J 13 31).toInt ((J 13 31).toInt + a0.toInt) (-9) from (by first | omega | (have e9 : m2.toInt = a0.toInt := (by omega); rw [← e9]; assumption)), show FILL (J 118) (J 118) (J 13 31).toInt ((J 13 31).toInt + a0.toInt) 0 from (by first | omega | (have e9 : m2.toInt = a0.toInt := (by omega); rw [← e9]; assumption)), show FILL (J 119) (J 119) (J 13 31).toInt ((J 13 31).toInt + a0.toInt) (-9) from (by first | omega | (have e9 : m2.toInt = a0.toInt := (by omega); rw [← e9]; assumption)), show FILL (J 120) (J 120) (J 13 31).toInt ((J 13 31).toInt + a0.toInt) (J 13 33) from (by first | omega | (have e9 : m2.toInt = a0.toInt := (by omega); rw [← e9]; assumption))⟩))⟩ dX12_pass_30
  · have c1 : a0.toInt < 1 := tnle kp1 rfl c1
    refine lv_aload_n hx hb dX12_pass_5 rfl (lv_at hl 0 rfl) ?_
    refine lv_bipush (v := (-4)) hx hb dX12_pass_6 (by decide) ?_
    refine ci_ C hW (runV (x := (g.2.2.1 13)) (As := [.int (-4)]) (rest := []) (T := ((J, L, I, P, E, N), sgM g)) C hW (c_X12_refuse l g J L I P E N H.size (-4) (show -6 ≤ (-4 : Int32).toInt ∧ (-4 : Int32).toInt ≤ -1 from by (try simp only [kn4]); omega)) mi_X12_refuse tw_1239 (recv_ (T := ((J, L, I, P, E, N), sgM g)) C hW (mm_ rfl) rfl rfl) ⟨rfl, rfl, Nat.le_of_ble_eq_true rfl, Nat.le_of_ble_eq_true rfl⟩ rfl hl.1 rfl (Nat.le_of_ble_eq_true rfl) dX12_pass_8 ⟨Nat.le_of_ble_eq_true rfl, Nat.le_of_ble_eq_true rfl⟩) (fun r9 u9 H locs hp9 hW => ?_)
    have hc9 : ((r9 = (-4))) := hp9
    clear hp9
    have hr9 : r9.toInt = (-4) := by rw [hc9]; exact kn4
    have hW : WB g A s.heap H locs ((hv J [100] [] u9), L, I, P, E, N) (sgM g) := hW
    have hWr : WB g A s.heap H locs (hv J [100, 116, 117, 118, 119, 120] [(13, 31)] (hv J [100] [] u9), L, I, P, E, N) (sgM g) := by
      rw [← ag_hvE (J := J) (R := [100, 116, 117, 118, 119, 120]) (F := [(13, 31)]) (ag_hv rfl rfl ag_rf)]
      exact hW
    have hwmr : WM (hv J [100] [] u9) := by exact hwm
    have hwmr : WM (hv J [100, 116, 117, 118, 119, 120] [(13, 31)] (hv J [100] [] u9)) := by
      rw [← ag_hvE (J := J) (R := [100, 116, 117, 118, 119, 120]) (F := [(13, 31)]) (ag_hv rfl rfl ag_rf)]; exact hwmr
    subst hQ9
    exact end_i C hr hlocks (hv J [100] [] u9) hWr ⟨hwmr, by first | exact Or.inl ⟨by omega, by omega, show J 13 31 = J 13 31 from by first | rfl | assumption, show J 116 = J 116 from by first | rfl | assumption, show J 117 = J 117 from by first | rfl | assumption, show J 118 = J 118 from by first | rfl | assumption, show J 119 = J 119 from by first | rfl | assumption, show J 120 = J 120 from by first | rfl | assumption⟩ | exact Or.inr (Or.inl ⟨by omega, by omega, show J 13 31 = J 13 31 from by first | rfl | assumption, show J 116 = J 116 from by first | rfl | assumption, show J 117 = J 117 from by first | rfl | assumption, show J 118 = J 118 from by first | rfl | assumption, show J 119 = J 119 from by first | rfl | assumption, show J 120 = J 120 from by first | rfl | assumption⟩) | exact Or.inr (Or.inr (⟨by omega, by omega, show (J 13 31).toInt = (J 13 31).toInt + a0.toInt from (by first | omega | (have e9 : m2.toInt = a0.toInt := (by omega); rw [← e9]; assumption)), show FILL (J 116) (J 116) (J 13 31).toInt ((J 13 31).toInt + a0.toInt) 6 from (by first | omega | (have e9 : m2.toInt = a0.toInt := (by omega); rw [← e9]; assumption)), show FILL (J 117) (J 117) (J 13 31).toInt ((J 13 31).toInt + a0.toInt) (-9) from (by first | omega | (have e9 : m2.toInt = a0.toInt := (by omega); rw [← e9]; assumption)), show FILL (J 118) (J 118) (J 13 31).toInt ((J 13 31).toInt + a0.toInt) 0 from (by first | omega | (have e9 : m2.toInt = a0.toInt := (by omega); rw [← e9]; assumption)), show FILL (J 119) (J 119) (J 13 31).toInt ((J 13 31).toInt + a0.toInt) (-9) from (by first | omega | (have e9 : m2.toInt = a0.toInt := (by omega); rw [← e9]; assumption)), show FILL (J 120) (J 120) (J 13 31).toInt ((J 13 31).toInt + a0.toInt) (J 13 33) from (by first | omega | (have e9 : m2.toInt = a0.toInt := (by omega); rw [← e9]; assumption))⟩))⟩ dX12_pass_11

set_option maxHeartbeats 4000000 in
set_option maxRecDepth 100000 in
theorem c_X12_stage_e (l : Launch) (g : gG) (J : Nat → Nat → Int32) (L : Nat → Nat → Int64) (I : Nat → Nat → Nat → Int32) (P : Nat → Nat → Nat → Option Nat) (E : Nat → Option Nat) (N : Nat → Nat) (sz : Nat) (a0 : Int32) (hwm : WM J) : Met l yX12_stage (WS yX12_stage cX12_stage 3 (some .int)) (RM (3) 0 0) (PC g [.ref (g.2.2.1 13), .int a0] ((J, L, I, P, E, N), sgM g) sz) (va_Qi (fun (r : Int32) (u : (Nat → Nat → Int32)) => WM (hv J [100, 116, 117, 118, 119, 120] [(13, 31)] u) ∧ ((r.toInt = (-4) ∧ (a0.toInt < 1) ∧ u 13 31 = J 13 31 ∧ u 116 = J 116 ∧ u 117 = J 117 ∧ u 118 = J 118 ∧ u 119 = J 119 ∧ u 120 = J 120) ∨ (r.toInt = (-6) ∧ (1 ≤ a0.toInt ∧ (999 < a0.toInt ∨ (J 13 31).toInt = 9999)) ∧ u 13 31 = J 13 31 ∧ u 116 = J 116 ∧ u 117 = J 117 ∧ u 118 = J 118 ∧ u 119 = J 119 ∧ u 120 = J 120) ∨ (r.toInt = (J 13 31).toInt ∧ (1 ≤ a0.toInt ∧ a0.toInt ≤ 999 ∧ (J 13 31).toInt ≤ 9998) ∧ (u 13 31).toInt = (J 13 31).toInt + 1 ∧ u 116 = up2 J 116 (J 13 31).toNatClampNeg 3 116 ∧ u 117 = up2 J 117 (J 13 31).toNatClampNeg (-9) 117 ∧ u 118 = up2 J 118 (J 13 31).toNatClampNeg a0 118 ∧ u 119 = up2 J 119 (J 13 31).toNatClampNeg (-9) 119 ∧ u 120 = up2 J 120 (J 13 31).toNatClampNeg (J 13 33) 120))) (fun u t => at_ g (FR g ((J, L, I, P, E, N), sgM g) sz) ((hv J [100, 116, 117, 118, 119, 120] [(13, 31)] u, L, I, P, E, N), sgM g) t) (FR g ((J, L, I, P, E, N), sgM g) sz)) 0 0 (FR g ((J, L, I, P, E, N), sgM g) sz) := by
  refine ent (by decide +kernel) (Nat.le_of_ble_eq_true rfl) ?_
  intro p e s m below meth c ls hsz C hW hr hlocks hname hl
  generalize FR g ((J, L, I, P, E, N), sgM g) sz = A at C hW ⊢
  generalize hQ9 : (va_Qi (fun (r : Int32) (u : (Nat → Nat → Int32)) => WM (hv J [100, 116, 117, 118, 119, 120] [(13, 31)] u) ∧ ((r.toInt = (-4) ∧ (a0.toInt < 1) ∧ u 13 31 = J 13 31 ∧ u 116 = J 116 ∧ u 117 = J 117 ∧ u 118 = J 118 ∧ u 119 = J 119 ∧ u 120 = J 120) ∨ (r.toInt = (-6) ∧ (1 ≤ a0.toInt ∧ (999 < a0.toInt ∨ (J 13 31).toInt = 9999)) ∧ u 13 31 = J 13 31 ∧ u 116 = J 116 ∧ u 117 = J 117 ∧ u 118 = J 118 ∧ u 119 = J 119 ∧ u 120 = J 120) ∨ (r.toInt = (J 13 31).toInt ∧ (1 ≤ a0.toInt ∧ a0.toInt ≤ 999 ∧ (J 13 31).toInt ≤ 9998) ∧ (u 13 31).toInt = (J 13 31).toInt + 1 ∧ u 116 = up2 J 116 (J 13 31).toNatClampNeg 3 116 ∧ u 117 = up2 J 117 (J 13 31).toNatClampNeg (-9) 117 ∧ u 118 = up2 J 118 (J 13 31).toNatClampNeg a0 118 ∧ u 119 = up2 J 119 (J 13 31).toNatClampNeg (-9) 119 ∧ u 120 = up2 J 120 (J 13 31).toNatClampNeg (J 13 33) 120))) (fun u t => at_ g A ((hv J [100, 116, 117, 118, 119, 120] [(13, 31)] u, L, I, P, E, N), sgM g) t) A) = Q9
  have hx := C.1.1
  have hb := C.1.2.1
  have hts := C.1.2.2.2.2
  have hW : WB g A s.heap s.heap [] (J, L, I, P, E, N) (sgM g) := hW
  have hl : lv_has ls 3 [(0, .ref (g.2.2.1 13)), (1, .int a0)] := hl
  obtain ⟨H, hH⟩ : ∃ H : Heap, H = s.heap := ⟨_, rfl⟩
  obtain ⟨locs, hlocs⟩ : ∃ q : List Loc, q = [] := ⟨_, rfl⟩
  have hW : WB g A s.heap H locs (J, L, I, P, E, N) (sgM g) := by rw [hH, hlocs]; exact hW
  obtain ⟨⟨hnd1, hnd2, hon, hhm1, hhm2, hhN, hcu1, hcu2, hco1, hco2, hcN⟩, ⟨hrd1, hrd2⟩, ⟨hnw1, hnw2, hns1, hns2, hof⟩, ⟨htm1, htm2, hts_⟩, ⟨had1, had2, hrw1, hrw2, htp1, htp2⟩⟩ := id hwm
  refine start_ hH hlocs ?_
  refine lv_iload_n hx hb dX12_stage_0 rfl (lv_at hl 1 rfl) ?_
  refine lv_iconst (v := 1) hx hb dX12_stage_1 (by decide) ?_
  refine lv_sipush (v := 999) hx hb dX12_stage_2 (by decide) ?_
  refine ci_ C hW (runS (As := [.int a0, .int 1, .int 999]) (rest := []) (T := ((J, L, I, P, E, N), sgM g)) C hW (c_X12_within l g J L I P E N H.size a0 1 999 ) mi_X12_within tw_1258 ⟨rfl, rfl, Nat.le_of_ble_eq_true rfl, Nat.le_of_ble_eq_true rfl⟩ rfl hl.1 rfl (Nat.le_of_ble_eq_true rfl) dX12_stage_5 ⟨Nat.le_of_ble_eq_true rfl, Nat.le_of_ble_eq_true rfl⟩) (fun r1 u1 H locs hp1 hW => ?_)
  have hc1 : ((r1.toInt = (-4) ∧ (a0.toInt < 1)) ∨ (r1.toInt = (-6) ∧ (1 ≤ a0.toInt ∧ 999 < a0.toInt)) ∨ (r1.toInt = 0 ∧ (1 ≤ a0.toInt ∧ a0.toInt ≤ 999))) := hp1
  clear hp1
  have hW : WB g A s.heap H locs (J, L, I, P, E, N) (sgM g) := hW
  refine lv_istore_n (lv' := [(2, .int r1), (0, .ref (g.2.2.1 13)), (1, .int a0)]) hx hb dX12_stage_8 rfl hl (by decide) rfl (fun ls hl => ?_)
  refine lv_iload_n hx hb dX12_stage_9 rfl (lv_at hl 0 rfl) ?_
  refine lv_if_ne (tgt := 26) hx hb dX12_stage_10 (by decide) (fun c2 => ?_) (fun c2 => ?_)
  · have c2 : ¬ r1.toInt = 0 := tne rfl kp0 c2
    refine lv_iload_n hx hb dX12_stage_26 rfl (lv_at hl 0 rfl) ?_
    refine lv_if_eq (tgt := 38) hx hb dX12_stage_27 (by decide) (fun c3 => ?_) (fun c3 => ?_)
    · have c3 : r1.toInt = 0 := teq rfl kp0 c3
      exfalso; omega
    · have c3 : ¬ r1.toInt = 0 := tne rfl kp0 c3
      refine lv_aload_n hx hb dX12_stage_30 rfl (lv_at hl 1 rfl) ?_
      refine lv_iload_n hx hb dX12_stage_31 rfl (lv_at hl 0 rfl) ?_
      refine ci_ C hW (runV (x := (g.2.2.1 13)) (As := [.int r1]) (rest := []) (T := ((J, L, I, P, E, N), sgM g)) C hW (c_X12_refuse l g J L I P E N H.size r1 (show -6 ≤ r1.toInt ∧ r1.toInt ≤ -1 from by omega)) mi_X12_refuse tw_1239 (recv_ (T := ((J, L, I, P, E, N), sgM g)) C hW (mm_ rfl) rfl rfl) ⟨rfl, rfl, Nat.le_of_ble_eq_true rfl, Nat.le_of_ble_eq_true rfl⟩ rfl hl.1 rfl (Nat.le_of_ble_eq_true rfl) dX12_stage_32 ⟨Nat.le_of_ble_eq_true rfl, Nat.le_of_ble_eq_true rfl⟩) (fun r4 u4 H locs hp4 hW => ?_)
      have hc4 : ((r4 = r1)) := hp4
      clear hp4
      have hr4 : r4.toInt = (r1).toInt := by rw [hc4]
      have hW : WB g A s.heap H locs ((hv J [100] [] u4), L, I, P, E, N) (sgM g) := hW
      refine lv_goto (tgt := 48) hx hb dX12_stage_35 (by decide) ?_
      have hWr : WB g A s.heap H locs (hv J [100, 116, 117, 118, 119, 120] [(13, 31)] (hv J [100] [] u4), L, I, P, E, N) (sgM g) := by
        rw [← ag_hvE (J := J) (R := [100, 116, 117, 118, 119, 120]) (F := [(13, 31)]) (ag_hv rfl rfl ag_rf)]
        exact hW
      have hwmr : WM (hv J [100] [] u4) := by exact hwm
      have hwmr : WM (hv J [100, 116, 117, 118, 119, 120] [(13, 31)] (hv J [100] [] u4)) := by
        rw [← ag_hvE (J := J) (R := [100, 116, 117, 118, 119, 120]) (F := [(13, 31)]) (ag_hv rfl rfl ag_rf)]; exact hwmr
      subst hQ9
      exact end_i C hr hlocks (hv J [100] [] u4) hWr ⟨hwmr, by first | exact Or.inl ⟨by omega, by omega, show J 13 31 = J 13 31 from by first | rfl | assumption, show J 116 = J 116 from by first | rfl | assumption, show J 117 = J 117 from by first | rfl | assumption, show J 118 = J 118 from by first | rfl | assumption, show J 119 = J 119 from by first | rfl | assumption, show J 120 = J 120 from by first | rfl | assumption⟩ | exact Or.inr (Or.inl ⟨by omega, by omega, show J 13 31 = J 13 31 from by first | rfl | assumption, show J 116 = J 116 from by first | rfl | assumption, show J 117 = J 117 from by first | rfl | assumption, show J 118 = J 118 from by first | rfl | assumption, show J 119 = J 119 from by first | rfl | assumption, show J 120 = J 120 from by first | rfl | assumption⟩) | exact Or.inr (Or.inr (⟨by omega, by omega, show (J 13 31).toInt = (J 13 31).toInt + 1 from (by first | exact hG0 | assumption), show J 116 = up2 J 116 (J 13 31).toNatClampNeg 3 116 from (by first | exact hG0 | assumption), show J 117 = up2 J 117 (J 13 31).toNatClampNeg (-9) 117 from (by first | exact hG0 | assumption), show J 118 = up2 J 118 (J 13 31).toNatClampNeg a0 118 from (by first | exact hG0 | assumption), show J 119 = up2 J 119 (J 13 31).toNatClampNeg (-9) 119 from (by first | exact hG0 | assumption), show J 120 = up2 J 120 (J 13 31).toNatClampNeg (J 13 33) 120 from (by first | exact hG0 | assumption)⟩)) | (rcases hc1 with qhc1 | qhc1 | qhc1 <;> first | exact Or.inl ⟨by omega, by omega, show J 13 31 = J 13 31 from by first | rfl | assumption, show J 116 = J 116 from by first | rfl | assumption, show J 117 = J 117 from by first | rfl | assumption, show J 118 = J 118 from by first | rfl | assumption, show J 119 = J 119 from by first | rfl | assumption, show J 120 = J 120 from by first | rfl | assumption⟩ | exact Or.inr (Or.inl ⟨by omega, by omega, show J 13 31 = J 13 31 from by first | rfl | assumption, show J 116 = J 116 from by first | rfl | assumption, show J 117 = J 117 from by first | rfl | assumption, show J 118 = J 118 from by first | rfl | assumption, show J 119 = J 119 from by first | rfl | assumption, show J 120 = J 120 from by first | rfl | assumption⟩) | exact Or.inr (Or.inr (⟨by omega, by omega, show (J 13 31).toInt = (J 13 31).toInt + 1 from (by first | exact hG0 | assumption), show J 116 = up2 J 116 (J 13 31).toNatClampNeg 3 116 from (by first | exact hG0 | assumption), show J 117 = up2 J 117 (J 13 31).toNatClampNeg (-9) 117 from (by first | exact hG0 | assumption), show J 118 = up2 J 118 (J 13 31).toNatClampNeg a0 118 from (by first | exact hG0 | assumption), show J 119 = up2 J 119 (J 13 31).toNatClampNeg (-9) 119 from (by first | exact hG0 | assumption), show J 120 = up2 J 120 (J 13 31).toNatClampNeg (J 13 33) 120 from (by first | exact hG0 | assumption)⟩)) | (exfalso; omega))⟩ dX12_stage_48
  · have c2 : r1.toInt = 0 := teq rfl kp0 c2
    refine lv_aload_n hx hb dX12_stage_13 rfl (lv_at hl 1 rfl) ?_
    refine rg_13_31 C hW (mm_ rfl) tw_1054 dX12_stage_14 ?_
    refine lv_sipush (v := 9999) hx hb dX12_stage_17 (by decide) ?_
    refine lv_icmp_ne (tgt := 26) hx hb dX12_stage_20 (by decide) (fun c5 => ?_) (fun c5 => ?_)
    · have c5 : ¬ (J 13 31).toInt = 9999 := tne rfl kp9999 c5
      refine lv_iload_n hx hb dX12_stage_26 rfl (lv_at hl 0 rfl) ?_
      refine lv_if_eq (tgt := 38) hx hb dX12_stage_27 (by decide) (fun c6 => ?_) (fun c6 => ?_)
      · have c6 : r1.toInt = 0 := teq rfl kp0 c6
        refine lv_aload_n hx hb dX12_stage_38 rfl (lv_at hl 1 rfl) ?_
        refine lv_iconst (v := 3) hx hb dX12_stage_39 (by decide) ?_
        refine lv_bipush (v := (-9)) hx hb dX12_stage_40 (by decide) ?_
        refine lv_iload_n hx hb dX12_stage_42 rfl (lv_at hl 2 rfl) ?_
        refine lv_bipush (v := (-9)) hx hb dX12_stage_43 (by decide) ?_
        refine ci_ C hW (runV (x := (g.2.2.1 13)) (As := [.int 3, .int (-9), .int a0, .int (-9)]) (rest := []) (T := ((J, L, I, P, E, N), sgM g)) C hW (c_X12_goesBy_e l g J L I P E N H.size 3 (-9) a0 (-9) hwm (show (J 13 31).toInt ≤ 9998 from by (try simp only [kn9]); (try simp only [kn9]); (try simp only [kp3]); omega) (show (3 : Int32).toInt = 0 → (-9 : Int32).toInt < 40 from by (try simp only [kn9]); (try simp only [kn9]); (try simp only [kp3]); decide)) mi_X12_goesBy tw_1243 (recv_ (T := ((J, L, I, P, E, N), sgM g)) C hW (mm_ rfl) rfl rfl) ⟨rfl, rfl, Nat.le_of_ble_eq_true rfl, Nat.le_of_ble_eq_true rfl⟩ rfl hl.1 rfl (Nat.le_of_ble_eq_true rfl) dX12_stage_45 ⟨Nat.le_of_ble_eq_true rfl, Nat.le_of_ble_eq_true rfl⟩) (fun r7 u7 H locs hp7 hW => ?_)
        obtain ⟨hwm, hc7, hf7_0, hf7_1, hf7_2, hf7_3, hf7_4, hf7_5⟩ : WM (hv J [116, 117, 118, 119, 120] [(13, 31)] u7) ∧ ((r7.toInt = (J 13 31).toInt)) ∧ ((u7 13 31).toInt = (J 13 31).toInt + 1) ∧ (u7 116 = up2 J 116 (J 13 31).toNatClampNeg 3 116) ∧ (u7 117 = up2 J 117 (J 13 31).toNatClampNeg (-9) 117) ∧ (u7 118 = up2 J 118 (J 13 31).toNatClampNeg a0 118) ∧ (u7 119 = up2 J 119 (J 13 31).toNatClampNeg (-9) 119) ∧ (u7 120 = up2 J 120 (J 13 31).toNatClampNeg (J 13 33) 120) := hp7
        have hwm : WM (hv J [116, 117, 118, 119, 120] [(13, 31)] u7) := hwm
        have hW : WB g A s.heap H locs ((hv J [116, 117, 118, 119, 120] [(13, 31)] u7), L, I, P, E, N) (sgM g) := hW
        have hG0 := hf7_0
        have hG1 := hf7_1
        have hG2 := hf7_2
        have hG3 := hf7_3
        have hG4 := hf7_4
        have hG5 := hf7_5
        have hWr : WB g A s.heap H locs (hv J [100, 116, 117, 118, 119, 120] [(13, 31)] (hv J [116, 117, 118, 119, 120] [(13, 31)] u7), L, I, P, E, N) (sgM g) := by
          rw [← ag_hvE (J := J) (R := [100, 116, 117, 118, 119, 120]) (F := [(13, 31)]) (ag_hv rfl rfl ag_rf)]
          exact hW
        have hwmr : WM (hv J [116, 117, 118, 119, 120] [(13, 31)] u7) := by exact hwm
        have hwmr : WM (hv J [100, 116, 117, 118, 119, 120] [(13, 31)] (hv J [116, 117, 118, 119, 120] [(13, 31)] u7)) := by
          rw [← ag_hvE (J := J) (R := [100, 116, 117, 118, 119, 120]) (F := [(13, 31)]) (ag_hv rfl rfl ag_rf)]; exact hwmr
        subst hQ9
        exact end_i C hr hlocks (hv J [116, 117, 118, 119, 120] [(13, 31)] u7) hWr ⟨hwmr, by first | exact Or.inl ⟨by omega, by omega, show u7 13 31 = J 13 31 from by first | rfl | assumption, show u7 116 = J 116 from by first | rfl | assumption, show u7 117 = J 117 from by first | rfl | assumption, show u7 118 = J 118 from by first | rfl | assumption, show u7 119 = J 119 from by first | rfl | assumption, show u7 120 = J 120 from by first | rfl | assumption⟩ | exact Or.inr (Or.inl ⟨by omega, by omega, show u7 13 31 = J 13 31 from by first | rfl | assumption, show u7 116 = J 116 from by first | rfl | assumption, show u7 117 = J 117 from by first | rfl | assumption, show u7 118 = J 118 from by first | rfl | assumption, show u7 119 = J 119 from by first | rfl | assumption, show u7 120 = J 120 from by first | rfl | assumption⟩) | exact Or.inr (Or.inr (⟨by omega, by omega, show (u7 13 31).toInt = (J 13 31).toInt + 1 from (by first | exact hG0 | assumption), show u7 116 = up2 J 116 (J 13 31).toNatClampNeg 3 116 from (by first | exact hG0 | assumption), show u7 117 = up2 J 117 (J 13 31).toNatClampNeg (-9) 117 from (by first | exact hG0 | assumption), show u7 118 = up2 J 118 (J 13 31).toNatClampNeg a0 118 from (by first | exact hG0 | assumption), show u7 119 = up2 J 119 (J 13 31).toNatClampNeg (-9) 119 from (by first | exact hG0 | assumption), show u7 120 = up2 J 120 (J 13 31).toNatClampNeg (J 13 33) 120 from (by first | exact hG0 | assumption)⟩)) | (rcases hc1 with qhc1 | qhc1 | qhc1 <;> first | exact Or.inl ⟨by omega, by omega, show u7 13 31 = J 13 31 from by first | rfl | assumption, show u7 116 = J 116 from by first | rfl | assumption, show u7 117 = J 117 from by first | rfl | assumption, show u7 118 = J 118 from by first | rfl | assumption, show u7 119 = J 119 from by first | rfl | assumption, show u7 120 = J 120 from by first | rfl | assumption⟩ | exact Or.inr (Or.inl ⟨by omega, by omega, show u7 13 31 = J 13 31 from by first | rfl | assumption, show u7 116 = J 116 from by first | rfl | assumption, show u7 117 = J 117 from by first | rfl | assumption, show u7 118 = J 118 from by first | rfl | assumption, show u7 119 = J 119 from by first | rfl | assumption, show u7 120 = J 120 from by first | rfl | assumption⟩) | exact Or.inr (Or.inr (⟨by omega, by omega, show (u7 13 31).toInt = (J 13 31).toInt + 1 from (by first | exact hG0 | assumption), show u7 116 = up2 J 116 (J 13 31).toNatClampNeg 3 116 from (by first | exact hG0 | assumption), show u7 117 = up2 J 117 (J 13 31).toNatClampNeg (-9) 117 from (by first | exact hG0 | assumption), show u7 118 = up2 J 118 (J 13 31).toNatClampNeg a0 118 from (by first | exact hG0 | assumption), show u7 119 = up2 J 119 (J 13 31).toNatClampNeg (-9) 119 from (by first | exact hG0 | assumption), show u7 120 = up2 J 120 (J 13 31).toNatClampNeg (J 13 33) 120 from (by first | exact hG0 | assumption)⟩)) | (exfalso; omega))⟩ dX12_stage_48
      · have c6 : ¬ r1.toInt = 0 := tne rfl kp0 c6
        exfalso; omega
    · have c5 : (J 13 31).toInt = 9999 := teq rfl kp9999 c5
      refine lv_bipush (v := (-6)) hx hb dX12_stage_23 (by decide) ?_
      refine lv_istore_n (lv' := [(2, .int (-6)), (0, .ref (g.2.2.1 13)), (1, .int a0)]) hx hb dX12_stage_25 rfl hl (by decide) rfl (fun ls hl => ?_)
      refine lv_iload_n hx hb dX12_stage_26 rfl (lv_at hl 0 rfl) ?_
      refine lv_if_eq (tgt := 38) hx hb dX12_stage_27 (by decide) (fun c8 => ?_) (fun c8 => ?_)
      · exact absurd c8 (by decide)
      · skip
        refine lv_aload_n hx hb dX12_stage_30 rfl (lv_at hl 1 rfl) ?_
        refine lv_iload_n hx hb dX12_stage_31 rfl (lv_at hl 0 rfl) ?_
        refine ci_ C hW (runV (x := (g.2.2.1 13)) (As := [.int (-6)]) (rest := []) (T := ((J, L, I, P, E, N), sgM g)) C hW (c_X12_refuse l g J L I P E N H.size (-6) (show -6 ≤ (-6 : Int32).toInt ∧ (-6 : Int32).toInt ≤ -1 from by (try simp only [kn6]); omega)) mi_X12_refuse tw_1239 (recv_ (T := ((J, L, I, P, E, N), sgM g)) C hW (mm_ rfl) rfl rfl) ⟨rfl, rfl, Nat.le_of_ble_eq_true rfl, Nat.le_of_ble_eq_true rfl⟩ rfl hl.1 rfl (Nat.le_of_ble_eq_true rfl) dX12_stage_32 ⟨Nat.le_of_ble_eq_true rfl, Nat.le_of_ble_eq_true rfl⟩) (fun r9 u9 H locs hp9 hW => ?_)
        have hc9 : ((r9 = (-6))) := hp9
        clear hp9
        have hr9 : r9.toInt = (-6) := by rw [hc9]; exact kn6
        have hW : WB g A s.heap H locs ((hv J [100] [] u9), L, I, P, E, N) (sgM g) := hW
        refine lv_goto (tgt := 48) hx hb dX12_stage_35 (by decide) ?_
        have hWr : WB g A s.heap H locs (hv J [100, 116, 117, 118, 119, 120] [(13, 31)] (hv J [100] [] u9), L, I, P, E, N) (sgM g) := by
          rw [← ag_hvE (J := J) (R := [100, 116, 117, 118, 119, 120]) (F := [(13, 31)]) (ag_hv rfl rfl ag_rf)]
          exact hW
        have hwmr : WM (hv J [100] [] u9) := by exact hwm
        have hwmr : WM (hv J [100, 116, 117, 118, 119, 120] [(13, 31)] (hv J [100] [] u9)) := by
          rw [← ag_hvE (J := J) (R := [100, 116, 117, 118, 119, 120]) (F := [(13, 31)]) (ag_hv rfl rfl ag_rf)]; exact hwmr
        subst hQ9
        exact end_i C hr hlocks (hv J [100] [] u9) hWr ⟨hwmr, by first | exact Or.inl ⟨by omega, by omega, show J 13 31 = J 13 31 from by first | rfl | assumption, show J 116 = J 116 from by first | rfl | assumption, show J 117 = J 117 from by first | rfl | assumption, show J 118 = J 118 from by first | rfl | assumption, show J 119 = J 119 from by first | rfl | assumption, show J 120 = J 120 from by first | rfl | assumption⟩ | exact Or.inr (Or.inl ⟨by omega, by omega, show J 13 31 = J 13 31 from by first | rfl | assumption, show J 116 = J 116 from by first | rfl | assumption, show J 117 = J 117 from by first | rfl | assumption, show J 118 = J 118 from by first | rfl | assumption, show J 119 = J 119 from by first | rfl | assumption, show J 120 = J 120 from by first | rfl | assumption⟩) | exact Or.inr (Or.inr (⟨by omega, by omega, show (J 13 31).toInt = (J 13 31).toInt + 1 from (by first | exact hG0 | assumption), show J 116 = up2 J 116 (J 13 31).toNatClampNeg 3 116 from (by first | exact hG0 | assumption), show J 117 = up2 J 117 (J 13 31).toNatClampNeg (-9) 117 from (by first | exact hG0 | assumption), show J 118 = up2 J 118 (J 13 31).toNatClampNeg a0 118 from (by first | exact hG0 | assumption), show J 119 = up2 J 119 (J 13 31).toNatClampNeg (-9) 119 from (by first | exact hG0 | assumption), show J 120 = up2 J 120 (J 13 31).toNatClampNeg (J 13 33) 120 from (by first | exact hG0 | assumption)⟩)) | (rcases hc1 with qhc1 | qhc1 | qhc1 <;> first | exact Or.inl ⟨by omega, by omega, show J 13 31 = J 13 31 from by first | rfl | assumption, show J 116 = J 116 from by first | rfl | assumption, show J 117 = J 117 from by first | rfl | assumption, show J 118 = J 118 from by first | rfl | assumption, show J 119 = J 119 from by first | rfl | assumption, show J 120 = J 120 from by first | rfl | assumption⟩ | exact Or.inr (Or.inl ⟨by omega, by omega, show J 13 31 = J 13 31 from by first | rfl | assumption, show J 116 = J 116 from by first | rfl | assumption, show J 117 = J 117 from by first | rfl | assumption, show J 118 = J 118 from by first | rfl | assumption, show J 119 = J 119 from by first | rfl | assumption, show J 120 = J 120 from by first | rfl | assumption⟩) | exact Or.inr (Or.inr (⟨by omega, by omega, show (J 13 31).toInt = (J 13 31).toInt + 1 from (by first | exact hG0 | assumption), show J 116 = up2 J 116 (J 13 31).toNatClampNeg 3 116 from (by first | exact hG0 | assumption), show J 117 = up2 J 117 (J 13 31).toNatClampNeg (-9) 117 from (by first | exact hG0 | assumption), show J 118 = up2 J 118 (J 13 31).toNatClampNeg a0 118 from (by first | exact hG0 | assumption), show J 119 = up2 J 119 (J 13 31).toNatClampNeg (-9) 119 from (by first | exact hG0 | assumption), show J 120 = up2 J 120 (J 13 31).toNatClampNeg (J 13 33) 120 from (by first | exact hG0 | assumption)⟩)) | (exfalso; omega))⟩ dX12_stage_48

set_option maxHeartbeats 4000000 in
set_option maxRecDepth 100000 in
theorem c_X12_may_e (l : Launch) (g : gG) (J : Nat → Nat → Int32) (L : Nat → Nat → Int64) (I : Nat → Nat → Nat → Int32) (P : Nat → Nat → Nat → Option Nat) (E : Nat → Option Nat) (N : Nat → Nat) (sz : Nat) (a0 : Int32) (hwm : WM J) (hh : 0 ≤ a0.toInt ∧ a0.toInt < 8) (hlr : -9 ≤ (J 114 a0.toNatClampNeg).toInt ∧ (J 114 a0.toNatClampNeg).toInt ≤ 9999 ∧ 0 ≤ (J 13 39).toInt ∧ (J 13 39).toInt ≤ 240) : Met l yX12_may (WS yX12_may cX12_may 2 (some .boolean)) (RM (1) 0 0) (PC g [.ref (g.2.2.1 13), .int a0] ((J, L, I, P, E, N), sgM g) sz) (va_Qi (fun (r : Int32) (u : Unit) => ((r.toInt = 1 ∧ (((J 115 a0.toNatClampNeg).toInt < (J 13 38).toInt ∨ (J 114 a0.toNatClampNeg).toInt + (J 13 39).toInt < (J 13 31).toInt))) ∨ (r.toInt = 0 ∧ (¬ ((J 115 a0.toNatClampNeg).toInt < (J 13 38).toInt ∨ (J 114 a0.toNatClampNeg).toInt + (J 13 39).toInt < (J 13 31).toInt))))) (fun u t => at_ g (FR g ((J, L, I, P, E, N), sgM g) sz) ((J, L, I, P, E, N), sgM g) t) (FR g ((J, L, I, P, E, N), sgM g) sz)) 0 0 (FR g ((J, L, I, P, E, N), sgM g) sz) := by
  refine ent (by decide +kernel) (Nat.le_of_ble_eq_true rfl) ?_
  intro p e s m below meth c ls hsz C hW hr hlocks hname hl
  generalize FR g ((J, L, I, P, E, N), sgM g) sz = A at C hW ⊢
  generalize hQ9 : (va_Qi (fun (r : Int32) (u : Unit) => ((r.toInt = 1 ∧ (((J 115 a0.toNatClampNeg).toInt < (J 13 38).toInt ∨ (J 114 a0.toNatClampNeg).toInt + (J 13 39).toInt < (J 13 31).toInt))) ∨ (r.toInt = 0 ∧ (¬ ((J 115 a0.toNatClampNeg).toInt < (J 13 38).toInt ∨ (J 114 a0.toNatClampNeg).toInt + (J 13 39).toInt < (J 13 31).toInt))))) (fun u t => at_ g A ((J, L, I, P, E, N), sgM g) t) A) = Q9
  have hx := C.1.1
  have hb := C.1.2.1
  have hts := C.1.2.2.2.2
  have hW : WB g A s.heap s.heap [] (J, L, I, P, E, N) (sgM g) := hW
  have hl : lv_has ls 2 [(0, .ref (g.2.2.1 13)), (1, .int a0)] := hl
  obtain ⟨H, hH⟩ : ∃ H : Heap, H = s.heap := ⟨_, rfl⟩
  obtain ⟨locs, hlocs⟩ : ∃ q : List Loc, q = [] := ⟨_, rfl⟩
  have hW : WB g A s.heap H locs (J, L, I, P, E, N) (sgM g) := by rw [hH, hlocs]; exact hW
  obtain ⟨⟨hnd1, hnd2, hon, hhm1, hhm2, hhN, hcu1, hcu2, hco1, hco2, hcN⟩, ⟨hrd1, hrd2⟩, ⟨hnw1, hnw2, hns1, hns2, hof⟩, ⟨htm1, htm2, hts_⟩, ⟨had1, had2, hrw1, hrw2, htp1, htp2⟩⟩ := id hwm
  refine start_ hH hlocs ?_
  refine lv_aload_n hx hb dX12_may_0 rfl (lv_at hl 0 rfl) ?_
  refine rg_13_15 C hW (mm_ rfl) tw_1038 dX12_may_1 ?_
  refine lv_iload_n hx hb dX12_may_4 rfl (lv_at hl 1 rfl) ?_
  have hin : vp_in a0 8 := tin rfl (by omega)
  refine ra_115 C hW (mm_ rfl) hin dX12_may_5 ?_
  refine lv_topi (fun x1 (e1 : x1 = J 115 a0.toNatClampNeg) => ?_)
  have t1 : x1.toInt = (J 115 a0.toNatClampNeg).toInt := by rw [e1]
  refine lv_aload_n hx hb dX12_may_6 rfl (lv_at hl 0 rfl) ?_
  refine rg_13_38 C hW (mm_ rfl) tw_1061 dX12_may_7 ?_
  refine lv_icmp_lt (tgt := 31) hx hb dX12_may_10 (by decide) (fun c2 => ?_) (fun c2 => ?_)
  · have c2 : x1.toInt < (J 13 38).toInt := tlt rfl rfl c2
    refine lv_iconst (v := 1) hx hb dX12_may_31 (by decide) ?_
    refine lv_goto (tgt := 36) hx hb dX12_may_32 (by decide) ?_
    subst hQ9
    exact end_z C hr hlocks (by decide) () hW (by first | exact Or.inl ⟨by decide, by omega⟩) dX12_may_36
  · have c2 : (J 13 38).toInt ≤ x1.toInt := tnlt rfl rfl c2
    refine lv_aload_n hx hb dX12_may_13 rfl (lv_at hl 0 rfl) ?_
    refine rg_13_31 C hW (mm_ rfl) tw_1054 dX12_may_14 ?_
    refine lv_aload_n hx hb dX12_may_17 rfl (lv_at hl 0 rfl) ?_
    refine rg_13_14 C hW (mm_ rfl) tw_1037 dX12_may_18 ?_
    refine lv_iload_n hx hb dX12_may_21 rfl (lv_at hl 1 rfl) ?_
    have hin : vp_in a0 8 := tin rfl (by omega)
    refine ra_114 C hW (mm_ rfl) hin dX12_may_22 ?_
    refine lv_topi (fun x3 (e3 : x3 = J 114 a0.toNatClampNeg) => ?_)
    have t3 : x3.toInt = (J 114 a0.toNatClampNeg).toInt := by rw [e3]
    refine lv_aload_n hx hb dX12_may_23 rfl (lv_at hl 0 rfl) ?_
    refine rg_13_39 C hW (mm_ rfl) tw_1062 dX12_may_24 ?_
    refine lv_iadd hx hb dX12_may_27 ?_
    refine lv_topi (fun x4 (e4 : x4 = x3 + (J 13 39)) => ?_)
    try have t4 : x4.toInt = x3.toInt + (J 13 39).toInt := tadd e4 rfl rfl (by omega)
    refine lv_icmp_le (tgt := 35) hx hb dX12_may_28 (by decide) (fun c5 => ?_) (fun c5 => ?_)
    · have c5 : (J 13 31).toInt ≤ x4.toInt := tle rfl rfl c5
      refine lv_iconst (v := 0) hx hb dX12_may_35 (by decide) ?_
      subst hQ9
      exact end_z C hr hlocks (by decide) () hW (by first | exact Or.inr (⟨by decide, by omega⟩)) dX12_may_36
    · have c5 : x4.toInt < (J 13 31).toInt := tnle rfl rfl c5
      refine lv_iconst (v := 1) hx hb dX12_may_31 (by decide) ?_
      refine lv_goto (tgt := 36) hx hb dX12_may_32 (by decide) ?_
      subst hQ9
      exact end_z C hr hlocks (by decide) () hW (by first | exact Or.inl ⟨by decide, by omega⟩) dX12_may_36

set_option maxHeartbeats 4000000 in
set_option maxRecDepth 100000 in
theorem c_X12_mayRead_e (l : Launch) (g : gG) (J : Nat → Nat → Int32) (L : Nat → Nat → Int64) (I : Nat → Nat → Nat → Int32) (P : Nat → Nat → Nat → Option Nat) (E : Nat → Option Nat) (N : Nat → Nat) (sz : Nat) (a0 : Int32) (hwm : WM J) (hrd : ∀ k : Nat, (k : Int) < (J 13 37).toInt → -9 ≤ (J 114 k).toInt ∧ (J 114 k).toInt ≤ 9999 ∧ 0 ≤ (J 115 k).toInt ∧ (J 115 k).toInt ≤ 10000) (hrs : 0 ≤ (J 13 39).toInt ∧ (J 13 39).toInt ≤ 240) : Met l yX12_mayRead (WS yX12_mayRead cX12_mayRead 2 (some .int)) (RM (3) 0 0) (PC g [.ref (g.2.2.1 13), .int a0] ((J, L, I, P, E, N), sgM g) sz) (va_Qi (fun (r : Int32) (u : (Nat → Nat → Int32)) => ((r.toInt = (-1) ∧ (¬ (0 ≤ a0.toInt ∧ a0.toInt < (J 13 37).toInt))) ∨ (r.toInt = 1 ∧ (0 ≤ a0.toInt ∧ a0.toInt < (J 13 37).toInt ∧ ((J 115 a0.toNatClampNeg).toInt < (J 13 38).toInt ∨ (J 114 a0.toNatClampNeg).toInt + (J 13 39).toInt < (J 13 31).toInt))) ∨ (r.toInt = 0 ∧ (0 ≤ a0.toInt ∧ a0.toInt < (J 13 37).toInt ∧ ¬ ((J 115 a0.toNatClampNeg).toInt < (J 13 38).toInt ∨ (J 114 a0.toNatClampNeg).toInt + (J 13 39).toInt < (J 13 31).toInt))))) (fun u t => at_ g (FR g ((J, L, I, P, E, N), sgM g) sz) ((hv J [100] [] u, L, I, P, E, N), sgM g) t) (FR g ((J, L, I, P, E, N), sgM g) sz)) 0 0 (FR g ((J, L, I, P, E, N), sgM g) sz) := by
  refine ent (by decide +kernel) (Nat.le_of_ble_eq_true rfl) ?_
  intro p e s m below meth c ls hsz C hW hr hlocks hname hl
  generalize FR g ((J, L, I, P, E, N), sgM g) sz = A at C hW ⊢
  generalize hQ9 : (va_Qi (fun (r : Int32) (u : (Nat → Nat → Int32)) => ((r.toInt = (-1) ∧ (¬ (0 ≤ a0.toInt ∧ a0.toInt < (J 13 37).toInt))) ∨ (r.toInt = 1 ∧ (0 ≤ a0.toInt ∧ a0.toInt < (J 13 37).toInt ∧ ((J 115 a0.toNatClampNeg).toInt < (J 13 38).toInt ∨ (J 114 a0.toNatClampNeg).toInt + (J 13 39).toInt < (J 13 31).toInt))) ∨ (r.toInt = 0 ∧ (0 ≤ a0.toInt ∧ a0.toInt < (J 13 37).toInt ∧ ¬ ((J 115 a0.toNatClampNeg).toInt < (J 13 38).toInt ∨ (J 114 a0.toNatClampNeg).toInt + (J 13 39).toInt < (J 13 31).toInt))))) (fun u t => at_ g A ((hv J [100] [] u, L, I, P, E, N), sgM g) t) A) = Q9
  have hx := C.1.1
  have hb := C.1.2.1
  have hts := C.1.2.2.2.2
  have hW : WB g A s.heap s.heap [] (J, L, I, P, E, N) (sgM g) := hW
  have hl : lv_has ls 2 [(0, .ref (g.2.2.1 13)), (1, .int a0)] := hl
  obtain ⟨H, hH⟩ : ∃ H : Heap, H = s.heap := ⟨_, rfl⟩
  obtain ⟨locs, hlocs⟩ : ∃ q : List Loc, q = [] := ⟨_, rfl⟩
  have hW : WB g A s.heap H locs (J, L, I, P, E, N) (sgM g) := by rw [hH, hlocs]; exact hW
  obtain ⟨⟨hnd1, hnd2, hon, hhm1, hhm2, hhN, hcu1, hcu2, hco1, hco2, hcN⟩, ⟨hrd1, hrd2⟩, ⟨hnw1, hnw2, hns1, hns2, hof⟩, ⟨htm1, htm2, hts_⟩, ⟨had1, had2, hrw1, hrw2, htp1, htp2⟩⟩ := id hwm
  refine start_ hH hlocs ?_
  refine lv_iload_n hx hb dX12_mayRead_0 rfl (lv_at hl 1 rfl) ?_
  refine lv_aload_n hx hb dX12_mayRead_1 rfl (lv_at hl 0 rfl) ?_
  refine rg_13_37 C hW (mm_ rfl) tw_1060 dX12_mayRead_2 ?_
  refine ci_ C hW (runS (As := [.int a0, .int (J 13 37)]) (rest := []) (T := ((J, L, I, P, E, N), sgM g)) C hW (c_X12_isIn l g J L I P E N H.size a0 (J 13 37) ) mi_X12_isIn tw_1255 ⟨rfl, rfl, Nat.le_of_ble_eq_true rfl, Nat.le_of_ble_eq_true rfl⟩ rfl hl.1 rfl (Nat.le_of_ble_eq_true rfl) dX12_mayRead_5 ⟨Nat.le_of_ble_eq_true rfl, Nat.le_of_ble_eq_true rfl⟩) (fun r1 u1 H locs hp1 hW => ?_)
  have hc1 : ((r1.toInt = 1 ∧ (0 ≤ a0.toInt ∧ a0.toInt < (J 13 37).toInt)) ∨ (r1.toInt = 0 ∧ (¬ (0 ≤ a0.toInt ∧ a0.toInt < (J 13 37).toInt)))) := hp1
  clear hp1
  have hW : WB g A s.heap H locs (J, L, I, P, E, N) (sgM g) := hW
  refine lv_if_eq (tgt := 27) hx hb dX12_mayRead_8 (by decide) (fun c2 => ?_) (fun c2 => ?_)
  · have c2 : r1.toInt = 0 := teq rfl kp0 c2
    refine lv_aload_n hx hb dX12_mayRead_27 rfl (lv_at hl 0 rfl) ?_
    refine lv_iconst (v := (-1)) hx hb dX12_mayRead_28 (by decide) ?_
    refine ci_ C hW (runV (x := (g.2.2.1 13)) (As := [.int (-1)]) (rest := []) (T := ((J, L, I, P, E, N), sgM g)) C hW (c_X12_refuse l g J L I P E N H.size (-1) (show -6 ≤ (-1 : Int32).toInt ∧ (-1 : Int32).toInt ≤ -1 from by (try simp only [kn1]); omega)) mi_X12_refuse tw_1239 (recv_ (T := ((J, L, I, P, E, N), sgM g)) C hW (mm_ rfl) rfl rfl) ⟨rfl, rfl, Nat.le_of_ble_eq_true rfl, Nat.le_of_ble_eq_true rfl⟩ rfl hl.1 rfl (Nat.le_of_ble_eq_true rfl) dX12_mayRead_29 ⟨Nat.le_of_ble_eq_true rfl, Nat.le_of_ble_eq_true rfl⟩) (fun r3 u3 H locs hp3 hW => ?_)
    have hc3 : ((r3 = (-1))) := hp3
    clear hp3
    have hr3 : r3.toInt = (-1) := by rw [hc3]; exact kn1
    have hW : WB g A s.heap H locs ((hv J [100] [] u3), L, I, P, E, N) (sgM g) := hW
    have hWr : WB g A s.heap H locs (hv J [100] [] (hv J [100] [] u3), L, I, P, E, N) (sgM g) := by
      rw [← ag_hvE (J := J) (R := [100]) (F := []) (ag_hv rfl rfl ag_rf)]
      exact hW
    subst hQ9
    exact end_i C hr hlocks (hv J [100] [] u3) hWr (by first | omega | exact Or.inl ⟨by omega, by omega⟩ | exact Or.inr (Or.inl ⟨by omega, by omega⟩) | exact Or.inr (Or.inr (⟨by omega, by omega⟩)) | (rcases hc1 with qhc1 | qhc1 <;> first | omega | exact Or.inl ⟨by omega, by omega⟩ | exact Or.inr (Or.inl ⟨by omega, by omega⟩) | exact Or.inr (Or.inr (⟨by omega, by omega⟩)) | (exfalso; omega))) dX12_mayRead_32
  · have c2 : ¬ r1.toInt = 0 := tne rfl kp0 c2
    have hr9 := hrd a0.toNatClampNeg (by have h8 := tcl a0; omega)
    refine lv_aload_n hx hb dX12_mayRead_11 rfl (lv_at hl 0 rfl) ?_
    refine lv_iload_n hx hb dX12_mayRead_12 rfl (lv_at hl 1 rfl) ?_
    refine ci_ C hW (runV (x := (g.2.2.1 13)) (As := [.int a0]) (rest := []) (T := ((J, L, I, P, E, N), sgM g)) C hW (c_X12_may_e l g J L I P E N H.size a0 hwm (show 0 ≤ a0.toInt ∧ a0.toInt < 8 from by omega) (show -9 ≤ (J 114 a0.toNatClampNeg).toInt ∧ (J 114 a0.toNatClampNeg).toInt ≤ 9999 ∧ 0 ≤ (J 13 39).toInt ∧ (J 13 39).toInt ≤ 240 from by omega)) mi_X12_may tw_1318 (recv_ (T := ((J, L, I, P, E, N), sgM g)) C hW (mm_ rfl) rfl rfl) ⟨rfl, rfl, Nat.le_of_ble_eq_true rfl, Nat.le_of_ble_eq_true rfl⟩ rfl hl.1 rfl (Nat.le_of_ble_eq_true rfl) dX12_mayRead_13 ⟨Nat.le_of_ble_eq_true rfl, Nat.le_of_ble_eq_true rfl⟩) (fun r4 u4 H locs hp4 hW => ?_)
    have hc4 : ((r4.toInt = 1 ∧ (((J 115 a0.toNatClampNeg).toInt < (J 13 38).toInt ∨ (J 114 a0.toNatClampNeg).toInt + (J 13 39).toInt < (J 13 31).toInt))) ∨ (r4.toInt = 0 ∧ (¬ ((J 115 a0.toNatClampNeg).toInt < (J 13 38).toInt ∨ (J 114 a0.toNatClampNeg).toInt + (J 13 39).toInt < (J 13 31).toInt)))) := hp4
    clear hp4
    have hW : WB g A s.heap H locs (J, L, I, P, E, N) (sgM g) := hW
    refine lv_if_eq (tgt := 23) hx hb dX12_mayRead_16 (by decide) (fun c5 => ?_) (fun c5 => ?_)
    · have c5 : r4.toInt = 0 := teq rfl kp0 c5
      refine lv_iconst (v := 0) hx hb dX12_mayRead_23 (by decide) ?_
      refine lv_goto (tgt := 32) hx hb dX12_mayRead_24 (by decide) ?_
      have hWr : WB g A s.heap H locs (hv J [100] [] J, L, I, P, E, N) (sgM g) := by
        rw [← ag_hvE (J := J) (R := [100]) (F := []) ag_rf]
        exact hW
      subst hQ9
      exact end_i C hr hlocks J hWr (by first | exact Or.inr (Or.inr (⟨by decide, by omega⟩))) dX12_mayRead_32
    · have c5 : ¬ r4.toInt = 0 := tne rfl kp0 c5
      refine lv_iconst (v := 1) hx hb dX12_mayRead_19 (by decide) ?_
      refine lv_goto (tgt := 32) hx hb dX12_mayRead_20 (by decide) ?_
      have hWr : WB g A s.heap H locs (hv J [100] [] J, L, I, P, E, N) (sgM g) := by
        rw [← ag_hvE (J := J) (R := [100]) (F := []) ag_rf]
        exact hW
      subst hQ9
      exact end_i C hr hlocks J hWr (by first | exact Or.inr (Or.inl ⟨by decide, by omega⟩)) dX12_mayRead_32

set_option maxHeartbeats 4000000 in
set_option maxRecDepth 100000 in
theorem c_X12_reads_e (l : Launch) (g : gG) (J : Nat → Nat → Int32) (L : Nat → Nat → Int64) (I : Nat → Nat → Nat → Int32) (P : Nat → Nat → Nat → Option Nat) (E : Nat → Option Nat) (N : Nat → Nat) (sz : Nat) (a0 : Int32) (a1 : Int32) (a2 : Int32) (hwm : WM J) (hn : (J 13 31).toInt ≤ 9998) (ho : a0.toInt = 0 → a2.toInt < 40) (hr8 : 0 ≤ a1.toInt ∧ a1.toInt < 8) (hlr : 0 ≤ (J 115 a1.toNatClampNeg).toInt ∧ (J 115 a1.toNatClampNeg).toInt ≤ 10000) : Met l yX12_reads (WS yX12_reads cX12_reads 4 (some .int)) (RM (2) 0 0) (PC g [.ref (g.2.2.1 13), .int a0, .int a1, .int a2] ((J, L, I, P, E, N), sgM g) sz) (va_Qi (fun (r : Int32) (u : (Nat → Nat → Int32)) => WM (hv J [114, 115, 116, 117, 118, 119, 120] [(13, 31), (13, 45)] u) ∧ ((r.toInt = (J 13 31).toInt)) ∧ ((u 13 31).toInt = (J 13 31).toInt + 1) ∧ (∃ v : Int32, v.toInt = (if 0 ≤ (J 114 a1.toNatClampNeg).toInt ∧ (J 114 a1.toNatClampNeg).toInt = (J 13 31).toInt - 1 then (J 115 a1.toNatClampNeg).toInt + 1 else 1) ∧ u 115 = up2 J 115 a1.toNatClampNeg v 115) ∧ (u 114 = up2 J 114 a1.toNatClampNeg (J 13 31) 114) ∧ (u 116 = up2 J 116 (J 13 31).toNatClampNeg a0 116) ∧ (u 117 = up2 J 117 (J 13 31).toNatClampNeg a1 117) ∧ (u 118 = up2 J 118 (J 13 31).toNatClampNeg (J 113 a1.toNatClampNeg) 118) ∧ (u 119 = up2 J 119 (J 13 31).toNatClampNeg a2 119) ∧ (u 120 = up2 J 120 (J 13 31).toNatClampNeg (J 13 33) 120)) (fun u t => at_ g (FR g ((J, L, I, P, E, N), sgM g) sz) ((hv J [114, 115, 116, 117, 118, 119, 120] [(13, 31), (13, 45)] u, L, I, P, E, N), sgM g) t) (FR g ((J, L, I, P, E, N), sgM g) sz)) 0 0 (FR g ((J, L, I, P, E, N), sgM g) sz) := by
  refine ent (by decide +kernel) (Nat.le_of_ble_eq_true rfl) ?_
  intro p e s m below meth c ls hsz C hW hr hlocks hname hl
  generalize FR g ((J, L, I, P, E, N), sgM g) sz = A at C hW ⊢
  generalize hQ9 : (va_Qi (fun (r : Int32) (u : (Nat → Nat → Int32)) => WM (hv J [114, 115, 116, 117, 118, 119, 120] [(13, 31), (13, 45)] u) ∧ ((r.toInt = (J 13 31).toInt)) ∧ ((u 13 31).toInt = (J 13 31).toInt + 1) ∧ (∃ v : Int32, v.toInt = (if 0 ≤ (J 114 a1.toNatClampNeg).toInt ∧ (J 114 a1.toNatClampNeg).toInt = (J 13 31).toInt - 1 then (J 115 a1.toNatClampNeg).toInt + 1 else 1) ∧ u 115 = up2 J 115 a1.toNatClampNeg v 115) ∧ (u 114 = up2 J 114 a1.toNatClampNeg (J 13 31) 114) ∧ (u 116 = up2 J 116 (J 13 31).toNatClampNeg a0 116) ∧ (u 117 = up2 J 117 (J 13 31).toNatClampNeg a1 117) ∧ (u 118 = up2 J 118 (J 13 31).toNatClampNeg (J 113 a1.toNatClampNeg) 118) ∧ (u 119 = up2 J 119 (J 13 31).toNatClampNeg a2 119) ∧ (u 120 = up2 J 120 (J 13 31).toNatClampNeg (J 13 33) 120)) (fun u t => at_ g A ((hv J [114, 115, 116, 117, 118, 119, 120] [(13, 31), (13, 45)] u, L, I, P, E, N), sgM g) t) A) = Q9
  have hx := C.1.1
  have hb := C.1.2.1
  have hts := C.1.2.2.2.2
  have hW : WB g A s.heap s.heap [] (J, L, I, P, E, N) (sgM g) := hW
  have hl : lv_has ls 4 [(0, .ref (g.2.2.1 13)), (1, .int a0), (2, .int a1), (3, .int a2)] := hl
  obtain ⟨H, hH⟩ : ∃ H : Heap, H = s.heap := ⟨_, rfl⟩
  obtain ⟨locs, hlocs⟩ : ∃ q : List Loc, q = [] := ⟨_, rfl⟩
  have hW : WB g A s.heap H locs (J, L, I, P, E, N) (sgM g) := by rw [hH, hlocs]; exact hW
  obtain ⟨⟨hnd1, hnd2, hon, hhm1, hhm2, hhN, hcu1, hcu2, hco1, hco2, hcN⟩, ⟨hrd1, hrd2⟩, ⟨hnw1, hnw2, hns1, hns2, hof⟩, ⟨htm1, htm2, hts_⟩, ⟨had1, had2, hrw1, hrw2, htp1, htp2⟩⟩ := id hwm
  refine start_ hH hlocs ?_
  refine lv_aload_n hx hb dX12_reads_0 rfl (lv_at hl 0 rfl) ?_
  refine rg_13_15 C hW (mm_ rfl) tw_1038 dX12_reads_1 ?_
  refine lv_iload_n hx hb dX12_reads_4 rfl (lv_at hl 2 rfl) ?_
  refine lv_aload_n hx hb dX12_reads_5 rfl (lv_at hl 0 rfl) ?_
  refine rg_13_14 C hW (mm_ rfl) tw_1037 dX12_reads_6 ?_
  refine lv_iload_n hx hb dX12_reads_9 rfl (lv_at hl 2 rfl) ?_
  have hin : vp_in a1 8 := tin rfl (by omega)
  refine ra_114 C hW (mm_ rfl) hin dX12_reads_10 ?_
  refine lv_topi (fun x1 (e1 : x1 = J 114 a1.toNatClampNeg) => ?_)
  have t1 : x1.toInt = (J 114 a1.toNatClampNeg).toInt := by rw [e1]
  refine lv_if_lt (tgt := 40) hx hb dX12_reads_11 (by decide) (fun c2 => ?_) (fun c2 => ?_)
  · have c2 : x1.toInt < 0 := tlt rfl kp0 c2
    refine lv_iconst (v := 1) hx hb dX12_reads_40 (by decide) ?_
    have hin : vp_in a1 8 := tin rfl (by omega)
    refine rs_115 C hW (mm_ rfl) hin dX12_reads_41 (fun H locs hW => ?_)
    refine lv_aload_n hx hb dX12_reads_42 rfl (lv_at hl 0 rfl) ?_
    refine rg_13_14 C hW (mm_ rfl) tw_1037 dX12_reads_43 ?_
    refine lv_iload_n hx hb dX12_reads_46 rfl (lv_at hl 2 rfl) ?_
    refine lv_aload_n hx hb dX12_reads_47 rfl (lv_at hl 0 rfl) ?_
    refine rg_13_31 C hW (mm_ rfl) tw_1054 dX12_reads_48 ?_
    refine lv_as (J 13 31) rfl ?_
    have hin : vp_in a1 8 := tin rfl (by omega)
    refine rs_114 C hW (mm_ rfl) hin dX12_reads_51 (fun H locs hW => ?_)
    refine lv_aload_n hx hb dX12_reads_52 rfl (lv_at hl 0 rfl) ?_
    refine lv_dup hx hb dX12_reads_53 rfl ?_
    refine rg_13_45 C hW (mm_ rfl) tw_1068 dX12_reads_54 ?_
    refine lv_as (J 13 45) rfl ?_
    refine lv_iload_n hx hb dX12_reads_57 rfl (lv_at hl 1 rfl) ?_
    refine lv_iconst (v := 4) hx hb dX12_reads_58 (by decide) ?_
    refine lv_icmp_ne (tgt := 66) hx hb dX12_reads_59 (by decide) (fun c3 => ?_) (fun c3 => ?_)
    · have c3 : ¬ a0.toInt = 4 := tne rfl kp4 c3
      refine lv_iconst (v := 0) hx hb dX12_reads_66 (by decide) ?_
      refine lv_iadd hx hb dX12_reads_67 ?_
      refine lv_topi (fun x4 (e4 : x4 = (J 13 45) + 0) => ?_)
      refine rp_13_45 C hW (mm_ rfl) tw_1068 dX12_reads_68 (fun H locs hW => ?_)
      refine lv_aload_n hx hb dX12_reads_71 rfl (lv_at hl 0 rfl) ?_
      refine lv_iload_n hx hb dX12_reads_72 rfl (lv_at hl 1 rfl) ?_
      refine lv_iload_n hx hb dX12_reads_73 rfl (lv_at hl 2 rfl) ?_
      refine lv_aload_n hx hb dX12_reads_74 rfl (lv_at hl 0 rfl) ?_
      refine rg_13_13 C hW (mm_ rfl) tw_1036 dX12_reads_75 ?_
      refine lv_iload_n hx hb dX12_reads_78 rfl (lv_at hl 2 rfl) ?_
      have hin : vp_in a1 8 := tin rfl (by omega)
      refine ra_113 C hW (mm_ rfl) hin dX12_reads_79 ?_
      refine lv_topi (fun x5 (e5 : x5 = J 113 a1.toNatClampNeg) => ?_)
      refine lv_iload_n hx hb dX12_reads_80 rfl (lv_at hl 3 rfl) ?_
      refine ci_ C hW (runV (x := (g.2.2.1 13)) (As := [.int a0, .int a1, .int x5, .int a2]) (rest := []) (T := (((up2 (up2 (up2 J 115 a1.toNatClampNeg 1) 114 a1.toNatClampNeg (J 13 31)) 13 45 x4), L, I, P, E, N), sgM g)) C hW (c_X12_goesBy_e l g (up2 (up2 (up2 J 115 a1.toNatClampNeg 1) 114 a1.toNatClampNeg (J 13 31)) 13 45 x4) L I P E N H.size a0 a1 x5 a2 hwm (show (J 13 31).toInt ≤ 9998 from by omega) (show a0.toInt = 0 → a2.toInt < 40 from by exact ho)) mi_X12_goesBy tw_1243 (recv_ (T := (((up2 (up2 (up2 J 115 a1.toNatClampNeg 1) 114 a1.toNatClampNeg (J 13 31)) 13 45 x4), L, I, P, E, N), sgM g)) C hW (mm_ rfl) rfl rfl) ⟨rfl, rfl, Nat.le_of_ble_eq_true rfl, Nat.le_of_ble_eq_true rfl⟩ rfl hl.1 rfl (Nat.le_of_ble_eq_true rfl) dX12_reads_81 ⟨Nat.le_of_ble_eq_true rfl, Nat.le_of_ble_eq_true rfl⟩) (fun r6 u6 H locs hp6 hW => ?_)
      obtain ⟨hwm, hc6, hf6_0, hf6_1, hf6_2, hf6_3, hf6_4, hf6_5⟩ : WM (hv (up2 (up2 (up2 J 115 a1.toNatClampNeg 1) 114 a1.toNatClampNeg (J 13 31)) 13 45 x4) [116, 117, 118, 119, 120] [(13, 31)] u6) ∧ ((r6.toInt = (J 13 31).toInt)) ∧ ((u6 13 31).toInt = (J 13 31).toInt + 1) ∧ (u6 116 = up2 J 116 (J 13 31).toNatClampNeg a0 116) ∧ (u6 117 = up2 J 117 (J 13 31).toNatClampNeg a1 117) ∧ (u6 118 = up2 J 118 (J 13 31).toNatClampNeg x5 118) ∧ (u6 119 = up2 J 119 (J 13 31).toNatClampNeg a2 119) ∧ (u6 120 = up2 J 120 (J 13 31).toNatClampNeg (J 13 33) 120) := hp6
      have hwm : WM (hv (up2 (up2 (up2 J 115 a1.toNatClampNeg 1) 114 a1.toNatClampNeg (J 13 31)) 13 45 x4) [116, 117, 118, 119, 120] [(13, 31)] u6) := hwm
      have hW : WB g A s.heap H locs ((hv (up2 (up2 (up2 J 115 a1.toNatClampNeg 1) 114 a1.toNatClampNeg (J 13 31)) 13 45 x4) [116, 117, 118, 119, 120] [(13, 31)] u6), L, I, P, E, N) (sgM g) := hW
      have hG0 := hf6_0
      have hG1 := hf6_1
      have hG2 := hf6_2
      have hG3 := hf6_3
      have hG4 := hf6_4
      have hG5 := hf6_5
      have hWr : WB g A s.heap H locs (hv J [114, 115, 116, 117, 118, 119, 120] [(13, 31), (13, 45)] (hv (up2 (up2 (up2 J 115 a1.toNatClampNeg 1) 114 a1.toNatClampNeg (J 13 31)) 13 45 x4) [116, 117, 118, 119, 120] [(13, 31)] u6), L, I, P, E, N) (sgM g) := by
        rw [← ag_hvE (J := J) (R := [114, 115, 116, 117, 118, 119, 120]) (F := [(13, 31), (13, 45)]) (ag_hv rfl rfl (ag_up (Or.inr rfl) (ag_up (Or.inl rfl) (ag_up (Or.inl rfl) ag_rf))))]
        exact hW
      have hwmr : WM (hv (up2 (up2 (up2 J 115 a1.toNatClampNeg 1) 114 a1.toNatClampNeg (J 13 31)) 13 45 x4) [116, 117, 118, 119, 120] [(13, 31)] u6) := by exact hwm
      have hwmr : WM (hv J [114, 115, 116, 117, 118, 119, 120] [(13, 31), (13, 45)] (hv (up2 (up2 (up2 J 115 a1.toNatClampNeg 1) 114 a1.toNatClampNeg (J 13 31)) 13 45 x4) [116, 117, 118, 119, 120] [(13, 31)] u6)) := by
        rw [← ag_hvE (J := J) (R := [114, 115, 116, 117, 118, 119, 120]) (F := [(13, 31), (13, 45)]) (ag_hv rfl rfl (ag_up (Or.inr rfl) (ag_up (Or.inl rfl) (ag_up (Or.inl rfl) ag_rf))))]; exact hwmr
      subst hQ9
      exact end_i C hr hlocks (hv (up2 (up2 (up2 J 115 a1.toNatClampNeg 1) 114 a1.toNatClampNeg (J 13 31)) 13 45 x4) [116, 117, 118, 119, 120] [(13, 31)] u6) hWr ⟨hwmr, by first | omega | exact (by omega), show (u6 13 31).toInt = (J 13 31).toInt + 1 from by exact hG0, show ∃ v : Int32, v.toInt = (if 0 ≤ (J 114 a1.toNatClampNeg).toInt ∧ (J 114 a1.toNatClampNeg).toInt = (J 13 31).toInt - 1 then (J 115 a1.toNatClampNeg).toInt + 1 else 1) ∧ (up2 J 115 a1.toNatClampNeg 1) 115 = up2 J 115 a1.toNatClampNeg v 115 from by first | exact ⟨_, (by rw [if_pos (by omega)]; omega), rfl⟩ | exact ⟨_, (by rw [if_neg (by omega)]; exact kp1), rfl⟩, show (up2 J 114 a1.toNatClampNeg (J 13 31)) 114 = up2 J 114 a1.toNatClampNeg (J 13 31) 114 from by rfl, show u6 116 = up2 J 116 (J 13 31).toNatClampNeg a0 116 from by exact hG1, show u6 117 = up2 J 117 (J 13 31).toNatClampNeg a1 117 from by exact hG2, show u6 118 = up2 J 118 (J 13 31).toNatClampNeg (J 113 a1.toNatClampNeg) 118 from by rw [← e5]; exact hG3, show u6 119 = up2 J 119 (J 13 31).toNatClampNeg a2 119 from by exact hG4, show u6 120 = up2 J 120 (J 13 31).toNatClampNeg (J 13 33) 120 from by exact hG5⟩ dX12_reads_84
    · have c3 : a0.toInt = 4 := teq rfl kp4 c3
      refine lv_iconst (v := 1) hx hb dX12_reads_62 (by decide) ?_
      refine lv_goto (tgt := 67) hx hb dX12_reads_63 (by decide) ?_
      refine lv_iadd hx hb dX12_reads_67 ?_
      refine lv_topi (fun x7 (e7 : x7 = (J 13 45) + 1) => ?_)
      refine rp_13_45 C hW (mm_ rfl) tw_1068 dX12_reads_68 (fun H locs hW => ?_)
      refine lv_aload_n hx hb dX12_reads_71 rfl (lv_at hl 0 rfl) ?_
      refine lv_iload_n hx hb dX12_reads_72 rfl (lv_at hl 1 rfl) ?_
      refine lv_iload_n hx hb dX12_reads_73 rfl (lv_at hl 2 rfl) ?_
      refine lv_aload_n hx hb dX12_reads_74 rfl (lv_at hl 0 rfl) ?_
      refine rg_13_13 C hW (mm_ rfl) tw_1036 dX12_reads_75 ?_
      refine lv_iload_n hx hb dX12_reads_78 rfl (lv_at hl 2 rfl) ?_
      have hin : vp_in a1 8 := tin rfl (by omega)
      refine ra_113 C hW (mm_ rfl) hin dX12_reads_79 ?_
      refine lv_topi (fun x8 (e8 : x8 = J 113 a1.toNatClampNeg) => ?_)
      refine lv_iload_n hx hb dX12_reads_80 rfl (lv_at hl 3 rfl) ?_
      refine ci_ C hW (runV (x := (g.2.2.1 13)) (As := [.int a0, .int a1, .int x8, .int a2]) (rest := []) (T := (((up2 (up2 (up2 J 115 a1.toNatClampNeg 1) 114 a1.toNatClampNeg (J 13 31)) 13 45 x7), L, I, P, E, N), sgM g)) C hW (c_X12_goesBy_e l g (up2 (up2 (up2 J 115 a1.toNatClampNeg 1) 114 a1.toNatClampNeg (J 13 31)) 13 45 x7) L I P E N H.size a0 a1 x8 a2 hwm (show (J 13 31).toInt ≤ 9998 from by omega) (show a0.toInt = 0 → a2.toInt < 40 from by exact ho)) mi_X12_goesBy tw_1243 (recv_ (T := (((up2 (up2 (up2 J 115 a1.toNatClampNeg 1) 114 a1.toNatClampNeg (J 13 31)) 13 45 x7), L, I, P, E, N), sgM g)) C hW (mm_ rfl) rfl rfl) ⟨rfl, rfl, Nat.le_of_ble_eq_true rfl, Nat.le_of_ble_eq_true rfl⟩ rfl hl.1 rfl (Nat.le_of_ble_eq_true rfl) dX12_reads_81 ⟨Nat.le_of_ble_eq_true rfl, Nat.le_of_ble_eq_true rfl⟩) (fun r9 u9 H locs hp9 hW => ?_)
      obtain ⟨hwm, hc9, hf9_0, hf9_1, hf9_2, hf9_3, hf9_4, hf9_5⟩ : WM (hv (up2 (up2 (up2 J 115 a1.toNatClampNeg 1) 114 a1.toNatClampNeg (J 13 31)) 13 45 x7) [116, 117, 118, 119, 120] [(13, 31)] u9) ∧ ((r9.toInt = (J 13 31).toInt)) ∧ ((u9 13 31).toInt = (J 13 31).toInt + 1) ∧ (u9 116 = up2 J 116 (J 13 31).toNatClampNeg a0 116) ∧ (u9 117 = up2 J 117 (J 13 31).toNatClampNeg a1 117) ∧ (u9 118 = up2 J 118 (J 13 31).toNatClampNeg x8 118) ∧ (u9 119 = up2 J 119 (J 13 31).toNatClampNeg a2 119) ∧ (u9 120 = up2 J 120 (J 13 31).toNatClampNeg (J 13 33) 120) := hp9
      have hwm : WM (hv (up2 (up2 (up2 J 115 a1.toNatClampNeg 1) 114 a1.toNatClampNeg (J 13 31)) 13 45 x7) [116, 117, 118, 119, 120] [(13, 31)] u9) := hwm
      have hW : WB g A s.heap H locs ((hv (up2 (up2 (up2 J 115 a1.toNatClampNeg 1) 114 a1.toNatClampNeg (J 13 31)) 13 45 x7) [116, 117, 118, 119, 120] [(13, 31)] u9), L, I, P, E, N) (sgM g) := hW
      have hG0 := hf9_0
      have hG1 := hf9_1
      have hG2 := hf9_2
      have hG3 := hf9_3
      have hG4 := hf9_4
      have hG5 := hf9_5
      have hWr : WB g A s.heap H locs (hv J [114, 115, 116, 117, 118, 119, 120] [(13, 31), (13, 45)] (hv (up2 (up2 (up2 J 115 a1.toNatClampNeg 1) 114 a1.toNatClampNeg (J 13 31)) 13 45 x7) [116, 117, 118, 119, 120] [(13, 31)] u9), L, I, P, E, N) (sgM g) := by
        rw [← ag_hvE (J := J) (R := [114, 115, 116, 117, 118, 119, 120]) (F := [(13, 31), (13, 45)]) (ag_hv rfl rfl (ag_up (Or.inr rfl) (ag_up (Or.inl rfl) (ag_up (Or.inl rfl) ag_rf))))]
        exact hW
      have hwmr : WM (hv (up2 (up2 (up2 J 115 a1.toNatClampNeg 1) 114 a1.toNatClampNeg (J 13 31)) 13 45 x7) [116, 117, 118, 119, 120] [(13, 31)] u9) := by exact hwm
      have hwmr : WM (hv J [114, 115, 116, 117, 118, 119, 120] [(13, 31), (13, 45)] (hv (up2 (up2 (up2 J 115 a1.toNatClampNeg 1) 114 a1.toNatClampNeg (J 13 31)) 13 45 x7) [116, 117, 118, 119, 120] [(13, 31)] u9)) := by
        rw [← ag_hvE (J := J) (R := [114, 115, 116, 117, 118, 119, 120]) (F := [(13, 31), (13, 45)]) (ag_hv rfl rfl (ag_up (Or.inr rfl) (ag_up (Or.inl rfl) (ag_up (Or.inl rfl) ag_rf))))]; exact hwmr
      subst hQ9
      exact end_i C hr hlocks (hv (up2 (up2 (up2 J 115 a1.toNatClampNeg 1) 114 a1.toNatClampNeg (J 13 31)) 13 45 x7) [116, 117, 118, 119, 120] [(13, 31)] u9) hWr ⟨hwmr, by first | omega | exact (by omega), show (u9 13 31).toInt = (J 13 31).toInt + 1 from by exact hG0, show ∃ v : Int32, v.toInt = (if 0 ≤ (J 114 a1.toNatClampNeg).toInt ∧ (J 114 a1.toNatClampNeg).toInt = (J 13 31).toInt - 1 then (J 115 a1.toNatClampNeg).toInt + 1 else 1) ∧ (up2 J 115 a1.toNatClampNeg 1) 115 = up2 J 115 a1.toNatClampNeg v 115 from by first | exact ⟨_, (by rw [if_pos (by omega)]; omega), rfl⟩ | exact ⟨_, (by rw [if_neg (by omega)]; exact kp1), rfl⟩, show (up2 J 114 a1.toNatClampNeg (J 13 31)) 114 = up2 J 114 a1.toNatClampNeg (J 13 31) 114 from by rfl, show u9 116 = up2 J 116 (J 13 31).toNatClampNeg a0 116 from by exact hG1, show u9 117 = up2 J 117 (J 13 31).toNatClampNeg a1 117 from by exact hG2, show u9 118 = up2 J 118 (J 13 31).toNatClampNeg (J 113 a1.toNatClampNeg) 118 from by rw [← e8]; exact hG3, show u9 119 = up2 J 119 (J 13 31).toNatClampNeg a2 119 from by exact hG4, show u9 120 = up2 J 120 (J 13 31).toNatClampNeg (J 13 33) 120 from by exact hG5⟩ dX12_reads_84
  · have c2 : 0 ≤ x1.toInt := tnlt rfl kp0 c2
    refine lv_aload_n hx hb dX12_reads_14 rfl (lv_at hl 0 rfl) ?_
    refine rg_13_14 C hW (mm_ rfl) tw_1037 dX12_reads_15 ?_
    refine lv_iload_n hx hb dX12_reads_18 rfl (lv_at hl 2 rfl) ?_
    have hin : vp_in a1 8 := tin rfl (by omega)
    refine ra_114 C hW (mm_ rfl) hin dX12_reads_19 ?_
    refine lv_topi (fun x10 (e10 : x10 = J 114 a1.toNatClampNeg) => ?_)
    have t10 : x10.toInt = (J 114 a1.toNatClampNeg).toInt := by rw [e10]
    refine lv_aload_n hx hb dX12_reads_20 rfl (lv_at hl 0 rfl) ?_
    refine rg_13_31 C hW (mm_ rfl) tw_1054 dX12_reads_21 ?_
    refine lv_iconst (v := 1) hx hb dX12_reads_24 (by decide) ?_
    refine lv_isub hx hb dX12_reads_25 ?_
    refine lv_topi (fun x11 (e11 : x11 = (J 13 31) - 1) => ?_)
    try have t11 : x11.toInt = (J 13 31).toInt - 1 := tsub e11 rfl kp1 (by omega)
    refine lv_icmp_ne (tgt := 40) hx hb dX12_reads_26 (by decide) (fun c12 => ?_) (fun c12 => ?_)
    · have c12 : ¬ x10.toInt = x11.toInt := tne rfl rfl c12
      refine lv_iconst (v := 1) hx hb dX12_reads_40 (by decide) ?_
      have hin : vp_in a1 8 := tin rfl (by omega)
      refine rs_115 C hW (mm_ rfl) hin dX12_reads_41 (fun H locs hW => ?_)
      refine lv_aload_n hx hb dX12_reads_42 rfl (lv_at hl 0 rfl) ?_
      refine rg_13_14 C hW (mm_ rfl) tw_1037 dX12_reads_43 ?_
      refine lv_iload_n hx hb dX12_reads_46 rfl (lv_at hl 2 rfl) ?_
      refine lv_aload_n hx hb dX12_reads_47 rfl (lv_at hl 0 rfl) ?_
      refine rg_13_31 C hW (mm_ rfl) tw_1054 dX12_reads_48 ?_
      refine lv_as (J 13 31) rfl ?_
      have hin : vp_in a1 8 := tin rfl (by omega)
      refine rs_114 C hW (mm_ rfl) hin dX12_reads_51 (fun H locs hW => ?_)
      refine lv_aload_n hx hb dX12_reads_52 rfl (lv_at hl 0 rfl) ?_
      refine lv_dup hx hb dX12_reads_53 rfl ?_
      refine rg_13_45 C hW (mm_ rfl) tw_1068 dX12_reads_54 ?_
      refine lv_as (J 13 45) rfl ?_
      refine lv_iload_n hx hb dX12_reads_57 rfl (lv_at hl 1 rfl) ?_
      refine lv_iconst (v := 4) hx hb dX12_reads_58 (by decide) ?_
      refine lv_icmp_ne (tgt := 66) hx hb dX12_reads_59 (by decide) (fun c13 => ?_) (fun c13 => ?_)
      · have c13 : ¬ a0.toInt = 4 := tne rfl kp4 c13
        refine lv_iconst (v := 0) hx hb dX12_reads_66 (by decide) ?_
        refine lv_iadd hx hb dX12_reads_67 ?_
        refine lv_topi (fun x14 (e14 : x14 = (J 13 45) + 0) => ?_)
        refine rp_13_45 C hW (mm_ rfl) tw_1068 dX12_reads_68 (fun H locs hW => ?_)
        refine lv_aload_n hx hb dX12_reads_71 rfl (lv_at hl 0 rfl) ?_
        refine lv_iload_n hx hb dX12_reads_72 rfl (lv_at hl 1 rfl) ?_
        refine lv_iload_n hx hb dX12_reads_73 rfl (lv_at hl 2 rfl) ?_
        refine lv_aload_n hx hb dX12_reads_74 rfl (lv_at hl 0 rfl) ?_
        refine rg_13_13 C hW (mm_ rfl) tw_1036 dX12_reads_75 ?_
        refine lv_iload_n hx hb dX12_reads_78 rfl (lv_at hl 2 rfl) ?_
        have hin : vp_in a1 8 := tin rfl (by omega)
        refine ra_113 C hW (mm_ rfl) hin dX12_reads_79 ?_
        refine lv_topi (fun x15 (e15 : x15 = J 113 a1.toNatClampNeg) => ?_)
        refine lv_iload_n hx hb dX12_reads_80 rfl (lv_at hl 3 rfl) ?_
        refine ci_ C hW (runV (x := (g.2.2.1 13)) (As := [.int a0, .int a1, .int x15, .int a2]) (rest := []) (T := (((up2 (up2 (up2 J 115 a1.toNatClampNeg 1) 114 a1.toNatClampNeg (J 13 31)) 13 45 x14), L, I, P, E, N), sgM g)) C hW (c_X12_goesBy_e l g (up2 (up2 (up2 J 115 a1.toNatClampNeg 1) 114 a1.toNatClampNeg (J 13 31)) 13 45 x14) L I P E N H.size a0 a1 x15 a2 hwm (show (J 13 31).toInt ≤ 9998 from by omega) (show a0.toInt = 0 → a2.toInt < 40 from by exact ho)) mi_X12_goesBy tw_1243 (recv_ (T := (((up2 (up2 (up2 J 115 a1.toNatClampNeg 1) 114 a1.toNatClampNeg (J 13 31)) 13 45 x14), L, I, P, E, N), sgM g)) C hW (mm_ rfl) rfl rfl) ⟨rfl, rfl, Nat.le_of_ble_eq_true rfl, Nat.le_of_ble_eq_true rfl⟩ rfl hl.1 rfl (Nat.le_of_ble_eq_true rfl) dX12_reads_81 ⟨Nat.le_of_ble_eq_true rfl, Nat.le_of_ble_eq_true rfl⟩) (fun r16 u16 H locs hp16 hW => ?_)
        obtain ⟨hwm, hc16, hf16_0, hf16_1, hf16_2, hf16_3, hf16_4, hf16_5⟩ : WM (hv (up2 (up2 (up2 J 115 a1.toNatClampNeg 1) 114 a1.toNatClampNeg (J 13 31)) 13 45 x14) [116, 117, 118, 119, 120] [(13, 31)] u16) ∧ ((r16.toInt = (J 13 31).toInt)) ∧ ((u16 13 31).toInt = (J 13 31).toInt + 1) ∧ (u16 116 = up2 J 116 (J 13 31).toNatClampNeg a0 116) ∧ (u16 117 = up2 J 117 (J 13 31).toNatClampNeg a1 117) ∧ (u16 118 = up2 J 118 (J 13 31).toNatClampNeg x15 118) ∧ (u16 119 = up2 J 119 (J 13 31).toNatClampNeg a2 119) ∧ (u16 120 = up2 J 120 (J 13 31).toNatClampNeg (J 13 33) 120) := hp16
        have hwm : WM (hv (up2 (up2 (up2 J 115 a1.toNatClampNeg 1) 114 a1.toNatClampNeg (J 13 31)) 13 45 x14) [116, 117, 118, 119, 120] [(13, 31)] u16) := hwm
        have hW : WB g A s.heap H locs ((hv (up2 (up2 (up2 J 115 a1.toNatClampNeg 1) 114 a1.toNatClampNeg (J 13 31)) 13 45 x14) [116, 117, 118, 119, 120] [(13, 31)] u16), L, I, P, E, N) (sgM g) := hW
        have hG0 := hf16_0
        have hG1 := hf16_1
        have hG2 := hf16_2
        have hG3 := hf16_3
        have hG4 := hf16_4
        have hG5 := hf16_5
        have hWr : WB g A s.heap H locs (hv J [114, 115, 116, 117, 118, 119, 120] [(13, 31), (13, 45)] (hv (up2 (up2 (up2 J 115 a1.toNatClampNeg 1) 114 a1.toNatClampNeg (J 13 31)) 13 45 x14) [116, 117, 118, 119, 120] [(13, 31)] u16), L, I, P, E, N) (sgM g) := by
          rw [← ag_hvE (J := J) (R := [114, 115, 116, 117, 118, 119, 120]) (F := [(13, 31), (13, 45)]) (ag_hv rfl rfl (ag_up (Or.inr rfl) (ag_up (Or.inl rfl) (ag_up (Or.inl rfl) ag_rf))))]
          exact hW
        have hwmr : WM (hv (up2 (up2 (up2 J 115 a1.toNatClampNeg 1) 114 a1.toNatClampNeg (J 13 31)) 13 45 x14) [116, 117, 118, 119, 120] [(13, 31)] u16) := by exact hwm
        have hwmr : WM (hv J [114, 115, 116, 117, 118, 119, 120] [(13, 31), (13, 45)] (hv (up2 (up2 (up2 J 115 a1.toNatClampNeg 1) 114 a1.toNatClampNeg (J 13 31)) 13 45 x14) [116, 117, 118, 119, 120] [(13, 31)] u16)) := by
          rw [← ag_hvE (J := J) (R := [114, 115, 116, 117, 118, 119, 120]) (F := [(13, 31), (13, 45)]) (ag_hv rfl rfl (ag_up (Or.inr rfl) (ag_up (Or.inl rfl) (ag_up (Or.inl rfl) ag_rf))))]; exact hwmr
        subst hQ9
        exact end_i C hr hlocks (hv (up2 (up2 (up2 J 115 a1.toNatClampNeg 1) 114 a1.toNatClampNeg (J 13 31)) 13 45 x14) [116, 117, 118, 119, 120] [(13, 31)] u16) hWr ⟨hwmr, by first | omega | exact (by omega), show (u16 13 31).toInt = (J 13 31).toInt + 1 from by exact hG0, show ∃ v : Int32, v.toInt = (if 0 ≤ (J 114 a1.toNatClampNeg).toInt ∧ (J 114 a1.toNatClampNeg).toInt = (J 13 31).toInt - 1 then (J 115 a1.toNatClampNeg).toInt + 1 else 1) ∧ (up2 J 115 a1.toNatClampNeg 1) 115 = up2 J 115 a1.toNatClampNeg v 115 from by first | exact ⟨_, (by rw [if_pos (by omega)]; omega), rfl⟩ | exact ⟨_, (by rw [if_neg (by omega)]; exact kp1), rfl⟩, show (up2 J 114 a1.toNatClampNeg (J 13 31)) 114 = up2 J 114 a1.toNatClampNeg (J 13 31) 114 from by rfl, show u16 116 = up2 J 116 (J 13 31).toNatClampNeg a0 116 from by exact hG1, show u16 117 = up2 J 117 (J 13 31).toNatClampNeg a1 117 from by exact hG2, show u16 118 = up2 J 118 (J 13 31).toNatClampNeg (J 113 a1.toNatClampNeg) 118 from by rw [← e15]; exact hG3, show u16 119 = up2 J 119 (J 13 31).toNatClampNeg a2 119 from by exact hG4, show u16 120 = up2 J 120 (J 13 31).toNatClampNeg (J 13 33) 120 from by exact hG5⟩ dX12_reads_84
      · have c13 : a0.toInt = 4 := teq rfl kp4 c13
        refine lv_iconst (v := 1) hx hb dX12_reads_62 (by decide) ?_
        refine lv_goto (tgt := 67) hx hb dX12_reads_63 (by decide) ?_
        refine lv_iadd hx hb dX12_reads_67 ?_
        refine lv_topi (fun x17 (e17 : x17 = (J 13 45) + 1) => ?_)
        refine rp_13_45 C hW (mm_ rfl) tw_1068 dX12_reads_68 (fun H locs hW => ?_)
        refine lv_aload_n hx hb dX12_reads_71 rfl (lv_at hl 0 rfl) ?_
        refine lv_iload_n hx hb dX12_reads_72 rfl (lv_at hl 1 rfl) ?_
        refine lv_iload_n hx hb dX12_reads_73 rfl (lv_at hl 2 rfl) ?_
        refine lv_aload_n hx hb dX12_reads_74 rfl (lv_at hl 0 rfl) ?_
        refine rg_13_13 C hW (mm_ rfl) tw_1036 dX12_reads_75 ?_
        refine lv_iload_n hx hb dX12_reads_78 rfl (lv_at hl 2 rfl) ?_
        have hin : vp_in a1 8 := tin rfl (by omega)
        refine ra_113 C hW (mm_ rfl) hin dX12_reads_79 ?_
        refine lv_topi (fun x18 (e18 : x18 = J 113 a1.toNatClampNeg) => ?_)
        refine lv_iload_n hx hb dX12_reads_80 rfl (lv_at hl 3 rfl) ?_
        refine ci_ C hW (runV (x := (g.2.2.1 13)) (As := [.int a0, .int a1, .int x18, .int a2]) (rest := []) (T := (((up2 (up2 (up2 J 115 a1.toNatClampNeg 1) 114 a1.toNatClampNeg (J 13 31)) 13 45 x17), L, I, P, E, N), sgM g)) C hW (c_X12_goesBy_e l g (up2 (up2 (up2 J 115 a1.toNatClampNeg 1) 114 a1.toNatClampNeg (J 13 31)) 13 45 x17) L I P E N H.size a0 a1 x18 a2 hwm (show (J 13 31).toInt ≤ 9998 from by omega) (show a0.toInt = 0 → a2.toInt < 40 from by exact ho)) mi_X12_goesBy tw_1243 (recv_ (T := (((up2 (up2 (up2 J 115 a1.toNatClampNeg 1) 114 a1.toNatClampNeg (J 13 31)) 13 45 x17), L, I, P, E, N), sgM g)) C hW (mm_ rfl) rfl rfl) ⟨rfl, rfl, Nat.le_of_ble_eq_true rfl, Nat.le_of_ble_eq_true rfl⟩ rfl hl.1 rfl (Nat.le_of_ble_eq_true rfl) dX12_reads_81 ⟨Nat.le_of_ble_eq_true rfl, Nat.le_of_ble_eq_true rfl⟩) (fun r19 u19 H locs hp19 hW => ?_)
        obtain ⟨hwm, hc19, hf19_0, hf19_1, hf19_2, hf19_3, hf19_4, hf19_5⟩ : WM (hv (up2 (up2 (up2 J 115 a1.toNatClampNeg 1) 114 a1.toNatClampNeg (J 13 31)) 13 45 x17) [116, 117, 118, 119, 120] [(13, 31)] u19) ∧ ((r19.toInt = (J 13 31).toInt)) ∧ ((u19 13 31).toInt = (J 13 31).toInt + 1) ∧ (u19 116 = up2 J 116 (J 13 31).toNatClampNeg a0 116) ∧ (u19 117 = up2 J 117 (J 13 31).toNatClampNeg a1 117) ∧ (u19 118 = up2 J 118 (J 13 31).toNatClampNeg x18 118) ∧ (u19 119 = up2 J 119 (J 13 31).toNatClampNeg a2 119) ∧ (u19 120 = up2 J 120 (J 13 31).toNatClampNeg (J 13 33) 120) := hp19
        have hwm : WM (hv (up2 (up2 (up2 J 115 a1.toNatClampNeg 1) 114 a1.toNatClampNeg (J 13 31)) 13 45 x17) [116, 117, 118, 119, 120] [(13, 31)] u19) := hwm
        have hW : WB g A s.heap H locs ((hv (up2 (up2 (up2 J 115 a1.toNatClampNeg 1) 114 a1.toNatClampNeg (J 13 31)) 13 45 x17) [116, 117, 118, 119, 120] [(13, 31)] u19), L, I, P, E, N) (sgM g) := hW
        have hG0 := hf19_0
        have hG1 := hf19_1
        have hG2 := hf19_2
        have hG3 := hf19_3
        have hG4 := hf19_4
        have hG5 := hf19_5
        have hWr : WB g A s.heap H locs (hv J [114, 115, 116, 117, 118, 119, 120] [(13, 31), (13, 45)] (hv (up2 (up2 (up2 J 115 a1.toNatClampNeg 1) 114 a1.toNatClampNeg (J 13 31)) 13 45 x17) [116, 117, 118, 119, 120] [(13, 31)] u19), L, I, P, E, N) (sgM g) := by
          rw [← ag_hvE (J := J) (R := [114, 115, 116, 117, 118, 119, 120]) (F := [(13, 31), (13, 45)]) (ag_hv rfl rfl (ag_up (Or.inr rfl) (ag_up (Or.inl rfl) (ag_up (Or.inl rfl) ag_rf))))]
          exact hW
        have hwmr : WM (hv (up2 (up2 (up2 J 115 a1.toNatClampNeg 1) 114 a1.toNatClampNeg (J 13 31)) 13 45 x17) [116, 117, 118, 119, 120] [(13, 31)] u19) := by exact hwm
        have hwmr : WM (hv J [114, 115, 116, 117, 118, 119, 120] [(13, 31), (13, 45)] (hv (up2 (up2 (up2 J 115 a1.toNatClampNeg 1) 114 a1.toNatClampNeg (J 13 31)) 13 45 x17) [116, 117, 118, 119, 120] [(13, 31)] u19)) := by
          rw [← ag_hvE (J := J) (R := [114, 115, 116, 117, 118, 119, 120]) (F := [(13, 31), (13, 45)]) (ag_hv rfl rfl (ag_up (Or.inr rfl) (ag_up (Or.inl rfl) (ag_up (Or.inl rfl) ag_rf))))]; exact hwmr
        subst hQ9
        exact end_i C hr hlocks (hv (up2 (up2 (up2 J 115 a1.toNatClampNeg 1) 114 a1.toNatClampNeg (J 13 31)) 13 45 x17) [116, 117, 118, 119, 120] [(13, 31)] u19) hWr ⟨hwmr, by first | omega | exact (by omega), show (u19 13 31).toInt = (J 13 31).toInt + 1 from by exact hG0, show ∃ v : Int32, v.toInt = (if 0 ≤ (J 114 a1.toNatClampNeg).toInt ∧ (J 114 a1.toNatClampNeg).toInt = (J 13 31).toInt - 1 then (J 115 a1.toNatClampNeg).toInt + 1 else 1) ∧ (up2 J 115 a1.toNatClampNeg 1) 115 = up2 J 115 a1.toNatClampNeg v 115 from by first | exact ⟨_, (by rw [if_pos (by omega)]; omega), rfl⟩ | exact ⟨_, (by rw [if_neg (by omega)]; exact kp1), rfl⟩, show (up2 J 114 a1.toNatClampNeg (J 13 31)) 114 = up2 J 114 a1.toNatClampNeg (J 13 31) 114 from by rfl, show u19 116 = up2 J 116 (J 13 31).toNatClampNeg a0 116 from by exact hG1, show u19 117 = up2 J 117 (J 13 31).toNatClampNeg a1 117 from by exact hG2, show u19 118 = up2 J 118 (J 13 31).toNatClampNeg (J 113 a1.toNatClampNeg) 118 from by rw [← e18]; exact hG3, show u19 119 = up2 J 119 (J 13 31).toNatClampNeg a2 119 from by exact hG4, show u19 120 = up2 J 120 (J 13 31).toNatClampNeg (J 13 33) 120 from by exact hG5⟩ dX12_reads_84
    · have c12 : x10.toInt = x11.toInt := teq rfl rfl c12
      refine lv_aload_n hx hb dX12_reads_29 rfl (lv_at hl 0 rfl) ?_
      refine rg_13_15 C hW (mm_ rfl) tw_1038 dX12_reads_30 ?_
      refine lv_iload_n hx hb dX12_reads_33 rfl (lv_at hl 2 rfl) ?_
      have hin : vp_in a1 8 := tin rfl (by omega)
      refine ra_115 C hW (mm_ rfl) hin dX12_reads_34 ?_
      refine lv_topi (fun x20 (e20 : x20 = J 115 a1.toNatClampNeg) => ?_)
      have t20 : x20.toInt = (J 115 a1.toNatClampNeg).toInt := by rw [e20]
      refine lv_iconst (v := 1) hx hb dX12_reads_35 (by decide) ?_
      refine lv_iadd hx hb dX12_reads_36 ?_
      refine lv_topi (fun x21 (e21 : x21 = x20 + 1) => ?_)
      try have t21 : x21.toInt = x20.toInt + 1 := tadd e21 rfl kp1 (by omega)
      refine lv_goto (tgt := 41) hx hb dX12_reads_37 (by decide) ?_
      have hin : vp_in a1 8 := tin rfl (by omega)
      refine rs_115 C hW (mm_ rfl) hin dX12_reads_41 (fun H locs hW => ?_)
      refine lv_aload_n hx hb dX12_reads_42 rfl (lv_at hl 0 rfl) ?_
      refine rg_13_14 C hW (mm_ rfl) tw_1037 dX12_reads_43 ?_
      refine lv_iload_n hx hb dX12_reads_46 rfl (lv_at hl 2 rfl) ?_
      refine lv_aload_n hx hb dX12_reads_47 rfl (lv_at hl 0 rfl) ?_
      refine rg_13_31 C hW (mm_ rfl) tw_1054 dX12_reads_48 ?_
      refine lv_as (J 13 31) rfl ?_
      have hin : vp_in a1 8 := tin rfl (by omega)
      refine rs_114 C hW (mm_ rfl) hin dX12_reads_51 (fun H locs hW => ?_)
      refine lv_aload_n hx hb dX12_reads_52 rfl (lv_at hl 0 rfl) ?_
      refine lv_dup hx hb dX12_reads_53 rfl ?_
      refine rg_13_45 C hW (mm_ rfl) tw_1068 dX12_reads_54 ?_
      refine lv_as (J 13 45) rfl ?_
      refine lv_iload_n hx hb dX12_reads_57 rfl (lv_at hl 1 rfl) ?_
      refine lv_iconst (v := 4) hx hb dX12_reads_58 (by decide) ?_
      refine lv_icmp_ne (tgt := 66) hx hb dX12_reads_59 (by decide) (fun c22 => ?_) (fun c22 => ?_)
      · have c22 : ¬ a0.toInt = 4 := tne rfl kp4 c22
        refine lv_iconst (v := 0) hx hb dX12_reads_66 (by decide) ?_
        refine lv_iadd hx hb dX12_reads_67 ?_
        refine lv_topi (fun x23 (e23 : x23 = (J 13 45) + 0) => ?_)
        refine rp_13_45 C hW (mm_ rfl) tw_1068 dX12_reads_68 (fun H locs hW => ?_)
        refine lv_aload_n hx hb dX12_reads_71 rfl (lv_at hl 0 rfl) ?_
        refine lv_iload_n hx hb dX12_reads_72 rfl (lv_at hl 1 rfl) ?_
        refine lv_iload_n hx hb dX12_reads_73 rfl (lv_at hl 2 rfl) ?_
        refine lv_aload_n hx hb dX12_reads_74 rfl (lv_at hl 0 rfl) ?_
        refine rg_13_13 C hW (mm_ rfl) tw_1036 dX12_reads_75 ?_
        refine lv_iload_n hx hb dX12_reads_78 rfl (lv_at hl 2 rfl) ?_
        have hin : vp_in a1 8 := tin rfl (by omega)
        refine ra_113 C hW (mm_ rfl) hin dX12_reads_79 ?_
        refine lv_topi (fun x24 (e24 : x24 = J 113 a1.toNatClampNeg) => ?_)
        refine lv_iload_n hx hb dX12_reads_80 rfl (lv_at hl 3 rfl) ?_
        refine ci_ C hW (runV (x := (g.2.2.1 13)) (As := [.int a0, .int a1, .int x24, .int a2]) (rest := []) (T := (((up2 (up2 (up2 J 115 a1.toNatClampNeg x21) 114 a1.toNatClampNeg (J 13 31)) 13 45 x23), L, I, P, E, N), sgM g)) C hW (c_X12_goesBy_e l g (up2 (up2 (up2 J 115 a1.toNatClampNeg x21) 114 a1.toNatClampNeg (J 13 31)) 13 45 x23) L I P E N H.size a0 a1 x24 a2 hwm (show (J 13 31).toInt ≤ 9998 from by omega) (show a0.toInt = 0 → a2.toInt < 40 from by exact ho)) mi_X12_goesBy tw_1243 (recv_ (T := (((up2 (up2 (up2 J 115 a1.toNatClampNeg x21) 114 a1.toNatClampNeg (J 13 31)) 13 45 x23), L, I, P, E, N), sgM g)) C hW (mm_ rfl) rfl rfl) ⟨rfl, rfl, Nat.le_of_ble_eq_true rfl, Nat.le_of_ble_eq_true rfl⟩ rfl hl.1 rfl (Nat.le_of_ble_eq_true rfl) dX12_reads_81 ⟨Nat.le_of_ble_eq_true rfl, Nat.le_of_ble_eq_true rfl⟩) (fun r25 u25 H locs hp25 hW => ?_)
        obtain ⟨hwm, hc25, hf25_0, hf25_1, hf25_2, hf25_3, hf25_4, hf25_5⟩ : WM (hv (up2 (up2 (up2 J 115 a1.toNatClampNeg x21) 114 a1.toNatClampNeg (J 13 31)) 13 45 x23) [116, 117, 118, 119, 120] [(13, 31)] u25) ∧ ((r25.toInt = (J 13 31).toInt)) ∧ ((u25 13 31).toInt = (J 13 31).toInt + 1) ∧ (u25 116 = up2 J 116 (J 13 31).toNatClampNeg a0 116) ∧ (u25 117 = up2 J 117 (J 13 31).toNatClampNeg a1 117) ∧ (u25 118 = up2 J 118 (J 13 31).toNatClampNeg x24 118) ∧ (u25 119 = up2 J 119 (J 13 31).toNatClampNeg a2 119) ∧ (u25 120 = up2 J 120 (J 13 31).toNatClampNeg (J 13 33) 120) := hp25
        have hwm : WM (hv (up2 (up2 (up2 J 115 a1.toNatClampNeg x21) 114 a1.toNatClampNeg (J 13 31)) 13 45 x23) [116, 117, 118, 119, 120] [(13, 31)] u25) := hwm
        have hW : WB g A s.heap H locs ((hv (up2 (up2 (up2 J 115 a1.toNatClampNeg x21) 114 a1.toNatClampNeg (J 13 31)) 13 45 x23) [116, 117, 118, 119, 120] [(13, 31)] u25), L, I, P, E, N) (sgM g) := hW
        have hG0 := hf25_0
        have hG1 := hf25_1
        have hG2 := hf25_2
        have hG3 := hf25_3
        have hG4 := hf25_4
        have hG5 := hf25_5
        have hWr : WB g A s.heap H locs (hv J [114, 115, 116, 117, 118, 119, 120] [(13, 31), (13, 45)] (hv (up2 (up2 (up2 J 115 a1.toNatClampNeg x21) 114 a1.toNatClampNeg (J 13 31)) 13 45 x23) [116, 117, 118, 119, 120] [(13, 31)] u25), L, I, P, E, N) (sgM g) := by
          rw [← ag_hvE (J := J) (R := [114, 115, 116, 117, 118, 119, 120]) (F := [(13, 31), (13, 45)]) (ag_hv rfl rfl (ag_up (Or.inr rfl) (ag_up (Or.inl rfl) (ag_up (Or.inl rfl) ag_rf))))]
          exact hW
        have hwmr : WM (hv (up2 (up2 (up2 J 115 a1.toNatClampNeg x21) 114 a1.toNatClampNeg (J 13 31)) 13 45 x23) [116, 117, 118, 119, 120] [(13, 31)] u25) := by exact hwm
        have hwmr : WM (hv J [114, 115, 116, 117, 118, 119, 120] [(13, 31), (13, 45)] (hv (up2 (up2 (up2 J 115 a1.toNatClampNeg x21) 114 a1.toNatClampNeg (J 13 31)) 13 45 x23) [116, 117, 118, 119, 120] [(13, 31)] u25)) := by
          rw [← ag_hvE (J := J) (R := [114, 115, 116, 117, 118, 119, 120]) (F := [(13, 31), (13, 45)]) (ag_hv rfl rfl (ag_up (Or.inr rfl) (ag_up (Or.inl rfl) (ag_up (Or.inl rfl) ag_rf))))]; exact hwmr
        subst hQ9
        exact end_i C hr hlocks (hv (up2 (up2 (up2 J 115 a1.toNatClampNeg x21) 114 a1.toNatClampNeg (J 13 31)) 13 45 x23) [116, 117, 118, 119, 120] [(13, 31)] u25) hWr ⟨hwmr, by first | omega | exact (by omega), show (u25 13 31).toInt = (J 13 31).toInt + 1 from by exact hG0, show ∃ v : Int32, v.toInt = (if 0 ≤ (J 114 a1.toNatClampNeg).toInt ∧ (J 114 a1.toNatClampNeg).toInt = (J 13 31).toInt - 1 then (J 115 a1.toNatClampNeg).toInt + 1 else 1) ∧ (up2 J 115 a1.toNatClampNeg x21) 115 = up2 J 115 a1.toNatClampNeg v 115 from by first | exact ⟨_, (by rw [if_pos (by omega)]; omega), rfl⟩ | exact ⟨_, (by rw [if_neg (by omega)]; exact kp1), rfl⟩, show (up2 J 114 a1.toNatClampNeg (J 13 31)) 114 = up2 J 114 a1.toNatClampNeg (J 13 31) 114 from by rfl, show u25 116 = up2 J 116 (J 13 31).toNatClampNeg a0 116 from by exact hG1, show u25 117 = up2 J 117 (J 13 31).toNatClampNeg a1 117 from by exact hG2, show u25 118 = up2 J 118 (J 13 31).toNatClampNeg (J 113 a1.toNatClampNeg) 118 from by rw [← e24]; exact hG3, show u25 119 = up2 J 119 (J 13 31).toNatClampNeg a2 119 from by exact hG4, show u25 120 = up2 J 120 (J 13 31).toNatClampNeg (J 13 33) 120 from by exact hG5⟩ dX12_reads_84
      · have c22 : a0.toInt = 4 := teq rfl kp4 c22
        refine lv_iconst (v := 1) hx hb dX12_reads_62 (by decide) ?_
        refine lv_goto (tgt := 67) hx hb dX12_reads_63 (by decide) ?_
        refine lv_iadd hx hb dX12_reads_67 ?_
        refine lv_topi (fun x26 (e26 : x26 = (J 13 45) + 1) => ?_)
        refine rp_13_45 C hW (mm_ rfl) tw_1068 dX12_reads_68 (fun H locs hW => ?_)
        refine lv_aload_n hx hb dX12_reads_71 rfl (lv_at hl 0 rfl) ?_
        refine lv_iload_n hx hb dX12_reads_72 rfl (lv_at hl 1 rfl) ?_
        refine lv_iload_n hx hb dX12_reads_73 rfl (lv_at hl 2 rfl) ?_
        refine lv_aload_n hx hb dX12_reads_74 rfl (lv_at hl 0 rfl) ?_
        refine rg_13_13 C hW (mm_ rfl) tw_1036 dX12_reads_75 ?_
        refine lv_iload_n hx hb dX12_reads_78 rfl (lv_at hl 2 rfl) ?_
        have hin : vp_in a1 8 := tin rfl (by omega)
        refine ra_113 C hW (mm_ rfl) hin dX12_reads_79 ?_
        refine lv_topi (fun x27 (e27 : x27 = J 113 a1.toNatClampNeg) => ?_)
        refine lv_iload_n hx hb dX12_reads_80 rfl (lv_at hl 3 rfl) ?_
        refine ci_ C hW (runV (x := (g.2.2.1 13)) (As := [.int a0, .int a1, .int x27, .int a2]) (rest := []) (T := (((up2 (up2 (up2 J 115 a1.toNatClampNeg x21) 114 a1.toNatClampNeg (J 13 31)) 13 45 x26), L, I, P, E, N), sgM g)) C hW (c_X12_goesBy_e l g (up2 (up2 (up2 J 115 a1.toNatClampNeg x21) 114 a1.toNatClampNeg (J 13 31)) 13 45 x26) L I P E N H.size a0 a1 x27 a2 hwm (show (J 13 31).toInt ≤ 9998 from by omega) (show a0.toInt = 0 → a2.toInt < 40 from by exact ho)) mi_X12_goesBy tw_1243 (recv_ (T := (((up2 (up2 (up2 J 115 a1.toNatClampNeg x21) 114 a1.toNatClampNeg (J 13 31)) 13 45 x26), L, I, P, E, N), sgM g)) C hW (mm_ rfl) rfl rfl) ⟨rfl, rfl, Nat.le_of_ble_eq_true rfl, Nat.le_of_ble_eq_true rfl⟩ rfl hl.1 rfl (Nat.le_of_ble_eq_true rfl) dX12_reads_81 ⟨Nat.le_of_ble_eq_true rfl, Nat.le_of_ble_eq_true rfl⟩) (fun r28 u28 H locs hp28 hW => ?_)
        obtain ⟨hwm, hc28, hf28_0, hf28_1, hf28_2, hf28_3, hf28_4, hf28_5⟩ : WM (hv (up2 (up2 (up2 J 115 a1.toNatClampNeg x21) 114 a1.toNatClampNeg (J 13 31)) 13 45 x26) [116, 117, 118, 119, 120] [(13, 31)] u28) ∧ ((r28.toInt = (J 13 31).toInt)) ∧ ((u28 13 31).toInt = (J 13 31).toInt + 1) ∧ (u28 116 = up2 J 116 (J 13 31).toNatClampNeg a0 116) ∧ (u28 117 = up2 J 117 (J 13 31).toNatClampNeg a1 117) ∧ (u28 118 = up2 J 118 (J 13 31).toNatClampNeg x27 118) ∧ (u28 119 = up2 J 119 (J 13 31).toNatClampNeg a2 119) ∧ (u28 120 = up2 J 120 (J 13 31).toNatClampNeg (J 13 33) 120) := hp28
        have hwm : WM (hv (up2 (up2 (up2 J 115 a1.toNatClampNeg x21) 114 a1.toNatClampNeg (J 13 31)) 13 45 x26) [116, 117, 118, 119, 120] [(13, 31)] u28) := hwm
        have hW : WB g A s.heap H locs ((hv (up2 (up2 (up2 J 115 a1.toNatClampNeg x21) 114 a1.toNatClampNeg (J 13 31)) 13 45 x26) [116, 117, 118, 119, 120] [(13, 31)] u28), L, I, P, E, N) (sgM g) := hW
        have hG0 := hf28_0
        have hG1 := hf28_1
        have hG2 := hf28_2
        have hG3 := hf28_3
        have hG4 := hf28_4
        have hG5 := hf28_5
        have hWr : WB g A s.heap H locs (hv J [114, 115, 116, 117, 118, 119, 120] [(13, 31), (13, 45)] (hv (up2 (up2 (up2 J 115 a1.toNatClampNeg x21) 114 a1.toNatClampNeg (J 13 31)) 13 45 x26) [116, 117, 118, 119, 120] [(13, 31)] u28), L, I, P, E, N) (sgM g) := by
          rw [← ag_hvE (J := J) (R := [114, 115, 116, 117, 118, 119, 120]) (F := [(13, 31), (13, 45)]) (ag_hv rfl rfl (ag_up (Or.inr rfl) (ag_up (Or.inl rfl) (ag_up (Or.inl rfl) ag_rf))))]
          exact hW
        have hwmr : WM (hv (up2 (up2 (up2 J 115 a1.toNatClampNeg x21) 114 a1.toNatClampNeg (J 13 31)) 13 45 x26) [116, 117, 118, 119, 120] [(13, 31)] u28) := by exact hwm
        have hwmr : WM (hv J [114, 115, 116, 117, 118, 119, 120] [(13, 31), (13, 45)] (hv (up2 (up2 (up2 J 115 a1.toNatClampNeg x21) 114 a1.toNatClampNeg (J 13 31)) 13 45 x26) [116, 117, 118, 119, 120] [(13, 31)] u28)) := by
          rw [← ag_hvE (J := J) (R := [114, 115, 116, 117, 118, 119, 120]) (F := [(13, 31), (13, 45)]) (ag_hv rfl rfl (ag_up (Or.inr rfl) (ag_up (Or.inl rfl) (ag_up (Or.inl rfl) ag_rf))))]; exact hwmr
        subst hQ9
        exact end_i C hr hlocks (hv (up2 (up2 (up2 J 115 a1.toNatClampNeg x21) 114 a1.toNatClampNeg (J 13 31)) 13 45 x26) [116, 117, 118, 119, 120] [(13, 31)] u28) hWr ⟨hwmr, by first | omega | exact (by omega), show (u28 13 31).toInt = (J 13 31).toInt + 1 from by exact hG0, show ∃ v : Int32, v.toInt = (if 0 ≤ (J 114 a1.toNatClampNeg).toInt ∧ (J 114 a1.toNatClampNeg).toInt = (J 13 31).toInt - 1 then (J 115 a1.toNatClampNeg).toInt + 1 else 1) ∧ (up2 J 115 a1.toNatClampNeg x21) 115 = up2 J 115 a1.toNatClampNeg v 115 from by first | exact ⟨_, (by rw [if_pos (by omega)]; omega), rfl⟩ | exact ⟨_, (by rw [if_neg (by omega)]; exact kp1), rfl⟩, show (up2 J 114 a1.toNatClampNeg (J 13 31)) 114 = up2 J 114 a1.toNatClampNeg (J 13 31) 114 from by rfl, show u28 116 = up2 J 116 (J 13 31).toNatClampNeg a0 116 from by exact hG1, show u28 117 = up2 J 117 (J 13 31).toNatClampNeg a1 117 from by exact hG2, show u28 118 = up2 J 118 (J 13 31).toNatClampNeg (J 113 a1.toNatClampNeg) 118 from by rw [← e27]; exact hG3, show u28 119 = up2 J 119 (J 13 31).toNatClampNeg a2 119 from by exact hG4, show u28 120 = up2 J 120 (J 13 31).toNatClampNeg (J 13 33) 120 from by exact hG5⟩ dX12_reads_84

set_option maxHeartbeats 4000000 in
set_option maxRecDepth 100000 in
theorem c_X12_reader_e (l : Launch) (g : gG) (J : Nat → Nat → Int32) (L : Nat → Nat → Int64) (I : Nat → Nat → Nat → Int32) (P : Nat → Nat → Nat → Option Nat) (E : Nat → Option Nat) (N : Nat → Nat) (sz : Nat) (a0 : Int32) (hwm : WM J) : Met l yX12_reader (WS yX12_reader cX12_reader 3 (some .int)) (RM (3) 0 0) (PC g [.ref (g.2.2.1 13), .int a0] ((J, L, I, P, E, N), sgM g) sz) (va_Qi (fun (r : Int32) (u : (Nat → Nat → Int32)) => WM (hv J [100, 113, 114] [(13, 37)] u) ∧ ((r.toInt = (-4) ∧ (a0.toInt < 1) ∧ u 13 37 = J 13 37 ∧ u 113 = J 113 ∧ u 114 = J 114) ∨ (r.toInt = (-6) ∧ (1 ≤ a0.toInt ∧ (999 < a0.toInt ∨ (J 13 37).toInt = 8)) ∧ u 13 37 = J 13 37 ∧ u 113 = J 113 ∧ u 114 = J 114) ∨ (r.toInt = (J 13 37).toInt ∧ (1 ≤ a0.toInt ∧ a0.toInt ≤ 999 ∧ (J 13 37).toInt ≤ 7) ∧ (u 13 37).toInt = (J 13 37).toInt + 1 ∧ u 113 = up2 J 113 (J 13 37).toNatClampNeg a0 113 ∧ u 114 = up2 J 114 (J 13 37).toNatClampNeg (-9) 114))) (fun u t => at_ g (FR g ((J, L, I, P, E, N), sgM g) sz) ((hv J [100, 113, 114] [(13, 37)] u, L, I, P, E, N), sgM g) t) (FR g ((J, L, I, P, E, N), sgM g) sz)) 0 0 (FR g ((J, L, I, P, E, N), sgM g) sz) := by
  refine ent (by decide +kernel) (Nat.le_of_ble_eq_true rfl) ?_
  intro p e s m below meth c ls hsz C hW hr hlocks hname hl
  generalize FR g ((J, L, I, P, E, N), sgM g) sz = A at C hW ⊢
  generalize hQ9 : (va_Qi (fun (r : Int32) (u : (Nat → Nat → Int32)) => WM (hv J [100, 113, 114] [(13, 37)] u) ∧ ((r.toInt = (-4) ∧ (a0.toInt < 1) ∧ u 13 37 = J 13 37 ∧ u 113 = J 113 ∧ u 114 = J 114) ∨ (r.toInt = (-6) ∧ (1 ≤ a0.toInt ∧ (999 < a0.toInt ∨ (J 13 37).toInt = 8)) ∧ u 13 37 = J 13 37 ∧ u 113 = J 113 ∧ u 114 = J 114) ∨ (r.toInt = (J 13 37).toInt ∧ (1 ≤ a0.toInt ∧ a0.toInt ≤ 999 ∧ (J 13 37).toInt ≤ 7) ∧ (u 13 37).toInt = (J 13 37).toInt + 1 ∧ u 113 = up2 J 113 (J 13 37).toNatClampNeg a0 113 ∧ u 114 = up2 J 114 (J 13 37).toNatClampNeg (-9) 114))) (fun u t => at_ g A ((hv J [100, 113, 114] [(13, 37)] u, L, I, P, E, N), sgM g) t) A) = Q9
  have hx := C.1.1
  have hb := C.1.2.1
  have hts := C.1.2.2.2.2
  have hW : WB g A s.heap s.heap [] (J, L, I, P, E, N) (sgM g) := hW
  have hl : lv_has ls 3 [(0, .ref (g.2.2.1 13)), (1, .int a0)] := hl
  obtain ⟨H, hH⟩ : ∃ H : Heap, H = s.heap := ⟨_, rfl⟩
  obtain ⟨locs, hlocs⟩ : ∃ q : List Loc, q = [] := ⟨_, rfl⟩
  have hW : WB g A s.heap H locs (J, L, I, P, E, N) (sgM g) := by rw [hH, hlocs]; exact hW
  obtain ⟨⟨hnd1, hnd2, hon, hhm1, hhm2, hhN, hcu1, hcu2, hco1, hco2, hcN⟩, ⟨hrd1, hrd2⟩, ⟨hnw1, hnw2, hns1, hns2, hof⟩, ⟨htm1, htm2, hts_⟩, ⟨had1, had2, hrw1, hrw2, htp1, htp2⟩⟩ := id hwm
  refine start_ hH hlocs ?_
  refine lv_iload_n hx hb dX12_reader_0 rfl (lv_at hl 1 rfl) ?_
  refine lv_iconst (v := 1) hx hb dX12_reader_1 (by decide) ?_
  refine lv_sipush (v := 999) hx hb dX12_reader_2 (by decide) ?_
  refine ci_ C hW (runS (As := [.int a0, .int 1, .int 999]) (rest := []) (T := ((J, L, I, P, E, N), sgM g)) C hW (c_X12_within l g J L I P E N H.size a0 1 999 ) mi_X12_within tw_1258 ⟨rfl, rfl, Nat.le_of_ble_eq_true rfl, Nat.le_of_ble_eq_true rfl⟩ rfl hl.1 rfl (Nat.le_of_ble_eq_true rfl) dX12_reader_5 ⟨Nat.le_of_ble_eq_true rfl, Nat.le_of_ble_eq_true rfl⟩) (fun r1 u1 H locs hp1 hW => ?_)
  have hc1 : ((r1.toInt = (-4) ∧ (a0.toInt < 1)) ∨ (r1.toInt = (-6) ∧ (1 ≤ a0.toInt ∧ 999 < a0.toInt)) ∨ (r1.toInt = 0 ∧ (1 ≤ a0.toInt ∧ a0.toInt ≤ 999))) := hp1
  clear hp1
  have hW : WB g A s.heap H locs (J, L, I, P, E, N) (sgM g) := hW
  refine lv_istore_n (lv' := [(2, .int r1), (0, .ref (g.2.2.1 13)), (1, .int a0)]) hx hb dX12_reader_8 rfl hl (by decide) rfl (fun ls hl => ?_)
  refine lv_iload_n hx hb dX12_reader_9 rfl (lv_at hl 0 rfl) ?_
  refine lv_if_ne (tgt := 25) hx hb dX12_reader_10 (by decide) (fun c2 => ?_) (fun c2 => ?_)
  · have c2 : ¬ r1.toInt = 0 := tne rfl kp0 c2
    refine lv_iload_n hx hb dX12_reader_25 rfl (lv_at hl 0 rfl) ?_
    refine lv_if_eq (tgt := 35) hx hb dX12_reader_26 (by decide) (fun c3 => ?_) (fun c3 => ?_)
    · have c3 : r1.toInt = 0 := teq rfl kp0 c3
      exfalso; omega
    · have c3 : ¬ r1.toInt = 0 := tne rfl kp0 c3
      refine lv_aload_n hx hb dX12_reader_29 rfl (lv_at hl 1 rfl) ?_
      refine lv_iload_n hx hb dX12_reader_30 rfl (lv_at hl 0 rfl) ?_
      refine ci_ C hW (runV (x := (g.2.2.1 13)) (As := [.int r1]) (rest := []) (T := ((J, L, I, P, E, N), sgM g)) C hW (c_X12_refuse l g J L I P E N H.size r1 (show -6 ≤ r1.toInt ∧ r1.toInt ≤ -1 from by omega)) mi_X12_refuse tw_1239 (recv_ (T := ((J, L, I, P, E, N), sgM g)) C hW (mm_ rfl) rfl rfl) ⟨rfl, rfl, Nat.le_of_ble_eq_true rfl, Nat.le_of_ble_eq_true rfl⟩ rfl hl.1 rfl (Nat.le_of_ble_eq_true rfl) dX12_reader_31 ⟨Nat.le_of_ble_eq_true rfl, Nat.le_of_ble_eq_true rfl⟩) (fun r4 u4 H locs hp4 hW => ?_)
      have hc4 : ((r4 = r1)) := hp4
      clear hp4
      have hr4 : r4.toInt = (r1).toInt := by rw [hc4]
      have hW : WB g A s.heap H locs ((hv J [100] [] u4), L, I, P, E, N) (sgM g) := hW
      have hWr : WB g A s.heap H locs (hv J [100, 113, 114] [(13, 37)] (hv J [100] [] u4), L, I, P, E, N) (sgM g) := by
        rw [← ag_hvE (J := J) (R := [100, 113, 114]) (F := [(13, 37)]) (ag_hv rfl rfl ag_rf)]
        exact hW
      have hwmr : WM (hv J [100] [] u4) := by exact hwm
      have hwmr : WM (hv J [100, 113, 114] [(13, 37)] (hv J [100] [] u4)) := by
        rw [← ag_hvE (J := J) (R := [100, 113, 114]) (F := [(13, 37)]) (ag_hv rfl rfl ag_rf)]; exact hwmr
      subst hQ9
      exact end_i C hr hlocks (hv J [100] [] u4) hWr ⟨hwmr, by first | exact Or.inl ⟨by omega, by omega, show J 13 37 = J 13 37 from by first | rfl | assumption, show J 113 = J 113 from by first | rfl | assumption, show J 114 = J 114 from by first | rfl | assumption⟩ | exact Or.inr (Or.inl ⟨by omega, by omega, show J 13 37 = J 13 37 from by first | rfl | assumption, show J 113 = J 113 from by first | rfl | assumption, show J 114 = J 114 from by first | rfl | assumption⟩) | exact Or.inr (Or.inr (⟨by omega, by omega, show (J 13 37).toInt = (J 13 37).toInt + 1 from by first | rfl | omega, show J 113 = up2 J 113 (J 13 37).toNatClampNeg a0 113 from by first | rfl | omega, show J 114 = up2 J 114 (J 13 37).toNatClampNeg (-9) 114 from by first | rfl | omega⟩)) | (rcases hc1 with qhc1 | qhc1 | qhc1 <;> first | exact Or.inl ⟨by omega, by omega, show J 13 37 = J 13 37 from by first | rfl | assumption, show J 113 = J 113 from by first | rfl | assumption, show J 114 = J 114 from by first | rfl | assumption⟩ | exact Or.inr (Or.inl ⟨by omega, by omega, show J 13 37 = J 13 37 from by first | rfl | assumption, show J 113 = J 113 from by first | rfl | assumption, show J 114 = J 114 from by first | rfl | assumption⟩) | exact Or.inr (Or.inr (⟨by omega, by omega, show (J 13 37).toInt = (J 13 37).toInt + 1 from by first | rfl | omega, show J 113 = up2 J 113 (J 13 37).toNatClampNeg a0 113 from by first | rfl | omega, show J 114 = up2 J 114 (J 13 37).toNatClampNeg (-9) 114 from by first | rfl | omega⟩)) | (exfalso; omega))⟩ dX12_reader_34
  · have c2 : r1.toInt = 0 := teq rfl kp0 c2
    refine lv_aload_n hx hb dX12_reader_13 rfl (lv_at hl 1 rfl) ?_
    refine rg_13_37 C hW (mm_ rfl) tw_1060 dX12_reader_14 ?_
    refine lv_bipush (v := 8) hx hb dX12_reader_17 (by decide) ?_
    refine lv_icmp_ne (tgt := 25) hx hb dX12_reader_19 (by decide) (fun c5 => ?_) (fun c5 => ?_)
    · have c5 : ¬ (J 13 37).toInt = 8 := tne rfl kp8 c5
      refine lv_iload_n hx hb dX12_reader_25 rfl (lv_at hl 0 rfl) ?_
      refine lv_if_eq (tgt := 35) hx hb dX12_reader_26 (by decide) (fun c6 => ?_) (fun c6 => ?_)
      · have c6 : r1.toInt = 0 := teq rfl kp0 c6
        refine lv_aload_n hx hb dX12_reader_35 rfl (lv_at hl 1 rfl) ?_
        refine rg_13_13 C hW (mm_ rfl) tw_1036 dX12_reader_36 ?_
        refine lv_aload_n hx hb dX12_reader_39 rfl (lv_at hl 1 rfl) ?_
        refine rg_13_37 C hW (mm_ rfl) tw_1060 dX12_reader_40 ?_
        refine lv_iload_n hx hb dX12_reader_43 rfl (lv_at hl 2 rfl) ?_
        have hin : vp_in (J 13 37) 8 := tin rfl (by omega)
        refine rs_113 C hW (mm_ rfl) hin dX12_reader_44 (fun H locs hW => ?_)
        refine lv_aload_n hx hb dX12_reader_45 rfl (lv_at hl 1 rfl) ?_
        refine rg_13_14 C hW (mm_ rfl) tw_1037 dX12_reader_46 ?_
        refine lv_aload_n hx hb dX12_reader_49 rfl (lv_at hl 1 rfl) ?_
        refine rg_13_37 C hW (mm_ rfl) tw_1060 dX12_reader_50 ?_
        refine lv_as (J 13 37) rfl ?_
        refine lv_bipush (v := (-9)) hx hb dX12_reader_53 (by decide) ?_
        have hin : vp_in (J 13 37) 8 := tin rfl (by omega)
        refine rs_114 C hW (mm_ rfl) hin dX12_reader_55 (fun H locs hW => ?_)
        refine lv_aload_n hx hb dX12_reader_56 rfl (lv_at hl 1 rfl) ?_
        refine lv_dup hx hb dX12_reader_57 rfl ?_
        refine rg_13_37 C hW (mm_ rfl) tw_1060 dX12_reader_58 ?_
        refine lv_as (J 13 37) rfl ?_
        refine lv_iconst (v := 1) hx hb dX12_reader_61 (by decide) ?_
        refine lv_iadd hx hb dX12_reader_62 ?_
        refine lv_topi (fun x7 (e7 : x7 = (J 13 37) + 1) => ?_)
        try have t7 : x7.toInt = (J 13 37).toInt + 1 := tadd e7 rfl kp1 (by omega)
        refine rp_13_37 C hW (mm_ rfl) tw_1060 dX12_reader_63 (fun H locs hW => ?_)
        refine lv_aload_n hx hb dX12_reader_66 rfl (lv_at hl 1 rfl) ?_
        refine rg_13_37 C hW (mm_ rfl) tw_1060 dX12_reader_67 ?_
        refine lv_as x7 rfl ?_
        refine lv_iconst (v := 1) hx hb dX12_reader_70 (by decide) ?_
        refine lv_isub hx hb dX12_reader_71 ?_
        refine lv_topi (fun x8 (e8 : x8 = x7 - 1) => ?_)
        try have t8 : x8.toInt = x7.toInt - 1 := tsub e8 rfl kp1 (by omega)
        have hWr : WB g A s.heap H locs (hv J [100, 113, 114] [(13, 37)] (up2 (up2 (up2 J 113 ((J 13 37).toNatClampNeg) a0) 114 ((J 13 37).toNatClampNeg) (-9)) 13 37 x7), L, I, P, E, N) (sgM g) := by
          rw [← ag_hvE (J := J) (R := [100, 113, 114]) (F := [(13, 37)]) (ag_up (Or.inr rfl) (ag_up (Or.inl rfl) (ag_up (Or.inl rfl) ag_rf)))]
          exact hW
        have hwmr : WM (up2 (up2 (up2 J 113 ((J 13 37).toNatClampNeg) a0) 114 ((J 13 37).toNatClampNeg) (-9)) 13 37 x7) := by exact wm_reader hwm (by omega)
        have hwmr : WM (hv J [100, 113, 114] [(13, 37)] (up2 (up2 (up2 J 113 ((J 13 37).toNatClampNeg) a0) 114 ((J 13 37).toNatClampNeg) (-9)) 13 37 x7)) := by
          rw [← ag_hvE (J := J) (R := [100, 113, 114]) (F := [(13, 37)]) (ag_up (Or.inr rfl) (ag_up (Or.inl rfl) (ag_up (Or.inl rfl) ag_rf)))]; exact hwmr
        subst hQ9
        exact end_i C hr hlocks (up2 (up2 (up2 J 113 ((J 13 37).toNatClampNeg) a0) 114 ((J 13 37).toNatClampNeg) (-9)) 13 37 x7) hWr ⟨hwmr, by first | exact Or.inl ⟨by omega, by omega, show x7 = J 13 37 from by first | rfl | assumption, show (up2 J 113 ((J 13 37).toNatClampNeg) a0) 113 = J 113 from by first | rfl | assumption, show (up2 J 114 ((J 13 37).toNatClampNeg) (-9)) 114 = J 114 from by first | rfl | assumption⟩ | exact Or.inr (Or.inl ⟨by omega, by omega, show x7 = J 13 37 from by first | rfl | assumption, show (up2 J 113 ((J 13 37).toNatClampNeg) a0) 113 = J 113 from by first | rfl | assumption, show (up2 J 114 ((J 13 37).toNatClampNeg) (-9)) 114 = J 114 from by first | rfl | assumption⟩) | exact Or.inr (Or.inr (⟨by omega, by omega, show (x7).toInt = (J 13 37).toInt + 1 from by first | rfl | omega, show (up2 J 113 ((J 13 37).toNatClampNeg) a0) 113 = up2 J 113 (J 13 37).toNatClampNeg a0 113 from by first | rfl | omega, show (up2 J 114 ((J 13 37).toNatClampNeg) (-9)) 114 = up2 J 114 (J 13 37).toNatClampNeg (-9) 114 from by first | rfl | omega⟩)) | (rcases hc1 with qhc1 | qhc1 | qhc1 <;> first | exact Or.inl ⟨by omega, by omega, show x7 = J 13 37 from by first | rfl | assumption, show (up2 J 113 ((J 13 37).toNatClampNeg) a0) 113 = J 113 from by first | rfl | assumption, show (up2 J 114 ((J 13 37).toNatClampNeg) (-9)) 114 = J 114 from by first | rfl | assumption⟩ | exact Or.inr (Or.inl ⟨by omega, by omega, show x7 = J 13 37 from by first | rfl | assumption, show (up2 J 113 ((J 13 37).toNatClampNeg) a0) 113 = J 113 from by first | rfl | assumption, show (up2 J 114 ((J 13 37).toNatClampNeg) (-9)) 114 = J 114 from by first | rfl | assumption⟩) | exact Or.inr (Or.inr (⟨by omega, by omega, show (x7).toInt = (J 13 37).toInt + 1 from by first | rfl | omega, show (up2 J 113 ((J 13 37).toNatClampNeg) a0) 113 = up2 J 113 (J 13 37).toNatClampNeg a0 113 from by first | rfl | omega, show (up2 J 114 ((J 13 37).toNatClampNeg) (-9)) 114 = up2 J 114 (J 13 37).toNatClampNeg (-9) 114 from by first | rfl | omega⟩)) | (exfalso; omega))⟩ dX12_reader_72
      · have c6 : ¬ r1.toInt = 0 := tne rfl kp0 c6
        exfalso; omega
    · have c5 : (J 13 37).toInt = 8 := teq rfl kp8 c5
      refine lv_bipush (v := (-6)) hx hb dX12_reader_22 (by decide) ?_
      refine lv_istore_n (lv' := [(2, .int (-6)), (0, .ref (g.2.2.1 13)), (1, .int a0)]) hx hb dX12_reader_24 rfl hl (by decide) rfl (fun ls hl => ?_)
      refine lv_iload_n hx hb dX12_reader_25 rfl (lv_at hl 0 rfl) ?_
      refine lv_if_eq (tgt := 35) hx hb dX12_reader_26 (by decide) (fun c9 => ?_) (fun c9 => ?_)
      · exact absurd c9 (by decide)
      · skip
        refine lv_aload_n hx hb dX12_reader_29 rfl (lv_at hl 1 rfl) ?_
        refine lv_iload_n hx hb dX12_reader_30 rfl (lv_at hl 0 rfl) ?_
        refine ci_ C hW (runV (x := (g.2.2.1 13)) (As := [.int (-6)]) (rest := []) (T := ((J, L, I, P, E, N), sgM g)) C hW (c_X12_refuse l g J L I P E N H.size (-6) (show -6 ≤ (-6 : Int32).toInt ∧ (-6 : Int32).toInt ≤ -1 from by (try simp only [kn6]); omega)) mi_X12_refuse tw_1239 (recv_ (T := ((J, L, I, P, E, N), sgM g)) C hW (mm_ rfl) rfl rfl) ⟨rfl, rfl, Nat.le_of_ble_eq_true rfl, Nat.le_of_ble_eq_true rfl⟩ rfl hl.1 rfl (Nat.le_of_ble_eq_true rfl) dX12_reader_31 ⟨Nat.le_of_ble_eq_true rfl, Nat.le_of_ble_eq_true rfl⟩) (fun r10 u10 H locs hp10 hW => ?_)
        have hc10 : ((r10 = (-6))) := hp10
        clear hp10
        have hr10 : r10.toInt = (-6) := by rw [hc10]; exact kn6
        have hW : WB g A s.heap H locs ((hv J [100] [] u10), L, I, P, E, N) (sgM g) := hW
        have hWr : WB g A s.heap H locs (hv J [100, 113, 114] [(13, 37)] (hv J [100] [] u10), L, I, P, E, N) (sgM g) := by
          rw [← ag_hvE (J := J) (R := [100, 113, 114]) (F := [(13, 37)]) (ag_hv rfl rfl ag_rf)]
          exact hW
        have hwmr : WM (hv J [100] [] u10) := by exact hwm
        have hwmr : WM (hv J [100, 113, 114] [(13, 37)] (hv J [100] [] u10)) := by
          rw [← ag_hvE (J := J) (R := [100, 113, 114]) (F := [(13, 37)]) (ag_hv rfl rfl ag_rf)]; exact hwmr
        subst hQ9
        exact end_i C hr hlocks (hv J [100] [] u10) hWr ⟨hwmr, by first | exact Or.inl ⟨by omega, by omega, show J 13 37 = J 13 37 from by first | rfl | assumption, show J 113 = J 113 from by first | rfl | assumption, show J 114 = J 114 from by first | rfl | assumption⟩ | exact Or.inr (Or.inl ⟨by omega, by omega, show J 13 37 = J 13 37 from by first | rfl | assumption, show J 113 = J 113 from by first | rfl | assumption, show J 114 = J 114 from by first | rfl | assumption⟩) | exact Or.inr (Or.inr (⟨by omega, by omega, show (J 13 37).toInt = (J 13 37).toInt + 1 from by first | rfl | omega, show J 113 = up2 J 113 (J 13 37).toNatClampNeg a0 113 from by first | rfl | omega, show J 114 = up2 J 114 (J 13 37).toNatClampNeg (-9) 114 from by first | rfl | omega⟩)) | (rcases hc1 with qhc1 | qhc1 | qhc1 <;> first | exact Or.inl ⟨by omega, by omega, show J 13 37 = J 13 37 from by first | rfl | assumption, show J 113 = J 113 from by first | rfl | assumption, show J 114 = J 114 from by first | rfl | assumption⟩ | exact Or.inr (Or.inl ⟨by omega, by omega, show J 13 37 = J 13 37 from by first | rfl | assumption, show J 113 = J 113 from by first | rfl | assumption, show J 114 = J 114 from by first | rfl | assumption⟩) | exact Or.inr (Or.inr (⟨by omega, by omega, show (J 13 37).toInt = (J 13 37).toInt + 1 from by first | rfl | omega, show J 113 = up2 J 113 (J 13 37).toNatClampNeg a0 113 from by first | rfl | omega, show J 114 = up2 J 114 (J 13 37).toNatClampNeg (-9) 114 from by first | rfl | omega⟩)) | (exfalso; omega))⟩ dX12_reader_34

set_option maxHeartbeats 4000000 in
set_option maxRecDepth 100000 in
theorem c_X12_news_e (l : Launch) (g : gG) (J : Nat → Nat → Int32) (L : Nat → Nat → Int64) (I : Nat → Nat → Nat → Int32) (P : Nat → Nat → Nat → Option Nat) (E : Nat → Option Nat) (N : Nat → Nat) (sz : Nat) (a0 : Int32) (hwm : WM J) : Met l yX12_news (WS yX12_news cX12_news 2 (some .int)) (RM (3) 0 0) (PC g [.ref (g.2.2.1 13), .int a0] ((J, L, I, P, E, N), sgM g) sz) (va_Qi (fun (r : Int32) (u : (Nat → Nat → Int32)) => WM (hv J [100, 127, 128] [(13, 42)] u) ∧ ((r.toInt = (-6) ∧ ((J 13 42).toInt = 40) ∧ u 13 42 = J 13 42 ∧ u 127 = J 127 ∧ u 128 = J 128) ∨ (r.toInt = (J 13 42).toInt ∧ ((J 13 42).toInt ≤ 39) ∧ (u 13 42).toInt = (J 13 42).toInt + 1 ∧ u 127 = up2 J 127 (J 13 42).toNatClampNeg (J 13 31) 127 ∧ u 128 = up2 J 128 (J 13 42).toNatClampNeg (-9) 128))) (fun u t => at_ g (FR g ((J, L, I, P, E, N), sgM g) sz) ((hv J [100, 127, 128] [(13, 42)] u, L, I, P, E, N), sgM g) t) (FR g ((J, L, I, P, E, N), sgM g) sz)) 0 0 (FR g ((J, L, I, P, E, N), sgM g) sz) := by
  refine ent (by decide +kernel) (Nat.le_of_ble_eq_true rfl) ?_
  intro p e s m below meth c ls hsz C hW hr hlocks hname hl
  generalize FR g ((J, L, I, P, E, N), sgM g) sz = A at C hW ⊢
  generalize hQ9 : (va_Qi (fun (r : Int32) (u : (Nat → Nat → Int32)) => WM (hv J [100, 127, 128] [(13, 42)] u) ∧ ((r.toInt = (-6) ∧ ((J 13 42).toInt = 40) ∧ u 13 42 = J 13 42 ∧ u 127 = J 127 ∧ u 128 = J 128) ∨ (r.toInt = (J 13 42).toInt ∧ ((J 13 42).toInt ≤ 39) ∧ (u 13 42).toInt = (J 13 42).toInt + 1 ∧ u 127 = up2 J 127 (J 13 42).toNatClampNeg (J 13 31) 127 ∧ u 128 = up2 J 128 (J 13 42).toNatClampNeg (-9) 128))) (fun u t => at_ g A ((hv J [100, 127, 128] [(13, 42)] u, L, I, P, E, N), sgM g) t) A) = Q9
  have hx := C.1.1
  have hb := C.1.2.1
  have hts := C.1.2.2.2.2
  have hW : WB g A s.heap s.heap [] (J, L, I, P, E, N) (sgM g) := hW
  have hl : lv_has ls 2 [(0, .ref (g.2.2.1 13)), (1, .int a0)] := hl
  obtain ⟨H, hH⟩ : ∃ H : Heap, H = s.heap := ⟨_, rfl⟩
  obtain ⟨locs, hlocs⟩ : ∃ q : List Loc, q = [] := ⟨_, rfl⟩
  have hW : WB g A s.heap H locs (J, L, I, P, E, N) (sgM g) := by rw [hH, hlocs]; exact hW
  obtain ⟨⟨hnd1, hnd2, hon, hhm1, hhm2, hhN, hcu1, hcu2, hco1, hco2, hcN⟩, ⟨hrd1, hrd2⟩, ⟨hnw1, hnw2, hns1, hns2, hof⟩, ⟨htm1, htm2, hts_⟩, ⟨had1, had2, hrw1, hrw2, htp1, htp2⟩⟩ := id hwm
  refine start_ hH hlocs ?_
  refine lv_aload_n hx hb dX12_news_0 rfl (lv_at hl 0 rfl) ?_
  refine rg_13_42 C hW (mm_ rfl) tw_1065 dX12_news_1 ?_
  refine lv_bipush (v := 40) hx hb dX12_news_4 (by decide) ?_
  refine lv_icmp_ne (tgt := 16) hx hb dX12_news_6 (by decide) (fun c1 => ?_) (fun c1 => ?_)
  · have c1 : ¬ (J 13 42).toInt = 40 := tne rfl kp40 c1
    refine lv_aload_n hx hb dX12_news_16 rfl (lv_at hl 0 rfl) ?_
    refine rg_13_27 C hW (mm_ rfl) tw_1050 dX12_news_17 ?_
    refine lv_aload_n hx hb dX12_news_20 rfl (lv_at hl 0 rfl) ?_
    refine rg_13_42 C hW (mm_ rfl) tw_1065 dX12_news_21 ?_
    refine lv_aload_n hx hb dX12_news_24 rfl (lv_at hl 0 rfl) ?_
    refine rg_13_31 C hW (mm_ rfl) tw_1054 dX12_news_25 ?_
    have hin : vp_in (J 13 42) 40 := tin rfl (by omega)
    refine rs_127 C hW (mm_ rfl) hin dX12_news_28 (fun H locs hW => ?_)
    refine lv_aload_n hx hb dX12_news_29 rfl (lv_at hl 0 rfl) ?_
    refine rg_13_28 C hW (mm_ rfl) tw_1051 dX12_news_30 ?_
    refine lv_aload_n hx hb dX12_news_33 rfl (lv_at hl 0 rfl) ?_
    refine rg_13_42 C hW (mm_ rfl) tw_1065 dX12_news_34 ?_
    refine lv_as (J 13 42) rfl ?_
    refine lv_bipush (v := (-9)) hx hb dX12_news_37 (by decide) ?_
    have hin : vp_in (J 13 42) 40 := tin rfl (by omega)
    refine rs_128 C hW (mm_ rfl) hin dX12_news_39 (fun H locs hW => ?_)
    refine lv_aload_n hx hb dX12_news_40 rfl (lv_at hl 0 rfl) ?_
    refine lv_dup hx hb dX12_news_41 rfl ?_
    refine rg_13_42 C hW (mm_ rfl) tw_1065 dX12_news_42 ?_
    refine lv_as (J 13 42) rfl ?_
    refine lv_iconst (v := 1) hx hb dX12_news_45 (by decide) ?_
    refine lv_iadd hx hb dX12_news_46 ?_
    refine lv_topi (fun x2 (e2 : x2 = (J 13 42) + 1) => ?_)
    try have t2 : x2.toInt = (J 13 42).toInt + 1 := tadd e2 rfl kp1 (by omega)
    refine rp_13_42 C hW (mm_ rfl) tw_1065 dX12_news_47 (fun H locs hW => ?_)
    refine lv_aload_n hx hb dX12_news_50 rfl (lv_at hl 0 rfl) ?_
    refine rg_13_42 C hW (mm_ rfl) tw_1065 dX12_news_51 ?_
    refine lv_as x2 rfl ?_
    refine lv_iconst (v := 1) hx hb dX12_news_54 (by decide) ?_
    refine lv_isub hx hb dX12_news_55 ?_
    refine lv_topi (fun x3 (e3 : x3 = x2 - 1) => ?_)
    try have t3 : x3.toInt = x2.toInt - 1 := tsub e3 rfl kp1 (by omega)
    have hWr : WB g A s.heap H locs (hv J [100, 127, 128] [(13, 42)] (up2 (up2 (up2 J 127 ((J 13 42).toNatClampNeg) (J 13 31)) 128 ((J 13 42).toNatClampNeg) (-9)) 13 42 x2), L, I, P, E, N) (sgM g) := by
      rw [← ag_hvE (J := J) (R := [100, 127, 128]) (F := [(13, 42)]) (ag_up (Or.inr rfl) (ag_up (Or.inl rfl) (ag_up (Or.inl rfl) ag_rf)))]
      exact hW
    have hwmr : WM (up2 (up2 (up2 J 127 ((J 13 42).toNatClampNeg) (J 13 31)) 128 ((J 13 42).toNatClampNeg) (-9)) 13 42 x2) := by first | exact hwm | exact wm_news hwm (by omega)
    have hwmr : WM (hv J [100, 127, 128] [(13, 42)] (up2 (up2 (up2 J 127 ((J 13 42).toNatClampNeg) (J 13 31)) 128 ((J 13 42).toNatClampNeg) (-9)) 13 42 x2)) := by
      rw [← ag_hvE (J := J) (R := [100, 127, 128]) (F := [(13, 42)]) (ag_up (Or.inr rfl) (ag_up (Or.inl rfl) (ag_up (Or.inl rfl) ag_rf)))]; exact hwmr
    subst hQ9
    exact end_i C hr hlocks (up2 (up2 (up2 J 127 ((J 13 42).toNatClampNeg) (J 13 31)) 128 ((J 13 42).toNatClampNeg) (-9)) 13 42 x2) hWr ⟨hwmr, by first | exact Or.inl ⟨by omega, by omega, show x2 = J 13 42 from by first | rfl | assumption, show (up2 J 127 ((J 13 42).toNatClampNeg) (J 13 31)) 127 = J 127 from by first | rfl | assumption, show (up2 J 128 ((J 13 42).toNatClampNeg) (-9)) 128 = J 128 from by first | rfl | assumption⟩ | exact Or.inr (⟨by omega, by omega, show (x2).toInt = (J 13 42).toInt + 1 from by first | rfl | omega, show (up2 J 127 ((J 13 42).toNatClampNeg) (J 13 31)) 127 = up2 J 127 (J 13 42).toNatClampNeg (J 13 31) 127 from by first | rfl | omega, show (up2 J 128 ((J 13 42).toNatClampNeg) (-9)) 128 = up2 J 128 (J 13 42).toNatClampNeg (-9) 128 from by first | rfl | omega⟩)⟩ dX12_news_56
  · have c1 : (J 13 42).toInt = 40 := teq rfl kp40 c1
    refine lv_aload_n hx hb dX12_news_9 rfl (lv_at hl 0 rfl) ?_
    refine lv_bipush (v := (-6)) hx hb dX12_news_10 (by decide) ?_
    refine ci_ C hW (runV (x := (g.2.2.1 13)) (As := [.int (-6)]) (rest := []) (T := ((J, L, I, P, E, N), sgM g)) C hW (c_X12_refuse l g J L I P E N H.size (-6) (show -6 ≤ (-6 : Int32).toInt ∧ (-6 : Int32).toInt ≤ -1 from by (try simp only [kn6]); omega)) mi_X12_refuse tw_1239 (recv_ (T := ((J, L, I, P, E, N), sgM g)) C hW (mm_ rfl) rfl rfl) ⟨rfl, rfl, Nat.le_of_ble_eq_true rfl, Nat.le_of_ble_eq_true rfl⟩ rfl hl.1 rfl (Nat.le_of_ble_eq_true rfl) dX12_news_12 ⟨Nat.le_of_ble_eq_true rfl, Nat.le_of_ble_eq_true rfl⟩) (fun r4 u4 H locs hp4 hW => ?_)
    have hc4 : ((r4 = (-6))) := hp4
    clear hp4
    have hr4 : r4.toInt = (-6) := by rw [hc4]; exact kn6
    have hW : WB g A s.heap H locs ((hv J [100] [] u4), L, I, P, E, N) (sgM g) := hW
    have hWr : WB g A s.heap H locs (hv J [100, 127, 128] [(13, 42)] (hv J [100] [] u4), L, I, P, E, N) (sgM g) := by
      rw [← ag_hvE (J := J) (R := [100, 127, 128]) (F := [(13, 42)]) (ag_hv rfl rfl ag_rf)]
      exact hW
    have hwmr : WM (hv J [100] [] u4) := by first | exact hwm | exact wm_news hwm (by omega)
    have hwmr : WM (hv J [100, 127, 128] [(13, 42)] (hv J [100] [] u4)) := by
      rw [← ag_hvE (J := J) (R := [100, 127, 128]) (F := [(13, 42)]) (ag_hv rfl rfl ag_rf)]; exact hwmr
    subst hQ9
    exact end_i C hr hlocks (hv J [100] [] u4) hWr ⟨hwmr, by first | exact Or.inl ⟨by omega, by omega, show J 13 42 = J 13 42 from by first | rfl | assumption, show J 127 = J 127 from by first | rfl | assumption, show J 128 = J 128 from by first | rfl | assumption⟩ | exact Or.inr (⟨by omega, by omega, show (J 13 42).toInt = (J 13 42).toInt + 1 from by first | rfl | omega, show J 127 = up2 J 127 (J 13 42).toNatClampNeg (J 13 31) 127 from by first | rfl | omega, show J 128 = up2 J 128 (J 13 42).toNatClampNeg (-9) 128 from by first | rfl | omega⟩)⟩ dX12_news_15

set_option maxHeartbeats 4000000 in
set_option maxRecDepth 100000 in
theorem c_X12_inForce_e (l : Launch) (g : gG) (J : Nat → Nat → Int32) (L : Nat → Nat → Int64) (I : Nat → Nat → Nat → Int32) (P : Nat → Nat → Nat → Option Nat) (E : Nat → Option Nat) (N : Nat → Nat) (sz : Nat) (a0 : Int32) (a1 : Int32) (hwm : WM J) : Met l yX12_inForce (WS yX12_inForce cX12_inForce 5 (some .int)) (RM (1) 0 0) (PC g [.ref (g.2.2.1 13), .int a0, .int a1] ((J, L, I, P, E, N), sgM g) sz) (va_Qi (fun (r : Int32) (u : Unit) => (-1 ≤ r.toInt ∧ r.toInt < 30 ∧ (r.toInt < (J 13 40).toInt)) ∧ (IFI r.toInt (MJ (J 122)) (MJ (J 123)) (J 13 40).toInt a0.toInt a1.toInt)) (fun u t => at_ g (FR g ((J, L, I, P, E, N), sgM g) sz) ((J, L, I, P, E, N), sgM g) t) (FR g ((J, L, I, P, E, N), sgM g) sz)) 0 0 (FR g ((J, L, I, P, E, N), sgM g) sz) := by
  refine ent (by decide +kernel) (Nat.le_of_ble_eq_true rfl) ?_
  intro p e s m below meth c ls hsz C hW hr hlocks hname hl
  generalize FR g ((J, L, I, P, E, N), sgM g) sz = A at C hW ⊢
  generalize hQ9 : (va_Qi (fun (r : Int32) (u : Unit) => (-1 ≤ r.toInt ∧ r.toInt < 30 ∧ (r.toInt < (J 13 40).toInt)) ∧ (IFI r.toInt (MJ (J 122)) (MJ (J 123)) (J 13 40).toInt a0.toInt a1.toInt)) (fun u t => at_ g A ((J, L, I, P, E, N), sgM g) t) A) = Q9
  have hx := C.1.1
  have hb := C.1.2.1
  have hts := C.1.2.2.2.2
  have hW : WB g A s.heap s.heap [] (J, L, I, P, E, N) (sgM g) := hW
  have hl : lv_has ls 5 [(0, .ref (g.2.2.1 13)), (1, .int a0), (2, .int a1)] := hl
  obtain ⟨H, hH⟩ : ∃ H : Heap, H = s.heap := ⟨_, rfl⟩
  obtain ⟨locs, hlocs⟩ : ∃ q : List Loc, q = [] := ⟨_, rfl⟩
  have hW : WB g A s.heap H locs (J, L, I, P, E, N) (sgM g) := by rw [hH, hlocs]; exact hW
  obtain ⟨⟨hnd1, hnd2, hon, hhm1, hhm2, hhN, hcu1, hcu2, hco1, hco2, hcN⟩, ⟨hrd1, hrd2⟩, ⟨hnw1, hnw2, hns1, hns2, hof⟩, ⟨htm1, htm2, hts_⟩, ⟨had1, had2, hrw1, hrw2, htp1, htp2⟩⟩ := id hwm
  refine start_ hH hlocs ?_
  refine lv_iconst (v := (-1)) hx hb dX12_inForce_0 (by decide) ?_
  refine lv_istore_n (lv' := [(3, .int (-1)), (0, .ref (g.2.2.1 13)), (1, .int a0), (2, .int a1)]) hx hb dX12_inForce_1 rfl hl (by decide) rfl (fun ls hl => ?_)
  refine lv_iconst (v := 0) hx hb dX12_inForce_2 (by decide) ?_
  refine lv_istore (lv' := [(4, .int 0), (3, .int (-1)), (0, .ref (g.2.2.1 13)), (1, .int a0), (2, .int a1)]) hx hb dX12_inForce_3 hl (by decide) rfl (fun ls hl => ?_)
  have loop5 : ∀ (n : Nat) (m3 : Int32) (m4 : Int32) (H : Heap) (locs : List Loc) (ls : Array Slot), (30 - m4.toInt).toNat < n → 0 ≤ m4.toInt ∧ m4.toInt ≤ (J 13 40).toInt ∧ -1 ≤ m3.toInt ∧ m3.toInt < 30 ∧ m3.toInt < (J 13 40).toInt → IFI m3.toInt (MJ (J 122)) (MJ (J 123)) m4.toInt a0.toInt a1.toInt → WB g A s.heap H locs (J, L, I, P, E, N) (sgM g) → lv_has ls 5 [(4, .int m4), (3, .int m3), (0, .ref (g.2.2.1 13)), (1, .int a0), (2, .int a1)] → W p l e (RM (1) 0 0) s m ([.ref (g.2.2.1 13), .int a0, .int a1] : List Value).toArray below meth c H locs 0 0 (MQ below Q9 ([.ref (g.2.2.1 13), .int a0, .int a1] : List Value).toArray s 0 0 A) (F0 m 5 ls []) := by
    intro n
    induction n with
    | zero => intro m3 m4 H locs ls hmeas; exact absurd hmeas (Nat.not_lt_zero _)
    | succ n ih =>
      intro m3 m4 H locs ls hmeas hi hiv hW hl
      refine lv_iload hx hb dX12_inForce_5 (lv_at hl 0 rfl) ?_
      refine lv_aload_n hx hb dX12_inForce_7 rfl (lv_at hl 2 rfl) ?_
      refine rg_13_40 C hW (mm_ rfl) tw_1063 dX12_inForce_8 ?_
      refine lv_icmp_ge (tgt := 65) hx hb dX12_inForce_11 (by decide) (fun c1 => ?_) (fun c1 => ?_)
      · have c1 : (J 13 40).toInt ≤ m4.toInt := tle rfl rfl c1
        refine lv_iload_n hx hb dX12_inForce_65 rfl (lv_at hl 1 rfl) ?_
        subst hQ9
        exact end_i C hr hlocks () hW ⟨show -1 ≤ m3.toInt ∧ m3.toInt < 30 ∧ (m3.toInt < (J 13 40).toInt) from by omega, show IFI m3.toInt (MJ (J 122)) (MJ (J 123)) (J 13 40).toInt a0.toInt a1.toInt from by exact mf_end hiv (by omega)⟩ dX12_inForce_66
      · have c1 : m4.toInt < (J 13 40).toInt := tnle rfl rfl c1
        refine lv_aload_n hx hb dX12_inForce_14 rfl (lv_at hl 2 rfl) ?_
        refine rg_13_22 C hW (mm_ rfl) tw_1045 dX12_inForce_15 ?_
        refine lv_iload hx hb dX12_inForce_18 (lv_at hl 0 rfl) ?_
        have hin : vp_in m4 30 := tin rfl (by omega)
        refine ra_122 C hW (mm_ rfl) hin dX12_inForce_20 ?_
        refine lv_topi (fun x2 (e2 : x2 = J 122 m4.toNatClampNeg) => ?_)
        have t2 : x2.toInt = (J 122 m4.toNatClampNeg).toInt := by rw [e2]
        refine lv_iload_n hx hb dX12_inForce_21 rfl (lv_at hl 3 rfl) ?_
        refine lv_icmp_ne (tgt := 59) hx hb dX12_inForce_22 (by decide) (fun c3 => ?_) (fun c3 => ?_)
        · have c3 : ¬ x2.toInt = a0.toInt := tne rfl rfl c3
          obtain ⟨x4, e4⟩ : ∃ y : Int32, y = m4 + 1 := ⟨_, rfl⟩
          refine lv_iinc (v := x4) (lv' := [(4, .int x4), (3, .int m3), (0, .ref (g.2.2.1 13)), (1, .int a0), (2, .int a1)]) hx hb dX12_inForce_59 hl (k := 0) rfl (by rw [e4]; rfl) (by decide) rfl (fun ls hl => ?_)
          try have t4 : x4.toInt = m4.toInt + 1 := tadd e4 rfl kp1 (by omega)
          refine lv_goto (tgt := 5) hx hb dX12_inForce_62 (by decide) ?_
          refine ih m3 x4 H locs ls ?_ ?_ ?_ hW (lv_sub hl [0, 1, 2, 3, 4] rfl)
          · show (30 - x4.toInt).toNat < n
            omega
          · show 0 ≤ x4.toInt ∧ x4.toInt ≤ (J 13 40).toInt ∧ -1 ≤ m3.toInt ∧ m3.toInt < 30 ∧ m3.toInt < (J 13 40).toInt
            first | omega | exact hi | assumption
          · show IFI m3.toInt (MJ (J 122)) (MJ (J 123)) x4.toInt a0.toInt a1.toInt
            first | exact if_skip (c := m4.toNatClampNeg) hiv (by have h8 := tcl m4; omega) (by omega) (Or.inl (by show ¬ (J 122 m4.toNatClampNeg).toInt = _; omega)) | exact if_skip (c := m4.toNatClampNeg) hiv (by have h8 := tcl m4; omega) (by omega) (Or.inr (Or.inl (by show _ < (J 123 m4.toNatClampNeg).toInt; omega))) | exact if_skip (c := m4.toNatClampNeg) hiv (by have h8 := tcl m4; omega) (by omega) (Or.inr (Or.inr ⟨fun h => (by omega), fun k9 hk9 => (by have h8 := tcl m3; have e9 : k9 = m3.toNatClampNeg := (by omega); show (J 123 m4.toNatClampNeg).toInt < (J 123 k9).toInt; rw [e9]; omega)⟩)) | exact if_take (c := m4.toNatClampNeg) hiv (by have h8 := tcl m4; omega) (by omega) (by show (J 122 m4.toNatClampNeg).toInt = _; omega) (by show (J 123 m4.toNatClampNeg).toInt ≤ _; omega) (fun k9 hk9 => by first | (exfalso; omega) | (have h8 := tcl m3; have e9 : k9 = m3.toNatClampNeg := (by omega); show (J 123 k9).toInt ≤ (J 123 m4.toNatClampNeg).toInt; rw [e9]; omega)) (by have h8 := tcl m4; omega)
        · have c3 : x2.toInt = a0.toInt := teq rfl rfl c3
          refine lv_aload_n hx hb dX12_inForce_25 rfl (lv_at hl 2 rfl) ?_
          refine rg_13_23 C hW (mm_ rfl) tw_1046 dX12_inForce_26 ?_
          refine lv_iload hx hb dX12_inForce_29 (lv_at hl 0 rfl) ?_
          have hin : vp_in m4 30 := tin rfl (by omega)
          refine ra_123 C hW (mm_ rfl) hin dX12_inForce_31 ?_
          refine lv_topi (fun x5 (e5 : x5 = J 123 m4.toNatClampNeg) => ?_)
          have t5 : x5.toInt = (J 123 m4.toNatClampNeg).toInt := by rw [e5]
          refine lv_iload_n hx hb dX12_inForce_32 rfl (lv_at hl 4 rfl) ?_
          refine lv_icmp_gt (tgt := 59) hx hb dX12_inForce_33 (by decide) (fun c6 => ?_) (fun c6 => ?_)
          · have c6 : a1.toInt < x5.toInt := tlt rfl rfl c6
            obtain ⟨x7, e7⟩ : ∃ y : Int32, y = m4 + 1 := ⟨_, rfl⟩
            refine lv_iinc (v := x7) (lv' := [(4, .int x7), (3, .int m3), (0, .ref (g.2.2.1 13)), (1, .int a0), (2, .int a1)]) hx hb dX12_inForce_59 hl (k := 0) rfl (by rw [e7]; rfl) (by decide) rfl (fun ls hl => ?_)
            try have t7 : x7.toInt = m4.toInt + 1 := tadd e7 rfl kp1 (by omega)
            refine lv_goto (tgt := 5) hx hb dX12_inForce_62 (by decide) ?_
            refine ih m3 x7 H locs ls ?_ ?_ ?_ hW (lv_sub hl [0, 1, 2, 3, 4] rfl)
            · show (30 - x7.toInt).toNat < n
              omega
            · show 0 ≤ x7.toInt ∧ x7.toInt ≤ (J 13 40).toInt ∧ -1 ≤ m3.toInt ∧ m3.toInt < 30 ∧ m3.toInt < (J 13 40).toInt
              first | omega | exact hi | assumption
            · show IFI m3.toInt (MJ (J 122)) (MJ (J 123)) x7.toInt a0.toInt a1.toInt
              first | exact if_skip (c := m4.toNatClampNeg) hiv (by have h8 := tcl m4; omega) (by omega) (Or.inl (by show ¬ (J 122 m4.toNatClampNeg).toInt = _; omega)) | exact if_skip (c := m4.toNatClampNeg) hiv (by have h8 := tcl m4; omega) (by omega) (Or.inr (Or.inl (by show _ < (J 123 m4.toNatClampNeg).toInt; omega))) | exact if_skip (c := m4.toNatClampNeg) hiv (by have h8 := tcl m4; omega) (by omega) (Or.inr (Or.inr ⟨fun h => (by omega), fun k9 hk9 => (by have h8 := tcl m3; have e9 : k9 = m3.toNatClampNeg := (by omega); show (J 123 m4.toNatClampNeg).toInt < (J 123 k9).toInt; rw [e9]; omega)⟩)) | exact if_take (c := m4.toNatClampNeg) hiv (by have h8 := tcl m4; omega) (by omega) (by show (J 122 m4.toNatClampNeg).toInt = _; omega) (by show (J 123 m4.toNatClampNeg).toInt ≤ _; omega) (fun k9 hk9 => by first | (exfalso; omega) | (have h8 := tcl m3; have e9 : k9 = m3.toNatClampNeg := (by omega); show (J 123 k9).toInt ≤ (J 123 m4.toNatClampNeg).toInt; rw [e9]; omega)) (by have h8 := tcl m4; omega)
          · have c6 : x5.toInt ≤ a1.toInt := tnlt rfl rfl c6
            refine lv_iload_n hx hb dX12_inForce_36 rfl (lv_at hl 1 rfl) ?_
            refine lv_if_lt (tgt := 56) hx hb dX12_inForce_37 (by decide) (fun c8 => ?_) (fun c8 => ?_)
            · have c8 : m3.toInt < 0 := tlt rfl kp0 c8
              refine lv_iload hx hb dX12_inForce_56 (lv_at hl 0 rfl) ?_
              refine lv_istore_n (lv' := [(3, .int m4), (4, .int m4), (0, .ref (g.2.2.1 13)), (1, .int a0), (2, .int a1)]) hx hb dX12_inForce_58 rfl hl (by decide) rfl (fun ls hl => ?_)
              obtain ⟨x9, e9⟩ : ∃ y : Int32, y = m4 + 1 := ⟨_, rfl⟩
              refine lv_iinc (v := x9) (lv' := [(4, .int x9), (3, .int m4), (0, .ref (g.2.2.1 13)), (1, .int a0), (2, .int a1)]) hx hb dX12_inForce_59 hl (k := 1) rfl (by rw [e9]; rfl) (by decide) rfl (fun ls hl => ?_)
              try have t9 : x9.toInt = m4.toInt + 1 := tadd e9 rfl kp1 (by omega)
              refine lv_goto (tgt := 5) hx hb dX12_inForce_62 (by decide) ?_
              refine ih m4 x9 H locs ls ?_ ?_ ?_ hW (lv_sub hl [0, 1, 2, 3, 4] rfl)
              · show (30 - x9.toInt).toNat < n
                omega
              · show 0 ≤ x9.toInt ∧ x9.toInt ≤ (J 13 40).toInt ∧ -1 ≤ m4.toInt ∧ m4.toInt < 30 ∧ m4.toInt < (J 13 40).toInt
                first | omega | exact hi | assumption
              · show IFI m4.toInt (MJ (J 122)) (MJ (J 123)) x9.toInt a0.toInt a1.toInt
                first | exact if_skip (c := m4.toNatClampNeg) hiv (by have h8 := tcl m4; omega) (by omega) (Or.inl (by show ¬ (J 122 m4.toNatClampNeg).toInt = _; omega)) | exact if_skip (c := m4.toNatClampNeg) hiv (by have h8 := tcl m4; omega) (by omega) (Or.inr (Or.inl (by show _ < (J 123 m4.toNatClampNeg).toInt; omega))) | exact if_skip (c := m4.toNatClampNeg) hiv (by have h8 := tcl m4; omega) (by omega) (Or.inr (Or.inr ⟨fun h => (by omega), fun k9 hk9 => (by have h8 := tcl m3; have e9 : k9 = m3.toNatClampNeg := (by omega); show (J 123 m4.toNatClampNeg).toInt < (J 123 k9).toInt; rw [e9]; omega)⟩)) | exact if_take (c := m4.toNatClampNeg) hiv (by have h8 := tcl m4; omega) (by omega) (by show (J 122 m4.toNatClampNeg).toInt = _; omega) (by show (J 123 m4.toNatClampNeg).toInt ≤ _; omega) (fun k9 hk9 => by first | (exfalso; omega) | (have h8 := tcl m3; have e9 : k9 = m3.toNatClampNeg := (by omega); show (J 123 k9).toInt ≤ (J 123 m4.toNatClampNeg).toInt; rw [e9]; omega)) (by have h8 := tcl m4; omega)
            · have c8 : 0 ≤ m3.toInt := tnlt rfl kp0 c8
              refine lv_aload_n hx hb dX12_inForce_40 rfl (lv_at hl 2 rfl) ?_
              refine rg_13_23 C hW (mm_ rfl) tw_1046 dX12_inForce_41 ?_
              refine lv_iload hx hb dX12_inForce_44 (lv_at hl 0 rfl) ?_
              have hin : vp_in m4 30 := tin rfl (by omega)
              refine ra_123 C hW (mm_ rfl) hin dX12_inForce_46 ?_
              refine lv_topi (fun x10 (e10 : x10 = J 123 m4.toNatClampNeg) => ?_)
              have t10 : x10.toInt = (J 123 m4.toNatClampNeg).toInt := by rw [e10]
              refine lv_aload_n hx hb dX12_inForce_47 rfl (lv_at hl 2 rfl) ?_
              refine rg_13_23 C hW (mm_ rfl) tw_1046 dX12_inForce_48 ?_
              refine lv_iload_n hx hb dX12_inForce_51 rfl (lv_at hl 1 rfl) ?_
              have hin : vp_in m3 30 := tin rfl (by omega)
              refine ra_123 C hW (mm_ rfl) hin dX12_inForce_52 ?_
              refine lv_topi (fun x11 (e11 : x11 = J 123 m3.toNatClampNeg) => ?_)
              have t11 : x11.toInt = (J 123 m3.toNatClampNeg).toInt := by rw [e11]
              refine lv_icmp_lt (tgt := 59) hx hb dX12_inForce_53 (by decide) (fun c12 => ?_) (fun c12 => ?_)
              · have c12 : x10.toInt < x11.toInt := tlt rfl rfl c12
                obtain ⟨x13, e13⟩ : ∃ y : Int32, y = m4 + 1 := ⟨_, rfl⟩
                refine lv_iinc (v := x13) (lv' := [(4, .int x13), (3, .int m3), (0, .ref (g.2.2.1 13)), (1, .int a0), (2, .int a1)]) hx hb dX12_inForce_59 hl (k := 0) rfl (by rw [e13]; rfl) (by decide) rfl (fun ls hl => ?_)
                try have t13 : x13.toInt = m4.toInt + 1 := tadd e13 rfl kp1 (by omega)
                refine lv_goto (tgt := 5) hx hb dX12_inForce_62 (by decide) ?_
                refine ih m3 x13 H locs ls ?_ ?_ ?_ hW (lv_sub hl [0, 1, 2, 3, 4] rfl)
                · show (30 - x13.toInt).toNat < n
                  omega
                · show 0 ≤ x13.toInt ∧ x13.toInt ≤ (J 13 40).toInt ∧ -1 ≤ m3.toInt ∧ m3.toInt < 30 ∧ m3.toInt < (J 13 40).toInt
                  first | omega | exact hi | assumption
                · show IFI m3.toInt (MJ (J 122)) (MJ (J 123)) x13.toInt a0.toInt a1.toInt
                  first | exact if_skip (c := m4.toNatClampNeg) hiv (by have h8 := tcl m4; omega) (by omega) (Or.inl (by show ¬ (J 122 m4.toNatClampNeg).toInt = _; omega)) | exact if_skip (c := m4.toNatClampNeg) hiv (by have h8 := tcl m4; omega) (by omega) (Or.inr (Or.inl (by show _ < (J 123 m4.toNatClampNeg).toInt; omega))) | exact if_skip (c := m4.toNatClampNeg) hiv (by have h8 := tcl m4; omega) (by omega) (Or.inr (Or.inr ⟨fun h => (by omega), fun k9 hk9 => (by have h8 := tcl m3; have e9 : k9 = m3.toNatClampNeg := (by omega); show (J 123 m4.toNatClampNeg).toInt < (J 123 k9).toInt; rw [e9]; omega)⟩)) | exact if_take (c := m4.toNatClampNeg) hiv (by have h8 := tcl m4; omega) (by omega) (by show (J 122 m4.toNatClampNeg).toInt = _; omega) (by show (J 123 m4.toNatClampNeg).toInt ≤ _; omega) (fun k9 hk9 => by first | (exfalso; omega) | (have h8 := tcl m3; have e9 : k9 = m3.toNatClampNeg := (by omega); show (J 123 k9).toInt ≤ (J 123 m4.toNatClampNeg).toInt; rw [e9]; omega)) (by have h8 := tcl m4; omega)
              · have c12 : x11.toInt ≤ x10.toInt := tnlt rfl rfl c12
                refine lv_iload hx hb dX12_inForce_56 (lv_at hl 0 rfl) ?_
                refine lv_istore_n (lv' := [(3, .int m4), (4, .int m4), (0, .ref (g.2.2.1 13)), (1, .int a0), (2, .int a1)]) hx hb dX12_inForce_58 rfl hl (by decide) rfl (fun ls hl => ?_)
                obtain ⟨x14, e14⟩ : ∃ y : Int32, y = m4 + 1 := ⟨_, rfl⟩
                refine lv_iinc (v := x14) (lv' := [(4, .int x14), (3, .int m4), (0, .ref (g.2.2.1 13)), (1, .int a0), (2, .int a1)]) hx hb dX12_inForce_59 hl (k := 1) rfl (by rw [e14]; rfl) (by decide) rfl (fun ls hl => ?_)
                try have t14 : x14.toInt = m4.toInt + 1 := tadd e14 rfl kp1 (by omega)
                refine lv_goto (tgt := 5) hx hb dX12_inForce_62 (by decide) ?_
                refine ih m4 x14 H locs ls ?_ ?_ ?_ hW (lv_sub hl [0, 1, 2, 3, 4] rfl)
                · show (30 - x14.toInt).toNat < n
                  omega
                · show 0 ≤ x14.toInt ∧ x14.toInt ≤ (J 13 40).toInt ∧ -1 ≤ m4.toInt ∧ m4.toInt < 30 ∧ m4.toInt < (J 13 40).toInt
                  first | omega | exact hi | assumption
                · show IFI m4.toInt (MJ (J 122)) (MJ (J 123)) x14.toInt a0.toInt a1.toInt
                  first | exact if_skip (c := m4.toNatClampNeg) hiv (by have h8 := tcl m4; omega) (by omega) (Or.inl (by show ¬ (J 122 m4.toNatClampNeg).toInt = _; omega)) | exact if_skip (c := m4.toNatClampNeg) hiv (by have h8 := tcl m4; omega) (by omega) (Or.inr (Or.inl (by show _ < (J 123 m4.toNatClampNeg).toInt; omega))) | exact if_skip (c := m4.toNatClampNeg) hiv (by have h8 := tcl m4; omega) (by omega) (Or.inr (Or.inr ⟨fun h => (by omega), fun k9 hk9 => (by have h8 := tcl m3; have e9 : k9 = m3.toNatClampNeg := (by omega); show (J 123 m4.toNatClampNeg).toInt < (J 123 k9).toInt; rw [e9]; omega)⟩)) | exact if_take (c := m4.toNatClampNeg) hiv (by have h8 := tcl m4; omega) (by omega) (by show (J 122 m4.toNatClampNeg).toInt = _; omega) (by show (J 123 m4.toNatClampNeg).toInt ≤ _; omega) (fun k9 hk9 => by first | (exfalso; omega) | (have h8 := tcl m3; have e9 : k9 = m3.toNatClampNeg := (by omega); show (J 123 k9).toInt ≤ (J 123 m4.toNatClampNeg).toInt; rw [e9]; omega)) (by have h8 := tcl m4; omega)
  -- into the loop
  refine loop5 ((30 - (0 : Int32).toInt).toNat + 1) (-1) 0 H locs ls ?_ ?_ ?_ hW (lv_sub hl [0, 1, 2, 3, 4] rfl)
  · exact Nat.lt_succ_self _
  · show 0 ≤ (0 : Int32).toInt ∧ (0 : Int32).toInt ≤ (J 13 40).toInt ∧ -1 ≤ ((-1) : Int32).toInt ∧ ((-1) : Int32).toInt < 30 ∧ ((-1) : Int32).toInt < (J 13 40).toInt
    try rw [kn1]
    try rw [kp0]
    first | omega | exact hi | assumption
  · show IFI ((-1) : Int32).toInt (MJ (J 122)) (MJ (J 123)) (0 : Int32).toInt a0.toInt a1.toInt
    try rw [kn1]
    try rw [kp0]
    exact Or.inl ⟨kn1, inn_0 kp0⟩

set_option maxHeartbeats 4000000 in
set_option maxRecDepth 100000 in
theorem c_X12_bare_e (l : Launch) (g : gG) (J : Nat → Nat → Int32) (L : Nat → Nat → Int64) (I : Nat → Nat → Nat → Int32) (P : Nat → Nat → Nat → Option Nat) (E : Nat → Option Nat) (N : Nat → Nat) (sz : Nat)  (hwm : WM J) : Met l yX12_bare (WS yX12_bare cX12_bare 2 none) (RM (1) 0 0) (PC g [.ref (g.2.2.1 13)] ((J, L, I, P, E, N), sgM g) sz) (va_Qv (fun (u : (Nat → Nat → Int32)) => (∀ k : Nat, k < 128 → u 154 k = 0)) (fun u t => at_ g (FR g ((J, L, I, P, E, N), sgM g) sz) ((hv J [154] [] u, L, I, P, E, N), sgM g) t) (FR g ((J, L, I, P, E, N), sgM g) sz)) 0 0 (FR g ((J, L, I, P, E, N), sgM g) sz) := by
  refine ent (by decide +kernel) (Nat.le_of_ble_eq_true rfl) ?_
  intro p e s m below meth c ls hsz C hW hr hlocks hname hl
  generalize FR g ((J, L, I, P, E, N), sgM g) sz = A at C hW ⊢
  generalize hQ9 : (va_Qv (fun (u : (Nat → Nat → Int32)) => (∀ k : Nat, k < 128 → u 154 k = 0)) (fun u t => at_ g A ((hv J [154] [] u, L, I, P, E, N), sgM g) t) A) = Q9
  have hx := C.1.1
  have hb := C.1.2.1
  have hts := C.1.2.2.2.2
  have hW : WB g A s.heap s.heap [] (J, L, I, P, E, N) (sgM g) := hW
  have hl : lv_has ls 2 [(0, .ref (g.2.2.1 13))] := hl
  obtain ⟨H, hH⟩ : ∃ H : Heap, H = s.heap := ⟨_, rfl⟩
  obtain ⟨locs, hlocs⟩ : ∃ q : List Loc, q = [] := ⟨_, rfl⟩
  have hW : WB g A s.heap H locs (J, L, I, P, E, N) (sgM g) := by rw [hH, hlocs]; exact hW
  obtain ⟨⟨hnd1, hnd2, hon, hhm1, hhm2, hhN, hcu1, hcu2, hco1, hco2, hcN⟩, ⟨hrd1, hrd2⟩, ⟨hnw1, hnw2, hns1, hns2, hof⟩, ⟨htm1, htm2, hts_⟩, ⟨had1, had2, hrw1, hrw2, htp1, htp2⟩⟩ := id hwm
  refine start_ hH hlocs ?_
  refine lv_iconst (v := 0) hx hb dX12_bare_0 (by decide) ?_
  refine lv_istore_n (lv' := [(1, .int 0), (0, .ref (g.2.2.1 13))]) hx hb dX12_bare_1 rfl hl (by decide) rfl (fun ls hl => ?_)
  have loop2 : ∀ (n : Nat) (m1 : Int32) (Gl1 : Nat → Nat → Int32) (H : Heap) (locs : List Loc) (ls : Array Slot), (128 - m1.toInt).toNat < n → 0 ≤ m1.toInt → (∀ k : Nat, (k : Int) < m1.toInt → Gl1 154 k = 0) → WB g A s.heap H locs ((hv J [154] [] Gl1), L, I, P, E, N) (sgM g) → lv_has ls 2 [(1, .int m1), (0, .ref (g.2.2.1 13))] → W p l e (RM (1) 0 0) s m ([.ref (g.2.2.1 13)] : List Value).toArray below meth c H locs 0 0 (MQ below Q9 ([.ref (g.2.2.1 13)] : List Value).toArray s 0 0 A) (F0 m 2 ls []) := by
    intro n
    induction n with
    | zero => intro m1 Gl1 H locs ls hmeas; exact absurd hmeas (Nat.not_lt_zero _)
    | succ n ih =>
      intro m1 Gl1 H locs ls hmeas hi hz hW hl
      refine lv_iload_n hx hb dX12_bare_2 rfl (lv_at hl 0 rfl) ?_
      refine lv_sipush (v := 128) hx hb dX12_bare_3 (by decide) ?_
      refine lv_icmp_ge (tgt := 22) hx hb dX12_bare_6 (by decide) (fun c2 => ?_) (fun c2 => ?_)
      · have c2 : 128 ≤ m1.toInt := tle kp128 rfl c2
        have hWr : WB g A s.heap H locs (hv J [154] [] (hv J [154] [] Gl1), L, I, P, E, N) (sgM g) := by
          rw [← ag_hvE (J := J) (R := [154]) (F := []) (ag_hv rfl rfl ag_rf)]
          exact hW
        subst hQ9
        exact end_v C hr hlocks (hv J [154] [] Gl1) hWr (show ∀ k : Nat, k < 128 → Gl1 154 k = 0 from by exact fun k hk => hz k (by omega)) dX12_bare_22
      · have c2 : m1.toInt < 128 := tnle kp128 rfl c2
        refine lv_aload_n hx hb dX12_bare_9 rfl (lv_at hl 1 rfl) ?_
        refine rg_13_54 C hW (mm_ rfl) tw_1077 dX12_bare_10 ?_
        refine lv_iload_n hx hb dX12_bare_13 rfl (lv_at hl 0 rfl) ?_
        refine lv_iconst (v := 0) hx hb dX12_bare_14 (by decide) ?_
        have hin : vp_in m1 128 := tin rfl (by omega)
        refine rs_154 C hW (mm_ rfl) hin dX12_bare_15 (fun H locs hW => ?_)
        obtain ⟨x3, e3⟩ : ∃ y : Int32, y = m1 + 1 := ⟨_, rfl⟩
        refine lv_iinc (v := x3) (lv' := [(1, .int x3), (0, .ref (g.2.2.1 13))]) hx hb dX12_bare_16 hl (k := 0) rfl (by rw [e3]; rfl) (by decide) rfl (fun ls hl => ?_)
        try have t3 : x3.toInt = m1.toInt + 1 := tadd e3 rfl kp1 (by omega)
        refine lv_goto (tgt := 2) hx hb dX12_bare_19 (by decide) ?_
        have hWl : WB g A s.heap H locs ((hv J [154] [] (up2 (hv J [154] [] Gl1) 154 m1.toNatClampNeg 0)), L, I, P, E, N) (sgM g) := by
          rw [← ag_hvE (J := J) (R := [154]) (F := []) (ag_up (Or.inl rfl) (ag_hv rfl rfl ag_rf))]
          exact hW
        refine ih x3 (up2 (hv J [154] [] Gl1) 154 m1.toNatClampNeg 0) H locs ls ?_ ?_ ?_ hWl (lv_sub hl [0, 1] rfl)
        · show (128 - x3.toInt).toNat < n
          omega
        · show 0 ≤ x3.toInt
          first | omega | exact hi | assumption
        · show ∀ k : Nat, (k : Int) < x3.toInt → (up2 Gl1 154 m1.toNatClampNeg 0) 154 k = 0
          exact zf_s hz (by omega) (by omega)
  -- into the loop
  have hWl : WB g A s.heap H locs ((hv J [154] [] J), L, I, P, E, N) (sgM g) := by
    rw [← ag_hvE (J := J) (R := [154]) (F := []) ag_rf]
    exact hW
  refine loop2 ((128 - (0 : Int32).toInt).toNat + 1) 0 J H locs ls ?_ ?_ ?_ hWl (lv_sub hl [0, 1] rfl)
  · exact Nat.lt_succ_self _
  · show 0 ≤ (0 : Int32).toInt
    try rw [kp0]
    first | omega | exact hi | assumption
  · show ∀ k : Nat, (k : Int) < (0 : Int32).toInt → J 154 k = 0
    try rw [kp0]
    intro k hk; omega

set_option maxHeartbeats 4000000 in
set_option maxRecDepth 100000 in
theorem c_X12_worth_e (l : Launch) (g : gG) (J : Nat → Nat → Int32) (L : Nat → Nat → Int64) (I : Nat → Nat → Nat → Int32) (P : Nat → Nat → Nat → Option Nat) (E : Nat → Option Nat) (N : Nat → Nat) (sz : Nat) (a0 : Int32) (a1 : Int32) (a2 : Int32) (hwm : WM J) : Met l yX12_worth (WS yX12_worth cX12_worth 5 (some .int)) (RM (31) 0 0) (PC g [.ref (g.2.2.1 13), .int a0, .int a1, .int a2] ((J, L, I, P, E, N), sgM g) sz) (va_Qi (fun (r : Int32) (u : (Nat → Nat → Int32)) => (WVM (J 121) (J 122) (J 123) (J 124) (LTR (J 154)) (J 13 40).toInt a0.toInt a1.toInt a2 r)) (fun u t => at_ g (FR g ((J, L, I, P, E, N), sgM g) sz) ((hv J [] [(13, 56), (13, 57), (13, 58), (13, 59), (13, 60)] u, L, I, P, E, N), sgM g) t) (FR g ((J, L, I, P, E, N), sgM g) sz)) 0 0 (FR g ((J, L, I, P, E, N), sgM g) sz) := by
  refine ent (by decide +kernel) (Nat.le_of_ble_eq_true rfl) ?_
  intro p e s m below meth c ls hsz C hW hr hlocks hname hl
  generalize FR g ((J, L, I, P, E, N), sgM g) sz = A at C hW ⊢
  generalize hQ9 : (va_Qi (fun (r : Int32) (u : (Nat → Nat → Int32)) => (WVM (J 121) (J 122) (J 123) (J 124) (LTR (J 154)) (J 13 40).toInt a0.toInt a1.toInt a2 r)) (fun u t => at_ g A ((hv J [] [(13, 56), (13, 57), (13, 58), (13, 59), (13, 60)] u, L, I, P, E, N), sgM g) t) A) = Q9
  have hx := C.1.1
  have hb := C.1.2.1
  have hts := C.1.2.2.2.2
  have hW : WB g A s.heap s.heap [] (J, L, I, P, E, N) (sgM g) := hW
  have hl : lv_has ls 5 [(0, .ref (g.2.2.1 13)), (1, .int a0), (2, .int a1), (3, .int a2)] := hl
  obtain ⟨H, hH⟩ : ∃ H : Heap, H = s.heap := ⟨_, rfl⟩
  obtain ⟨locs, hlocs⟩ : ∃ q : List Loc, q = [] := ⟨_, rfl⟩
  have hW : WB g A s.heap H locs (J, L, I, P, E, N) (sgM g) := by rw [hH, hlocs]; exact hW
  obtain ⟨⟨hnd1, hnd2, hon, hhm1, hhm2, hhN, hcu1, hcu2, hco1, hco2, hcN⟩, ⟨hrd1, hrd2⟩, ⟨hnw1, hnw2, hns1, hns2, hof⟩, ⟨htm1, htm2, hts_⟩, ⟨had1, had2, hrw1, hrw2, htp1, htp2⟩⟩ := id hwm
  refine start_ hH hlocs ?_
  refine lv_aload_n hx hb dX12_worth_0 rfl (lv_at hl 0 rfl) ?_
  refine lv_iload_n hx hb dX12_worth_1 rfl (lv_at hl 1 rfl) ?_
  refine lv_iload_n hx hb dX12_worth_2 rfl (lv_at hl 2 rfl) ?_
  refine ci_ C hW (runV (x := (g.2.2.1 13)) (As := [.int a0, .int a1]) (rest := []) (T := ((J, L, I, P, E, N), sgM g)) C hW (c_X12_inForce_e l g J L I P E N H.size a0 a1 hwm) mi_X12_inForce tw_1338 (recv_ (T := ((J, L, I, P, E, N), sgM g)) C hW (mm_ rfl) rfl rfl) ⟨rfl, rfl, Nat.le_of_ble_eq_true rfl, Nat.le_of_ble_eq_true rfl⟩ rfl hl.1 rfl (Nat.le_of_ble_eq_true rfl) dX12_worth_3 ⟨Nat.le_of_ble_eq_true rfl, Nat.le_of_ble_eq_true rfl⟩) (fun r1 u1 H locs hp1 hW => ?_)
  obtain ⟨hf1_0, hf1_1⟩ : (-1 ≤ r1.toInt ∧ r1.toInt < 30 ∧ (r1.toInt < (J 13 40).toInt)) ∧ (IFI r1.toInt (MJ (J 122)) (MJ (J 123)) (J 13 40).toInt a0.toInt a1.toInt) := hp1
  have hW : WB g A s.heap H locs (J, L, I, P, E, N) (sgM g) := hW
  have hIF := hf1_1
  refine lv_istore (lv' := [(4, .int r1), (0, .ref (g.2.2.1 13)), (1, .int a0), (2, .int a1), (3, .int a2)]) hx hb dX12_worth_6 hl (by decide) rfl (fun ls hl => ?_)
  refine lv_iload hx hb dX12_worth_8 (lv_at hl 0 rfl) ?_
  refine lv_if_ge (tgt := 17) hx hb dX12_worth_10 (by decide) (fun c2 => ?_) (fun c2 => ?_)
  · have c2 : 0 ≤ r1.toInt := tle kp0 rfl c2
    refine lv_aload_n hx hb dX12_worth_17 rfl (lv_at hl 1 rfl) ?_
    refine lv_bipush (v := 60) hx hb dX12_worth_18 (by decide) ?_
    refine lv_iload hx hb dX12_worth_20 (lv_at hl 0 rfl) ?_
    refine lv_imul hx hb dX12_worth_22 ?_
    refine lv_topi (fun x3 (e3 : x3 = 60 * r1) => ?_)
    try have t3 : x3.toInt = 60 * r1.toInt := tmul e3 kp60 rfl (by omega)
    refine lv_aload_n hx hb dX12_worth_23 rfl (lv_at hl 1 rfl) ?_
    refine rg_13_21 C hW (mm_ rfl) tw_1044 dX12_worth_24 ?_
    refine lv_iload hx hb dX12_worth_27 (lv_at hl 0 rfl) ?_
    have hin : vp_in r1 30 := tin rfl (by omega)
    refine ra_121 C hW (mm_ rfl) hin dX12_worth_29 ?_
    refine lv_topi (fun x4 (e4 : x4 = J 121 r1.toNatClampNeg) => ?_)
    have q4 := hts_ r1.toNatClampNeg
    rw [← e4] at q4
    have k4 := tcl r1
    refine ci_ C hW (runV (x := (g.2.2.1 13)) (As := [.int x3, .int x4]) (rest := []) (T := ((J, L, I, P, E, N), sgM g)) C hW (c_X12_goesThrough_e l g J L I P E N H.size x3 x4 hwm (show (x3.toInt < 0 ∧ 0 ≤ x4.toInt ∧ x4.toInt ≤ 60) ∨ (0 ≤ x3.toInt ∧ 0 ≤ x4.toInt ∧ x3.toInt + x4.toInt ≤ 1800) from by omega)) mi_X12_goesThrough tw_1342 (recv_ (T := ((J, L, I, P, E, N), sgM g)) C hW (mm_ rfl) rfl rfl) ⟨rfl, rfl, Nat.le_of_ble_eq_true rfl, Nat.le_of_ble_eq_true rfl⟩ rfl hl.1 rfl (Nat.le_of_ble_eq_true rfl) dX12_worth_30 ⟨Nat.le_of_ble_eq_true rfl, Nat.le_of_ble_eq_true rfl⟩) (fun r5 u5 H locs hp5 hW => ?_)
    obtain ⟨hf5_0, hf5_1⟩ : ((¬ (u5 13 60).toInt = 0 ∧ ∃ c, PT (NX (RBY x3 (J 153) (J 124)) x4) 0 5 0 (u5 13 56).toInt.toNat c ∧ VAL (LTR (J 154)) c r5) ∨ ((u5 13 60).toInt = 0 ∧ PF (NX (RBY x3 (J 153) (J 124)) x4) 0 5 0 (u5 13 56).toInt.toNat)) ∧ (0 ≤ (u5 13 56).toInt) := hp5
    have hW : WB g A s.heap H locs ((hv J [] [(13, 56), (13, 57), (13, 58), (13, 59), (13, 60)] u5), L, I, P, E, N) (sgM g) := hW
    have hGT := hf5_0
    have hWr : WB g A s.heap H locs (hv J [] [(13, 56), (13, 57), (13, 58), (13, 59), (13, 60)] (hv J [] [(13, 56), (13, 57), (13, 58), (13, 59), (13, 60)] u5), L, I, P, E, N) (sgM g) := by
      rw [← ag_hvE (J := J) (R := []) (F := [(13, 56), (13, 57), (13, 58), (13, 59), (13, 60)]) (ag_hv rfl rfl ag_rf)]
      exact hW
    subst hQ9
    exact end_i C hr hlocks (hv J [] [(13, 56), (13, 57), (13, 58), (13, 59), (13, 60)] u5) hWr (show WVM (J 121) (J 122) (J 123) (J 124) (LTR (J 154)) (J 13 40).toInt a0.toInt a1.toInt a2 r5 from by exact wv_k hIF (by omega) (by omega) e4 hGT) dX12_worth_33
  · have c2 : r1.toInt < 0 := tnle kp0 rfl c2
    refine lv_iload_n hx hb dX12_worth_13 rfl (lv_at hl 4 rfl) ?_
    refine lv_goto (tgt := 33) hx hb dX12_worth_14 (by decide) ?_
    have hWr : WB g A s.heap H locs (hv J [] [(13, 56), (13, 57), (13, 58), (13, 59), (13, 60)] J, L, I, P, E, N) (sgM g) := by
      rw [← ag_hvE (J := J) (R := []) (F := [(13, 56), (13, 57), (13, 58), (13, 59), (13, 60)]) ag_rf]
      exact hW
    subst hQ9
    exact end_i C hr hlocks J hWr (show WVM (J 121) (J 122) (J 123) (J 124) (LTR (J 154)) (J 13 40).toInt a0.toInt a1.toInt a2 a2 from by exact wv_n hIF (by omega)) dX12_worth_33

set_option maxHeartbeats 4000000 in
set_option maxRecDepth 100000 in
theorem c_X12_say_e (l : Launch) (g : gG) (J : Nat → Nat → Int32) (L : Nat → Nat → Int64) (I : Nat → Nat → Nat → Int32) (P : Nat → Nat → Nat → Option Nat) (E : Nat → Option Nat) (N : Nat → Nat) (sz : Nat) (a0 : Int32) (a1 : Int32) (a2 : Int32) (hwm : WM J) (hrd : ∀ k : Nat, (k : Int) < (J 13 37).toInt → -9 ≤ (J 114 k).toInt ∧ (J 114 k).toInt ≤ 9999 ∧ 0 ≤ (J 115 k).toInt ∧ (J 115 k).toInt ≤ 10000) (hrs : 0 ≤ (J 13 39).toInt ∧ (J 13 39).toInt ≤ 240) : Met l yX12_say (WS yX12_say cX12_say 5 (some .int)) (RM (32) 0 0) (PC g [.ref (g.2.2.1 13), .int a0, .int a1, .int a2] ((J, L, I, P, E, N), sgM g) sz) (va_Qi (fun (r : Int32) (u : (Nat → Nat → Int32)) => WM (hv J [100, 114, 115, 116, 117, 118, 119, 120, 154] [(13, 31), (13, 45), (13, 56), (13, 57), (13, 58), (13, 59), (13, 60)] u) ∧ ((r.toInt = (-2) ∧ (¬ (0 ≤ a0.toInt ∧ a0.toInt ≤ 5 ∧ ¬ a0.toInt = 3)) ∧ u 13 31 = J 13 31 ∧ u 114 = J 114 ∧ u 115 = J 115 ∧ u 116 = J 116 ∧ u 117 = J 117 ∧ u 118 = J 118 ∧ u 119 = J 119 ∧ u 120 = J 120) ∨ (r.toInt = (-1) ∧ (0 ≤ a0.toInt ∧ a0.toInt ≤ 5 ∧ ¬ a0.toInt = 3 ∧ ¬ (0 ≤ a1.toInt ∧ a1.toInt < (J 13 37).toInt ∧ ((a0.toInt = 1 ∨ a0.toInt = 5) → 0 ≤ a2.toInt ∧ a2.toInt < (J 13 31).toInt) ∧ (a0.toInt = 0 → a2.toInt = -1 ∨ (0 ≤ a2.toInt ∧ a2.toInt < (J 13 42).toInt)))) ∧ u 13 31 = J 13 31 ∧ u 114 = J 114 ∧ u 115 = J 115 ∧ u 116 = J 116 ∧ u 117 = J 117 ∧ u 118 = J 118 ∧ u 119 = J 119 ∧ u 120 = J 120) ∨ (r.toInt = (-3) ∧ (0 ≤ a0.toInt ∧ a0.toInt ≤ 5 ∧ ¬ a0.toInt = 3 ∧ (0 ≤ a1.toInt ∧ a1.toInt < (J 13 37).toInt ∧ ((a0.toInt = 1 ∨ a0.toInt = 5) → 0 ≤ a2.toInt ∧ a2.toInt < (J 13 31).toInt) ∧ (a0.toInt = 0 → a2.toInt = -1 ∨ (0 ≤ a2.toInt ∧ a2.toInt < (J 13 42).toInt))) ∧ ¬ (((J 115 a1.toNatClampNeg).toInt < (J 13 38).toInt ∨ (J 114 a1.toNatClampNeg).toInt + (J 13 39).toInt < (J 13 31).toInt) ∧ ((a0.toInt = 5 → (J 116 a2.toNatClampNeg).toInt = 0) ∧ (a0.toInt = 1 → (J 116 a2.toNatClampNeg).toInt = 0 ∨ (J 116 a2.toNatClampNeg).toInt = 3 ∨ (J 116 a2.toNatClampNeg).toInt = 5)))) ∧ u 13 31 = J 13 31 ∧ u 114 = J 114 ∧ u 115 = J 115 ∧ u 116 = J 116 ∧ u 117 = J 117 ∧ u 118 = J 118 ∧ u 119 = J 119 ∧ u 120 = J 120) ∨ (r.toInt = (-3) ∧ (0 ≤ a0.toInt ∧ a0.toInt ≤ 5 ∧ ¬ a0.toInt = 3 ∧ (0 ≤ a1.toInt ∧ a1.toInt < (J 13 37).toInt ∧ ((a0.toInt = 1 ∨ a0.toInt = 5) → 0 ≤ a2.toInt ∧ a2.toInt < (J 13 31).toInt) ∧ (a0.toInt = 0 → a2.toInt = -1 ∨ (0 ≤ a2.toInt ∧ a2.toInt < (J 13 42).toInt))) ∧ ((J 115 a1.toNatClampNeg).toInt < (J 13 38).toInt ∨ (J 114 a1.toNatClampNeg).toInt + (J 13 39).toInt < (J 13 31).toInt) ∧ ((a0.toInt = 5 → (J 116 a2.toNatClampNeg).toInt = 0) ∧ (a0.toInt = 1 → (J 116 a2.toNatClampNeg).toInt = 0 ∨ (J 116 a2.toNatClampNeg).toInt = 3 ∨ (J 116 a2.toNatClampNeg).toInt = 5)) ∧ a0.toInt = 2) ∧ (∃ v : Int32, WVM (J 121) (J 122) (J 123) (J 124) (SCL 2 (hrw (J 13 31).toInt) (J 113 a1.toNatClampNeg) 0 0 (J 13 33) 0 (J 13 35)) (J 13 40).toInt 3 (J 13 31).toInt 1 v ∧ v.toInt ≤ 0) ∧ u 13 31 = J 13 31 ∧ u 114 = J 114 ∧ u 115 = J 115 ∧ u 116 = J 116 ∧ u 117 = J 117 ∧ u 118 = J 118 ∧ u 119 = J 119 ∧ u 120 = J 120) ∨ (r.toInt = (-6) ∧ (0 ≤ a0.toInt ∧ a0.toInt ≤ 5 ∧ ¬ a0.toInt = 3 ∧ (0 ≤ a1.toInt ∧ a1.toInt < (J 13 37).toInt ∧ ((a0.toInt = 1 ∨ a0.toInt = 5) → 0 ≤ a2.toInt ∧ a2.toInt < (J 13 31).toInt) ∧ (a0.toInt = 0 → a2.toInt = -1 ∨ (0 ≤ a2.toInt ∧ a2.toInt < (J 13 42).toInt))) ∧ ((J 115 a1.toNatClampNeg).toInt < (J 13 38).toInt ∨ (J 114 a1.toNatClampNeg).toInt + (J 13 39).toInt < (J 13 31).toInt) ∧ ((a0.toInt = 5 → (J 116 a2.toNatClampNeg).toInt = 0) ∧ (a0.toInt = 1 → (J 116 a2.toNatClampNeg).toInt = 0 ∨ (J 116 a2.toNatClampNeg).toInt = 3 ∨ (J 116 a2.toNatClampNeg).toInt = 5)) ∧ (J 13 31).toInt = 9999) ∧ (a0.toInt = 2 → (∃ v : Int32, WVM (J 121) (J 122) (J 123) (J 124) (SCL 2 (hrw (J 13 31).toInt) (J 113 a1.toNatClampNeg) 0 0 (J 13 33) 0 (J 13 35)) (J 13 40).toInt 3 (J 13 31).toInt 1 v ∧ 0 < v.toInt)) ∧ u 13 31 = J 13 31 ∧ u 114 = J 114 ∧ u 115 = J 115 ∧ u 116 = J 116 ∧ u 117 = J 117 ∧ u 118 = J 118 ∧ u 119 = J 119 ∧ u 120 = J 120) ∨ (r.toInt = (J 13 31).toInt ∧ (0 ≤ a0.toInt ∧ a0.toInt ≤ 5 ∧ ¬ a0.toInt = 3 ∧ (0 ≤ a1.toInt ∧ a1.toInt < (J 13 37).toInt ∧ ((a0.toInt = 1 ∨ a0.toInt = 5) → 0 ≤ a2.toInt ∧ a2.toInt < (J 13 31).toInt) ∧ (a0.toInt = 0 → a2.toInt = -1 ∨ (0 ≤ a2.toInt ∧ a2.toInt < (J 13 42).toInt))) ∧ ((J 115 a1.toNatClampNeg).toInt < (J 13 38).toInt ∨ (J 114 a1.toNatClampNeg).toInt + (J 13 39).toInt < (J 13 31).toInt) ∧ ((a0.toInt = 5 → (J 116 a2.toNatClampNeg).toInt = 0) ∧ (a0.toInt = 1 → (J 116 a2.toNatClampNeg).toInt = 0 ∨ (J 116 a2.toNatClampNeg).toInt = 3 ∨ (J 116 a2.toNatClampNeg).toInt = 5)) ∧ (J 13 31).toInt ≤ 9998) ∧ (a0.toInt = 2 → (∃ v : Int32, WVM (J 121) (J 122) (J 123) (J 124) (SCL 2 (hrw (J 13 31).toInt) (J 113 a1.toNatClampNeg) 0 0 (J 13 33) 0 (J 13 35)) (J 13 40).toInt 3 (J 13 31).toInt 1 v ∧ 0 < v.toInt)) ∧ (u 13 31).toInt = (J 13 31).toInt + 1 ∧ (∃ v : Int32, v.toInt = (if 0 ≤ (J 114 a1.toNatClampNeg).toInt ∧ (J 114 a1.toNatClampNeg).toInt = (J 13 31).toInt - 1 then (J 115 a1.toNatClampNeg).toInt + 1 else 1) ∧ u 115 = up2 J 115 a1.toNatClampNeg v 115) ∧ u 114 = up2 J 114 a1.toNatClampNeg (J 13 31) 114 ∧ u 116 = up2 J 116 (J 13 31).toNatClampNeg a0 116 ∧ u 117 = up2 J 117 (J 13 31).toNatClampNeg a1 117 ∧ u 118 = up2 J 118 (J 13 31).toNatClampNeg (J 113 a1.toNatClampNeg) 118 ∧ u 119 = up2 J 119 (J 13 31).toNatClampNeg (OFV a0 a2) 119 ∧ u 120 = up2 J 120 (J 13 31).toNatClampNeg (J 13 33) 120))) (fun u t => at_ g (FR g ((J, L, I, P, E, N), sgM g) sz) ((hv J [100, 114, 115, 116, 117, 118, 119, 120, 154] [(13, 31), (13, 45), (13, 56), (13, 57), (13, 58), (13, 59), (13, 60)] u, L, I, P, E, N), sgM g) t) (FR g ((J, L, I, P, E, N), sgM g) sz)) 0 0 (FR g ((J, L, I, P, E, N), sgM g) sz) := by
  refine ent (by decide +kernel) (Nat.le_of_ble_eq_true rfl) ?_
  intro p e s m below meth c ls hsz C hW hr hlocks hname hl
  generalize FR g ((J, L, I, P, E, N), sgM g) sz = A at C hW ⊢
  generalize hQ9 : (va_Qi (fun (r : Int32) (u : (Nat → Nat → Int32)) => WM (hv J [100, 114, 115, 116, 117, 118, 119, 120, 154] [(13, 31), (13, 45), (13, 56), (13, 57), (13, 58), (13, 59), (13, 60)] u) ∧ ((r.toInt = (-2) ∧ (¬ (0 ≤ a0.toInt ∧ a0.toInt ≤ 5 ∧ ¬ a0.toInt = 3)) ∧ u 13 31 = J 13 31 ∧ u 114 = J 114 ∧ u 115 = J 115 ∧ u 116 = J 116 ∧ u 117 = J 117 ∧ u 118 = J 118 ∧ u 119 = J 119 ∧ u 120 = J 120) ∨ (r.toInt = (-1) ∧ (0 ≤ a0.toInt ∧ a0.toInt ≤ 5 ∧ ¬ a0.toInt = 3 ∧ ¬ (0 ≤ a1.toInt ∧ a1.toInt < (J 13 37).toInt ∧ ((a0.toInt = 1 ∨ a0.toInt = 5) → 0 ≤ a2.toInt ∧ a2.toInt < (J 13 31).toInt) ∧ (a0.toInt = 0 → a2.toInt = -1 ∨ (0 ≤ a2.toInt ∧ a2.toInt < (J 13 42).toInt)))) ∧ u 13 31 = J 13 31 ∧ u 114 = J 114 ∧ u 115 = J 115 ∧ u 116 = J 116 ∧ u 117 = J 117 ∧ u 118 = J 118 ∧ u 119 = J 119 ∧ u 120 = J 120) ∨ (r.toInt = (-3) ∧ (0 ≤ a0.toInt ∧ a0.toInt ≤ 5 ∧ ¬ a0.toInt = 3 ∧ (0 ≤ a1.toInt ∧ a1.toInt < (J 13 37).toInt ∧ ((a0.toInt = 1 ∨ a0.toInt = 5) → 0 ≤ a2.toInt ∧ a2.toInt < (J 13 31).toInt) ∧ (a0.toInt = 0 → a2.toInt = -1 ∨ (0 ≤ a2.toInt ∧ a2.toInt < (J 13 42).toInt))) ∧ ¬ (((J 115 a1.toNatClampNeg).toInt < (J 13 38).toInt ∨ (J 114 a1.toNatClampNeg).toInt + (J 13 39).toInt < (J 13 31).toInt) ∧ ((a0.toInt = 5 → (J 116 a2.toNatClampNeg).toInt = 0) ∧ (a0.toInt = 1 → (J 116 a2.toNatClampNeg).toInt = 0 ∨ (J 116 a2.toNatClampNeg).toInt = 3 ∨ (J 116 a2.toNatClampNeg).toInt = 5)))) ∧ u 13 31 = J 13 31 ∧ u 114 = J 114 ∧ u 115 = J 115 ∧ u 116 = J 116 ∧ u 117 = J 117 ∧ u 118 = J 118 ∧ u 119 = J 119 ∧ u 120 = J 120) ∨ (r.toInt = (-3) ∧ (0 ≤ a0.toInt ∧ a0.toInt ≤ 5 ∧ ¬ a0.toInt = 3 ∧ (0 ≤ a1.toInt ∧ a1.toInt < (J 13 37).toInt ∧ ((a0.toInt = 1 ∨ a0.toInt = 5) → 0 ≤ a2.toInt ∧ a2.toInt < (J 13 31).toInt) ∧ (a0.toInt = 0 → a2.toInt = -1 ∨ (0 ≤ a2.toInt ∧ a2.toInt < (J 13 42).toInt))) ∧ ((J 115 a1.toNatClampNeg).toInt < (J 13 38).toInt ∨ (J 114 a1.toNatClampNeg).toInt + (J 13 39).toInt < (J 13 31).toInt) ∧ ((a0.toInt = 5 → (J 116 a2.toNatClampNeg).toInt = 0) ∧ (a0.toInt = 1 → (J 116 a2.toNatClampNeg).toInt = 0 ∨ (J 116 a2.toNatClampNeg).toInt = 3 ∨ (J 116 a2.toNatClampNeg).toInt = 5)) ∧ a0.toInt = 2) ∧ (∃ v : Int32, WVM (J 121) (J 122) (J 123) (J 124) (SCL 2 (hrw (J 13 31).toInt) (J 113 a1.toNatClampNeg) 0 0 (J 13 33) 0 (J 13 35)) (J 13 40).toInt 3 (J 13 31).toInt 1 v ∧ v.toInt ≤ 0) ∧ u 13 31 = J 13 31 ∧ u 114 = J 114 ∧ u 115 = J 115 ∧ u 116 = J 116 ∧ u 117 = J 117 ∧ u 118 = J 118 ∧ u 119 = J 119 ∧ u 120 = J 120) ∨ (r.toInt = (-6) ∧ (0 ≤ a0.toInt ∧ a0.toInt ≤ 5 ∧ ¬ a0.toInt = 3 ∧ (0 ≤ a1.toInt ∧ a1.toInt < (J 13 37).toInt ∧ ((a0.toInt = 1 ∨ a0.toInt = 5) → 0 ≤ a2.toInt ∧ a2.toInt < (J 13 31).toInt) ∧ (a0.toInt = 0 → a2.toInt = -1 ∨ (0 ≤ a2.toInt ∧ a2.toInt < (J 13 42).toInt))) ∧ ((J 115 a1.toNatClampNeg).toInt < (J 13 38).toInt ∨ (J 114 a1.toNatClampNeg).toInt + (J 13 39).toInt < (J 13 31).toInt) ∧ ((a0.toInt = 5 → (J 116 a2.toNatClampNeg).toInt = 0) ∧ (a0.toInt = 1 → (J 116 a2.toNatClampNeg).toInt = 0 ∨ (J 116 a2.toNatClampNeg).toInt = 3 ∨ (J 116 a2.toNatClampNeg).toInt = 5)) ∧ (J 13 31).toInt = 9999) ∧ (a0.toInt = 2 → (∃ v : Int32, WVM (J 121) (J 122) (J 123) (J 124) (SCL 2 (hrw (J 13 31).toInt) (J 113 a1.toNatClampNeg) 0 0 (J 13 33) 0 (J 13 35)) (J 13 40).toInt 3 (J 13 31).toInt 1 v ∧ 0 < v.toInt)) ∧ u 13 31 = J 13 31 ∧ u 114 = J 114 ∧ u 115 = J 115 ∧ u 116 = J 116 ∧ u 117 = J 117 ∧ u 118 = J 118 ∧ u 119 = J 119 ∧ u 120 = J 120) ∨ (r.toInt = (J 13 31).toInt ∧ (0 ≤ a0.toInt ∧ a0.toInt ≤ 5 ∧ ¬ a0.toInt = 3 ∧ (0 ≤ a1.toInt ∧ a1.toInt < (J 13 37).toInt ∧ ((a0.toInt = 1 ∨ a0.toInt = 5) → 0 ≤ a2.toInt ∧ a2.toInt < (J 13 31).toInt) ∧ (a0.toInt = 0 → a2.toInt = -1 ∨ (0 ≤ a2.toInt ∧ a2.toInt < (J 13 42).toInt))) ∧ ((J 115 a1.toNatClampNeg).toInt < (J 13 38).toInt ∨ (J 114 a1.toNatClampNeg).toInt + (J 13 39).toInt < (J 13 31).toInt) ∧ ((a0.toInt = 5 → (J 116 a2.toNatClampNeg).toInt = 0) ∧ (a0.toInt = 1 → (J 116 a2.toNatClampNeg).toInt = 0 ∨ (J 116 a2.toNatClampNeg).toInt = 3 ∨ (J 116 a2.toNatClampNeg).toInt = 5)) ∧ (J 13 31).toInt ≤ 9998) ∧ (a0.toInt = 2 → (∃ v : Int32, WVM (J 121) (J 122) (J 123) (J 124) (SCL 2 (hrw (J 13 31).toInt) (J 113 a1.toNatClampNeg) 0 0 (J 13 33) 0 (J 13 35)) (J 13 40).toInt 3 (J 13 31).toInt 1 v ∧ 0 < v.toInt)) ∧ (u 13 31).toInt = (J 13 31).toInt + 1 ∧ (∃ v : Int32, v.toInt = (if 0 ≤ (J 114 a1.toNatClampNeg).toInt ∧ (J 114 a1.toNatClampNeg).toInt = (J 13 31).toInt - 1 then (J 115 a1.toNatClampNeg).toInt + 1 else 1) ∧ u 115 = up2 J 115 a1.toNatClampNeg v 115) ∧ u 114 = up2 J 114 a1.toNatClampNeg (J 13 31) 114 ∧ u 116 = up2 J 116 (J 13 31).toNatClampNeg a0 116 ∧ u 117 = up2 J 117 (J 13 31).toNatClampNeg a1 117 ∧ u 118 = up2 J 118 (J 13 31).toNatClampNeg (J 113 a1.toNatClampNeg) 118 ∧ u 119 = up2 J 119 (J 13 31).toNatClampNeg (OFV a0 a2) 119 ∧ u 120 = up2 J 120 (J 13 31).toNatClampNeg (J 13 33) 120))) (fun u t => at_ g A ((hv J [100, 114, 115, 116, 117, 118, 119, 120, 154] [(13, 31), (13, 45), (13, 56), (13, 57), (13, 58), (13, 59), (13, 60)] u, L, I, P, E, N), sgM g) t) A) = Q9
  have hx := C.1.1
  have hb := C.1.2.1
  have hts := C.1.2.2.2.2
  have hW : WB g A s.heap s.heap [] (J, L, I, P, E, N) (sgM g) := hW
  have hl : lv_has ls 5 [(0, .ref (g.2.2.1 13)), (1, .int a0), (2, .int a1), (3, .int a2)] := hl
  obtain ⟨H, hH⟩ : ∃ H : Heap, H = s.heap := ⟨_, rfl⟩
  obtain ⟨locs, hlocs⟩ : ∃ q : List Loc, q = [] := ⟨_, rfl⟩
  have hW : WB g A s.heap H locs (J, L, I, P, E, N) (sgM g) := by rw [hH, hlocs]; exact hW
  obtain ⟨⟨hnd1, hnd2, hon, hhm1, hhm2, hhN, hcu1, hcu2, hco1, hco2, hcN⟩, ⟨hrd1, hrd2⟩, ⟨hnw1, hnw2, hns1, hns2, hof⟩, ⟨htm1, htm2, hts_⟩, ⟨had1, had2, hrw1, hrw2, htp1, htp2⟩⟩ := id hwm
  refine start_ hH hlocs ?_
  refine lv_iload_n hx hb dX12_say_0 rfl (lv_at hl 1 rfl) ?_
  refine lv_bipush (v := 6) hx hb dX12_say_1 (by decide) ?_
  refine ci_ C hW (runS (As := [.int a0, .int 6]) (rest := []) (T := ((J, L, I, P, E, N), sgM g)) C hW (c_X12_isIn l g J L I P E N H.size a0 6 ) mi_X12_isIn tw_1255 ⟨rfl, rfl, Nat.le_of_ble_eq_true rfl, Nat.le_of_ble_eq_true rfl⟩ rfl hl.1 rfl (Nat.le_of_ble_eq_true rfl) dX12_say_3 ⟨Nat.le_of_ble_eq_true rfl, Nat.le_of_ble_eq_true rfl⟩) (fun r1 u1 H locs hp1 hW => ?_)
  have hc1 : ((r1.toInt = 1 ∧ (0 ≤ a0.toInt ∧ a0.toInt < 6)) ∨ (r1.toInt = 0 ∧ (¬ (0 ≤ a0.toInt ∧ a0.toInt < 6)))) := hp1
  clear hp1
  have hW : WB g A s.heap H locs (J, L, I, P, E, N) (sgM g) := hW
  refine lv_if_eq (tgt := 14) hx hb dX12_say_6 (by decide) (fun c2 => ?_) (fun c2 => ?_)
  · have c2 : r1.toInt = 0 := teq rfl kp0 c2
    refine lv_aload_n hx hb dX12_say_14 rfl (lv_at hl 0 rfl) ?_
    refine lv_bipush (v := (-2)) hx hb dX12_say_15 (by decide) ?_
    refine ci_ C hW (runV (x := (g.2.2.1 13)) (As := [.int (-2)]) (rest := []) (T := ((J, L, I, P, E, N), sgM g)) C hW (c_X12_refuse l g J L I P E N H.size (-2) (show -6 ≤ (-2 : Int32).toInt ∧ (-2 : Int32).toInt ≤ -1 from by (try simp only [kn2]); omega)) mi_X12_refuse tw_1239 (recv_ (T := ((J, L, I, P, E, N), sgM g)) C hW (mm_ rfl) rfl rfl) ⟨rfl, rfl, Nat.le_of_ble_eq_true rfl, Nat.le_of_ble_eq_true rfl⟩ rfl hl.1 rfl (Nat.le_of_ble_eq_true rfl) dX12_say_17 ⟨Nat.le_of_ble_eq_true rfl, Nat.le_of_ble_eq_true rfl⟩) (fun r3 u3 H locs hp3 hW => ?_)
    have hc3 : ((r3 = (-2))) := hp3
    clear hp3
    have hr3 : r3.toInt = (-2) := by rw [hc3]; exact kn2
    have hW : WB g A s.heap H locs ((hv J [100] [] u3), L, I, P, E, N) (sgM g) := hW
    have hWr : WB g A s.heap H locs (hv J [100, 114, 115, 116, 117, 118, 119, 120, 154] [(13, 31), (13, 45), (13, 56), (13, 57), (13, 58), (13, 59), (13, 60)] (hv J [100] [] u3), L, I, P, E, N) (sgM g) := by
      rw [← ag_hvE (J := J) (R := [100, 114, 115, 116, 117, 118, 119, 120, 154]) (F := [(13, 31), (13, 45), (13, 56), (13, 57), (13, 58), (13, 59), (13, 60)]) (ag_hv rfl rfl ag_rf)]
      exact hW
    have hwmr : WM (hv J [100] [] u3) := by exact hwm
    have hwmr : WM (hv J [100, 114, 115, 116, 117, 118, 119, 120, 154] [(13, 31), (13, 45), (13, 56), (13, 57), (13, 58), (13, 59), (13, 60)] (hv J [100] [] u3)) := by
      rw [← ag_hvE (J := J) (R := [100, 114, 115, 116, 117, 118, 119, 120, 154]) (F := [(13, 31), (13, 45), (13, 56), (13, 57), (13, 58), (13, 59), (13, 60)]) (ag_hv rfl rfl ag_rf)]; exact hwmr
    subst hQ9
    exact end_i C hr hlocks (hv J [100] [] u3) hWr ⟨hwmr, by first | exact Or.inl ⟨by omega, by omega, show J 13 31 = J 13 31 from by first | rfl | assumption, show J 114 = J 114 from by first | rfl | assumption, show J 115 = J 115 from by first | rfl | assumption, show J 116 = J 116 from by first | rfl | assumption, show J 117 = J 117 from by first | rfl | assumption, show J 118 = J 118 from by first | rfl | assumption, show J 119 = J 119 from by first | rfl | assumption, show J 120 = J 120 from by first | rfl | assumption⟩⟩ dX12_say_20
  · have c2 : ¬ r1.toInt = 0 := tne rfl kp0 c2
    refine lv_iload_n hx hb dX12_say_9 rfl (lv_at hl 1 rfl) ?_
    refine lv_iconst (v := 3) hx hb dX12_say_10 (by decide) ?_
    refine lv_icmp_ne (tgt := 21) hx hb dX12_say_11 (by decide) (fun c4 => ?_) (fun c4 => ?_)
    · have c4 : ¬ a0.toInt = 3 := tne rfl kp3 c4
      refine lv_iload_n hx hb dX12_say_21 rfl (lv_at hl 1 rfl) ?_
      refine lv_iconst (v := 1) hx hb dX12_say_22 (by decide) ?_
      refine lv_icmp_eq (tgt := 31) hx hb dX12_say_23 (by decide) (fun c5 => ?_) (fun c5 => ?_)
      · have c5 : a0.toInt = 1 := teq rfl kp1 c5
        refine lv_iconst (v := 1) hx hb dX12_say_31 (by decide) ?_
        refine lv_goto (tgt := 36) hx hb dX12_say_32 (by decide) ?_
        refine lv_istore (lv' := [(4, .int 1), (0, .ref (g.2.2.1 13)), (1, .int a0), (2, .int a1), (3, .int a2)]) hx hb dX12_say_36 hl (by decide) rfl (fun ls hl => ?_)
        refine lv_iload_n hx hb dX12_say_38 rfl (lv_at hl 3 rfl) ?_
        refine lv_aload_n hx hb dX12_say_39 rfl (lv_at hl 1 rfl) ?_
        refine rg_13_37 C hW (mm_ rfl) tw_1060 dX12_say_40 ?_
        refine ci_ C hW (runS (As := [.int a1, .int (J 13 37)]) (rest := []) (T := ((J, L, I, P, E, N), sgM g)) C hW (c_X12_isIn l g J L I P E N H.size a1 (J 13 37) ) mi_X12_isIn tw_1255 ⟨rfl, rfl, Nat.le_of_ble_eq_true rfl, Nat.le_of_ble_eq_true rfl⟩ rfl hl.1 rfl (Nat.le_of_ble_eq_true rfl) dX12_say_43 ⟨Nat.le_of_ble_eq_true rfl, Nat.le_of_ble_eq_true rfl⟩) (fun r6 u6 H locs hp6 hW => ?_)
        have hc6 : ((r6.toInt = 1 ∧ (0 ≤ a1.toInt ∧ a1.toInt < (J 13 37).toInt)) ∨ (r6.toInt = 0 ∧ (¬ (0 ≤ a1.toInt ∧ a1.toInt < (J 13 37).toInt)))) := hp6
        clear hp6
        have hW : WB g A s.heap H locs (J, L, I, P, E, N) (sgM g) := hW
        refine lv_if_eq (tgt := 82) hx hb dX12_say_46 (by decide) (fun c7 => ?_) (fun c7 => ?_)
        · have c7 : r6.toInt = 0 := teq rfl kp0 c7
          refine lv_aload_n hx hb dX12_say_82 rfl (lv_at hl 1 rfl) ?_
          refine lv_iconst (v := (-1)) hx hb dX12_say_83 (by decide) ?_
          refine ci_ C hW (runV (x := (g.2.2.1 13)) (As := [.int (-1)]) (rest := []) (T := ((J, L, I, P, E, N), sgM g)) C hW (c_X12_refuse l g J L I P E N H.size (-1) (show -6 ≤ (-1 : Int32).toInt ∧ (-1 : Int32).toInt ≤ -1 from by (try simp only [kn1]); omega)) mi_X12_refuse tw_1239 (recv_ (T := ((J, L, I, P, E, N), sgM g)) C hW (mm_ rfl) rfl rfl) ⟨rfl, rfl, Nat.le_of_ble_eq_true rfl, Nat.le_of_ble_eq_true rfl⟩ rfl hl.1 rfl (Nat.le_of_ble_eq_true rfl) dX12_say_84 ⟨Nat.le_of_ble_eq_true rfl, Nat.le_of_ble_eq_true rfl⟩) (fun r8 u8 H locs hp8 hW => ?_)
          have hc8 : ((r8 = (-1))) := hp8
          clear hp8
          have hr8 : r8.toInt = (-1) := by rw [hc8]; exact kn1
          have hW : WB g A s.heap H locs ((hv J [100] [] u8), L, I, P, E, N) (sgM g) := hW
          have hWr : WB g A s.heap H locs (hv J [100, 114, 115, 116, 117, 118, 119, 120, 154] [(13, 31), (13, 45), (13, 56), (13, 57), (13, 58), (13, 59), (13, 60)] (hv J [100] [] u8), L, I, P, E, N) (sgM g) := by
            rw [← ag_hvE (J := J) (R := [100, 114, 115, 116, 117, 118, 119, 120, 154]) (F := [(13, 31), (13, 45), (13, 56), (13, 57), (13, 58), (13, 59), (13, 60)]) (ag_hv rfl rfl ag_rf)]
            exact hW
          have hwmr : WM (hv J [100] [] u8) := by exact hwm
          have hwmr : WM (hv J [100, 114, 115, 116, 117, 118, 119, 120, 154] [(13, 31), (13, 45), (13, 56), (13, 57), (13, 58), (13, 59), (13, 60)] (hv J [100] [] u8)) := by
            rw [← ag_hvE (J := J) (R := [100, 114, 115, 116, 117, 118, 119, 120, 154]) (F := [(13, 31), (13, 45), (13, 56), (13, 57), (13, 58), (13, 59), (13, 60)]) (ag_hv rfl rfl ag_rf)]; exact hwmr
          subst hQ9
          exact end_i C hr hlocks (hv J [100] [] u8) hWr ⟨hwmr, by first | exact Or.inr (Or.inl ⟨by omega, by omega, show J 13 31 = J 13 31 from by first | rfl | assumption, show J 114 = J 114 from by first | rfl | assumption, show J 115 = J 115 from by first | rfl | assumption, show J 116 = J 116 from by first | rfl | assumption, show J 117 = J 117 from by first | rfl | assumption, show J 118 = J 118 from by first | rfl | assumption, show J 119 = J 119 from by first | rfl | assumption, show J 120 = J 120 from by first | rfl | assumption⟩)⟩ dX12_say_87
        · have c7 : ¬ r6.toInt = 0 := tne rfl kp0 c7
          refine lv_iload hx hb dX12_say_49 (lv_at hl 0 rfl) ?_
          refine lv_if_eq (tgt := 62) hx hb dX12_say_51 (by decide) (fun c9 => ?_) (fun c9 => ?_)
          · exact absurd c9 (by decide)
          · skip
            refine lv_aload_n hx hb dX12_say_54 rfl (lv_at hl 1 rfl) ?_
            refine lv_iload_n hx hb dX12_say_55 rfl (lv_at hl 4 rfl) ?_
            refine ci_ C hW (runV (x := (g.2.2.1 13)) (As := [.int a2]) (rest := []) (T := ((J, L, I, P, E, N), sgM g)) C hW (c_X12_isPast l g J L I P E N H.size a2 hwm) mi_X12_isPast tw_1326 (recv_ (T := ((J, L, I, P, E, N), sgM g)) C hW (mm_ rfl) rfl rfl) ⟨rfl, rfl, Nat.le_of_ble_eq_true rfl, Nat.le_of_ble_eq_true rfl⟩ rfl hl.1 rfl (Nat.le_of_ble_eq_true rfl) dX12_say_56 ⟨Nat.le_of_ble_eq_true rfl, Nat.le_of_ble_eq_true rfl⟩) (fun r10 u10 H locs hp10 hW => ?_)
            have hc10 : ((r10.toInt = 1 ∧ (0 ≤ a2.toInt ∧ a2.toInt < (J 13 31).toInt)) ∨ (r10.toInt = 0 ∧ (¬ (0 ≤ a2.toInt ∧ a2.toInt < (J 13 31).toInt)))) := hp10
            clear hp10
            have hW : WB g A s.heap H locs (J, L, I, P, E, N) (sgM g) := hW
            refine lv_if_eq (tgt := 82) hx hb dX12_say_59 (by decide) (fun c11 => ?_) (fun c11 => ?_)
            · have c11 : r10.toInt = 0 := teq rfl kp0 c11
              refine lv_aload_n hx hb dX12_say_82 rfl (lv_at hl 1 rfl) ?_
              refine lv_iconst (v := (-1)) hx hb dX12_say_83 (by decide) ?_
              refine ci_ C hW (runV (x := (g.2.2.1 13)) (As := [.int (-1)]) (rest := []) (T := ((J, L, I, P, E, N), sgM g)) C hW (c_X12_refuse l g J L I P E N H.size (-1) (show -6 ≤ (-1 : Int32).toInt ∧ (-1 : Int32).toInt ≤ -1 from by (try simp only [kn1]); omega)) mi_X12_refuse tw_1239 (recv_ (T := ((J, L, I, P, E, N), sgM g)) C hW (mm_ rfl) rfl rfl) ⟨rfl, rfl, Nat.le_of_ble_eq_true rfl, Nat.le_of_ble_eq_true rfl⟩ rfl hl.1 rfl (Nat.le_of_ble_eq_true rfl) dX12_say_84 ⟨Nat.le_of_ble_eq_true rfl, Nat.le_of_ble_eq_true rfl⟩) (fun r12 u12 H locs hp12 hW => ?_)
              have hc12 : ((r12 = (-1))) := hp12
              clear hp12
              have hr12 : r12.toInt = (-1) := by rw [hc12]; exact kn1
              have hW : WB g A s.heap H locs ((hv J [100] [] u12), L, I, P, E, N) (sgM g) := hW
              have hWr : WB g A s.heap H locs (hv J [100, 114, 115, 116, 117, 118, 119, 120, 154] [(13, 31), (13, 45), (13, 56), (13, 57), (13, 58), (13, 59), (13, 60)] (hv J [100] [] u12), L, I, P, E, N) (sgM g) := by
                rw [← ag_hvE (J := J) (R := [100, 114, 115, 116, 117, 118, 119, 120, 154]) (F := [(13, 31), (13, 45), (13, 56), (13, 57), (13, 58), (13, 59), (13, 60)]) (ag_hv rfl rfl ag_rf)]
                exact hW
              have hwmr : WM (hv J [100] [] u12) := by exact hwm
              have hwmr : WM (hv J [100, 114, 115, 116, 117, 118, 119, 120, 154] [(13, 31), (13, 45), (13, 56), (13, 57), (13, 58), (13, 59), (13, 60)] (hv J [100] [] u12)) := by
                rw [← ag_hvE (J := J) (R := [100, 114, 115, 116, 117, 118, 119, 120, 154]) (F := [(13, 31), (13, 45), (13, 56), (13, 57), (13, 58), (13, 59), (13, 60)]) (ag_hv rfl rfl ag_rf)]; exact hwmr
              subst hQ9
              exact end_i C hr hlocks (hv J [100] [] u12) hWr ⟨hwmr, by first | exact Or.inr (Or.inl ⟨by omega, by omega, show J 13 31 = J 13 31 from by first | rfl | assumption, show J 114 = J 114 from by first | rfl | assumption, show J 115 = J 115 from by first | rfl | assumption, show J 116 = J 116 from by first | rfl | assumption, show J 117 = J 117 from by first | rfl | assumption, show J 118 = J 118 from by first | rfl | assumption, show J 119 = J 119 from by first | rfl | assumption, show J 120 = J 120 from by first | rfl | assumption⟩)⟩ dX12_say_87
            · have c11 : ¬ r10.toInt = 0 := tne rfl kp0 c11
              refine lv_iload_n hx hb dX12_say_62 rfl (lv_at hl 2 rfl) ?_
              refine lv_if_ne (tgt := 88) hx hb dX12_say_63 (by decide) (fun c13 => ?_) (fun c13 => ?_)
              · have c13 : ¬ a0.toInt = 0 := tne rfl kp0 c13
                have hr9 := hrd a1.toNatClampNeg (by have h8 := tcl a1; omega)
                refine lv_aload_n hx hb dX12_say_88 rfl (lv_at hl 1 rfl) ?_
                refine lv_iload_n hx hb dX12_say_89 rfl (lv_at hl 3 rfl) ?_
                refine ci_ C hW (runV (x := (g.2.2.1 13)) (As := [.int a1]) (rest := []) (T := ((J, L, I, P, E, N), sgM g)) C hW (c_X12_may_e l g J L I P E N H.size a1 hwm (show 0 ≤ a1.toInt ∧ a1.toInt < 8 from by omega) (show -9 ≤ (J 114 a1.toNatClampNeg).toInt ∧ (J 114 a1.toNatClampNeg).toInt ≤ 9999 ∧ 0 ≤ (J 13 39).toInt ∧ (J 13 39).toInt ≤ 240 from by omega)) mi_X12_may tw_1318 (recv_ (T := ((J, L, I, P, E, N), sgM g)) C hW (mm_ rfl) rfl rfl) ⟨rfl, rfl, Nat.le_of_ble_eq_true rfl, Nat.le_of_ble_eq_true rfl⟩ rfl hl.1 rfl (Nat.le_of_ble_eq_true rfl) dX12_say_90 ⟨Nat.le_of_ble_eq_true rfl, Nat.le_of_ble_eq_true rfl⟩) (fun r14 u14 H locs hp14 hW => ?_)
                have hc14 : ((r14.toInt = 1 ∧ (((J 115 a1.toNatClampNeg).toInt < (J 13 38).toInt ∨ (J 114 a1.toNatClampNeg).toInt + (J 13 39).toInt < (J 13 31).toInt))) ∨ (r14.toInt = 0 ∧ (¬ ((J 115 a1.toNatClampNeg).toInt < (J 13 38).toInt ∨ (J 114 a1.toNatClampNeg).toInt + (J 13 39).toInt < (J 13 31).toInt)))) := hp14
                clear hp14
                have hW : WB g A s.heap H locs (J, L, I, P, E, N) (sgM g) := hW
                refine lv_if_ne (tgt := 103) hx hb dX12_say_93 (by decide) (fun c15 => ?_) (fun c15 => ?_)
                · have c15 : ¬ r14.toInt = 0 := tne rfl kp0 c15
                  refine lv_iload_n hx hb dX12_say_103 rfl (lv_at hl 2 rfl) ?_
                  refine lv_iconst (v := 5) hx hb dX12_say_104 (by decide) ?_
                  refine lv_icmp_ne (tgt := 117) hx hb dX12_say_105 (by decide) (fun c16 => ?_) (fun c16 => ?_)
                  · have c16 : ¬ a0.toInt = 5 := tne rfl kp5 c16
                    refine lv_iload_n hx hb dX12_say_117 rfl (lv_at hl 2 rfl) ?_
                    refine lv_iconst (v := 1) hx hb dX12_say_118 (by decide) ?_
                    refine lv_icmp_ne (tgt := 158) hx hb dX12_say_119 (by decide) (fun c17 => ?_) (fun c17 => ?_)
                    · have c17 : ¬ a0.toInt = 1 := tne rfl kp1 c17
                      exfalso; omega
                    · have c17 : a0.toInt = 1 := teq rfl kp1 c17
                      refine lv_aload_n hx hb dX12_say_122 rfl (lv_at hl 1 rfl) ?_
                      refine rg_13_16 C hW (mm_ rfl) tw_1039 dX12_say_123 ?_
                      refine lv_iload_n hx hb dX12_say_126 rfl (lv_at hl 4 rfl) ?_
                      have hin : vp_in a2 10000 := tin rfl (by omega)
                      refine ra_116 C hW (mm_ rfl) hin dX12_say_127 ?_
                      refine lv_topi (fun x18 (e18 : x18 = J 116 a2.toNatClampNeg) => ?_)
                      have t18 : x18.toInt = (J 116 a2.toNatClampNeg).toInt := by rw [e18]
                      refine lv_if_eq (tgt := 158) hx hb dX12_say_128 (by decide) (fun c19 => ?_) (fun c19 => ?_)
                      · have c19 : x18.toInt = 0 := teq rfl kp0 c19
                        refine lv_iload_n hx hb dX12_say_158 rfl (lv_at hl 2 rfl) ?_
                        refine lv_iconst (v := 2) hx hb dX12_say_159 (by decide) ?_
                        refine lv_icmp_ne (tgt := 247) hx hb dX12_say_160 (by decide) (fun c20 => ?_) (fun c20 => ?_)
                        · have c20 : ¬ a0.toInt = 2 := tne rfl kp2 c20
                          refine lv_aload_n hx hb dX12_say_247 rfl (lv_at hl 1 rfl) ?_
                          refine rg_13_31 C hW (mm_ rfl) tw_1054 dX12_say_248 ?_
                          refine lv_sipush (v := 9999) hx hb dX12_say_251 (by decide) ?_
                          refine lv_icmp_ne (tgt := 264) hx hb dX12_say_254 (by decide) (fun c21 => ?_) (fun c21 => ?_)
                          · have c21 : ¬ (J 13 31).toInt = 9999 := tne rfl kp9999 c21
                            refine lv_aload_n hx hb dX12_say_264 rfl (lv_at hl 1 rfl) ?_
                            refine lv_iload_n hx hb dX12_say_265 rfl (lv_at hl 2 rfl) ?_
                            refine lv_iload_n hx hb dX12_say_266 rfl (lv_at hl 3 rfl) ?_
                            refine lv_iload hx hb dX12_say_267 (lv_at hl 0 rfl) ?_
                            refine lv_if_ne (tgt := 280) hx hb dX12_say_269 (by decide) (fun c22 => ?_) (fun c22 => ?_)
                            · skip
                              refine lv_iload_n hx hb dX12_say_280 rfl (lv_at hl 4 rfl) ?_
                              refine lv_goto (tgt := 286) hx hb dX12_say_281 (by decide) ?_
                              refine ci_ C hW (runV (x := (g.2.2.1 13)) (As := [.int a0, .int a1, .int a2]) (rest := []) (T := ((J, L, I, P, E, N), sgM g)) C hW (c_X12_reads_e l g J L I P E N H.size a0 a1 a2 hwm (show (J 13 31).toInt ≤ 9998 from by omega) (show a0.toInt = 0 → a2.toInt < 40 from by omega) (show 0 ≤ a1.toInt ∧ a1.toInt < 8 from by omega) (show 0 ≤ (J 115 a1.toNatClampNeg).toInt ∧ (J 115 a1.toNatClampNeg).toInt ≤ 10000 from by omega)) mi_X12_reads tw_1378 (recv_ (T := ((J, L, I, P, E, N), sgM g)) C hW (mm_ rfl) rfl rfl) ⟨rfl, rfl, Nat.le_of_ble_eq_true rfl, Nat.le_of_ble_eq_true rfl⟩ rfl hl.1 rfl (Nat.le_of_ble_eq_true rfl) dX12_say_286 ⟨Nat.le_of_ble_eq_true rfl, Nat.le_of_ble_eq_true rfl⟩) (fun r23 u23 H locs hp23 hW => ?_)
                              obtain ⟨hwm, hc23, hf23_0, hf23_1, hf23_2, hf23_3, hf23_4, hf23_5, hf23_6, hf23_7⟩ : WM (hv J [114, 115, 116, 117, 118, 119, 120] [(13, 31), (13, 45)] u23) ∧ ((r23.toInt = (J 13 31).toInt)) ∧ ((u23 13 31).toInt = (J 13 31).toInt + 1) ∧ (∃ v : Int32, v.toInt = (if 0 ≤ (J 114 a1.toNatClampNeg).toInt ∧ (J 114 a1.toNatClampNeg).toInt = (J 13 31).toInt - 1 then (J 115 a1.toNatClampNeg).toInt + 1 else 1) ∧ u23 115 = up2 J 115 a1.toNatClampNeg v 115) ∧ (u23 114 = up2 J 114 a1.toNatClampNeg (J 13 31) 114) ∧ (u23 116 = up2 J 116 (J 13 31).toNatClampNeg a0 116) ∧ (u23 117 = up2 J 117 (J 13 31).toNatClampNeg a1 117) ∧ (u23 118 = up2 J 118 (J 13 31).toNatClampNeg (J 113 a1.toNatClampNeg) 118) ∧ (u23 119 = up2 J 119 (J 13 31).toNatClampNeg a2 119) ∧ (u23 120 = up2 J 120 (J 13 31).toNatClampNeg (J 13 33) 120) := hp23
                              have hwm : WM (hv J [114, 115, 116, 117, 118, 119, 120] [(13, 31), (13, 45)] u23) := hwm
                              have hW : WB g A s.heap H locs ((hv J [114, 115, 116, 117, 118, 119, 120] [(13, 31), (13, 45)] u23), L, I, P, E, N) (sgM g) := hW
                              have hR0 := hf23_0
                              have hR1 := hf23_1
                              have hR2 := hf23_2
                              have hR3 := hf23_3
                              have hR4 := hf23_4
                              have hR5 := hf23_5
                              have hR6 := hf23_6
                              have hR7 := hf23_7
                              have hWr : WB g A s.heap H locs (hv J [100, 114, 115, 116, 117, 118, 119, 120, 154] [(13, 31), (13, 45), (13, 56), (13, 57), (13, 58), (13, 59), (13, 60)] (hv J [114, 115, 116, 117, 118, 119, 120] [(13, 31), (13, 45)] u23), L, I, P, E, N) (sgM g) := by
                                rw [← ag_hvE (J := J) (R := [100, 114, 115, 116, 117, 118, 119, 120, 154]) (F := [(13, 31), (13, 45), (13, 56), (13, 57), (13, 58), (13, 59), (13, 60)]) (ag_hv rfl rfl ag_rf)]
                                exact hW
                              have hwmr : WM (hv J [114, 115, 116, 117, 118, 119, 120] [(13, 31), (13, 45)] u23) := by exact hwm
                              have hwmr : WM (hv J [100, 114, 115, 116, 117, 118, 119, 120, 154] [(13, 31), (13, 45), (13, 56), (13, 57), (13, 58), (13, 59), (13, 60)] (hv J [114, 115, 116, 117, 118, 119, 120] [(13, 31), (13, 45)] u23)) := by
                                rw [← ag_hvE (J := J) (R := [100, 114, 115, 116, 117, 118, 119, 120, 154]) (F := [(13, 31), (13, 45), (13, 56), (13, 57), (13, 58), (13, 59), (13, 60)]) (ag_hv rfl rfl ag_rf)]; exact hwmr
                              subst hQ9
                              exact end_i C hr hlocks (hv J [114, 115, 116, 117, 118, 119, 120] [(13, 31), (13, 45)] u23) hWr ⟨hwmr, by first | exact Or.inr (Or.inr (Or.inr (Or.inr (Or.inr (⟨by omega, by omega, show (a0.toInt = 2 → (∃ v : Int32, WVM (J 121) (J 122) (J 123) (J 124) (SCL 2 (hrw (J 13 31).toInt) (J 113 a1.toNatClampNeg) 0 0 (J 13 33) 0 (J 13 35)) (J 13 40).toInt 3 (J 13 31).toInt 1 v ∧ 0 < v.toInt)) from by first | rfl | (intro h9; exfalso; omega) | (intro h9; exact ⟨_, hWV, by omega⟩) | exact ⟨_, hWV, by omega⟩ | exact hR0 | exact hR1 | exact hR2 | exact hR3 | exact hR4 | exact hR5 | exact hR7 | (rw [← ofv_y (by omega)]; exact hR6) | (rw [← ofv_n (by omega)]; exact hR6), show (u23 13 31).toInt = (J 13 31).toInt + 1 from by first | rfl | (intro h9; exfalso; omega) | (intro h9; exact ⟨_, hWV, by omega⟩) | exact ⟨_, hWV, by omega⟩ | exact hR0 | exact hR1 | exact hR2 | exact hR3 | exact hR4 | exact hR5 | exact hR7 | (rw [← ofv_y (by omega)]; exact hR6) | (rw [← ofv_n (by omega)]; exact hR6), show (∃ v : Int32, v.toInt = (if 0 ≤ (J 114 a1.toNatClampNeg).toInt ∧ (J 114 a1.toNatClampNeg).toInt = (J 13 31).toInt - 1 then (J 115 a1.toNatClampNeg).toInt + 1 else 1) ∧ u23 115 = up2 J 115 a1.toNatClampNeg v 115) from by first | rfl | (intro h9; exfalso; omega) | (intro h9; exact ⟨_, hWV, by omega⟩) | exact ⟨_, hWV, by omega⟩ | exact hR0 | exact hR1 | exact hR2 | exact hR3 | exact hR4 | exact hR5 | exact hR7 | (rw [← ofv_y (by omega)]; exact hR6) | (rw [← ofv_n (by omega)]; exact hR6), show u23 114 = up2 J 114 a1.toNatClampNeg (J 13 31) 114 from by first | rfl | (intro h9; exfalso; omega) | (intro h9; exact ⟨_, hWV, by omega⟩) | exact ⟨_, hWV, by omega⟩ | exact hR0 | exact hR1 | exact hR2 | exact hR3 | exact hR4 | exact hR5 | exact hR7 | (rw [← ofv_y (by omega)]; exact hR6) | (rw [← ofv_n (by omega)]; exact hR6), show u23 116 = up2 J 116 (J 13 31).toNatClampNeg a0 116 from by first | rfl | (intro h9; exfalso; omega) | (intro h9; exact ⟨_, hWV, by omega⟩) | exact ⟨_, hWV, by omega⟩ | exact hR0 | exact hR1 | exact hR2 | exact hR3 | exact hR4 | exact hR5 | exact hR7 | (rw [← ofv_y (by omega)]; exact hR6) | (rw [← ofv_n (by omega)]; exact hR6), show u23 117 = up2 J 117 (J 13 31).toNatClampNeg a1 117 from by first | rfl | (intro h9; exfalso; omega) | (intro h9; exact ⟨_, hWV, by omega⟩) | exact ⟨_, hWV, by omega⟩ | exact hR0 | exact hR1 | exact hR2 | exact hR3 | exact hR4 | exact hR5 | exact hR7 | (rw [← ofv_y (by omega)]; exact hR6) | (rw [← ofv_n (by omega)]; exact hR6), show u23 118 = up2 J 118 (J 13 31).toNatClampNeg (J 113 a1.toNatClampNeg) 118 from by first | rfl | (intro h9; exfalso; omega) | (intro h9; exact ⟨_, hWV, by omega⟩) | exact ⟨_, hWV, by omega⟩ | exact hR0 | exact hR1 | exact hR2 | exact hR3 | exact hR4 | exact hR5 | exact hR7 | (rw [← ofv_y (by omega)]; exact hR6) | (rw [← ofv_n (by omega)]; exact hR6), show u23 119 = up2 J 119 (J 13 31).toNatClampNeg (OFV a0 a2) 119 from by first | rfl | (intro h9; exfalso; omega) | (intro h9; exact ⟨_, hWV, by omega⟩) | exact ⟨_, hWV, by omega⟩ | exact hR0 | exact hR1 | exact hR2 | exact hR3 | exact hR4 | exact hR5 | exact hR7 | (rw [← ofv_y (by omega)]; exact hR6) | (rw [← ofv_n (by omega)]; exact hR6), show u23 120 = up2 J 120 (J 13 31).toNatClampNeg (J 13 33) 120 from by first | rfl | (intro h9; exfalso; omega) | (intro h9; exact ⟨_, hWV, by omega⟩) | exact ⟨_, hWV, by omega⟩ | exact hR0 | exact hR1 | exact hR2 | exact hR3 | exact hR4 | exact hR5 | exact hR7 | (rw [← ofv_y (by omega)]; exact hR6) | (rw [← ofv_n (by omega)]; exact hR6)⟩)))))⟩ dX12_say_289
                            · exact absurd c22 (by decide)
                          · have c21 : (J 13 31).toInt = 9999 := teq rfl kp9999 c21
                            refine lv_aload_n hx hb dX12_say_257 rfl (lv_at hl 1 rfl) ?_
                            refine lv_bipush (v := (-6)) hx hb dX12_say_258 (by decide) ?_
                            refine ci_ C hW (runV (x := (g.2.2.1 13)) (As := [.int (-6)]) (rest := []) (T := ((J, L, I, P, E, N), sgM g)) C hW (c_X12_refuse l g J L I P E N H.size (-6) (show -6 ≤ (-6 : Int32).toInt ∧ (-6 : Int32).toInt ≤ -1 from by (try simp only [kn6]); omega)) mi_X12_refuse tw_1239 (recv_ (T := ((J, L, I, P, E, N), sgM g)) C hW (mm_ rfl) rfl rfl) ⟨rfl, rfl, Nat.le_of_ble_eq_true rfl, Nat.le_of_ble_eq_true rfl⟩ rfl hl.1 rfl (Nat.le_of_ble_eq_true rfl) dX12_say_260 ⟨Nat.le_of_ble_eq_true rfl, Nat.le_of_ble_eq_true rfl⟩) (fun r24 u24 H locs hp24 hW => ?_)
                            have hc24 : ((r24 = (-6))) := hp24
                            clear hp24
                            have hr24 : r24.toInt = (-6) := by rw [hc24]; exact kn6
                            have hW : WB g A s.heap H locs ((hv J [100] [] u24), L, I, P, E, N) (sgM g) := hW
                            have hWr : WB g A s.heap H locs (hv J [100, 114, 115, 116, 117, 118, 119, 120, 154] [(13, 31), (13, 45), (13, 56), (13, 57), (13, 58), (13, 59), (13, 60)] (hv J [100] [] u24), L, I, P, E, N) (sgM g) := by
                              rw [← ag_hvE (J := J) (R := [100, 114, 115, 116, 117, 118, 119, 120, 154]) (F := [(13, 31), (13, 45), (13, 56), (13, 57), (13, 58), (13, 59), (13, 60)]) (ag_hv rfl rfl ag_rf)]
                              exact hW
                            have hwmr : WM (hv J [100] [] u24) := by exact hwm
                            have hwmr : WM (hv J [100, 114, 115, 116, 117, 118, 119, 120, 154] [(13, 31), (13, 45), (13, 56), (13, 57), (13, 58), (13, 59), (13, 60)] (hv J [100] [] u24)) := by
                              rw [← ag_hvE (J := J) (R := [100, 114, 115, 116, 117, 118, 119, 120, 154]) (F := [(13, 31), (13, 45), (13, 56), (13, 57), (13, 58), (13, 59), (13, 60)]) (ag_hv rfl rfl ag_rf)]; exact hwmr
                            subst hQ9
                            exact end_i C hr hlocks (hv J [100] [] u24) hWr ⟨hwmr, by first | exact Or.inr (Or.inr (Or.inr (Or.inr (Or.inl ⟨by omega, by omega, show (a0.toInt = 2 → (∃ v : Int32, WVM (J 121) (J 122) (J 123) (J 124) (SCL 2 (hrw (J 13 31).toInt) (J 113 a1.toNatClampNeg) 0 0 (J 13 33) 0 (J 13 35)) (J 13 40).toInt 3 (J 13 31).toInt 1 v ∧ 0 < v.toInt)) from by first | rfl | (intro h9; exfalso; omega) | (intro h9; exact ⟨_, hWV, by omega⟩) | exact ⟨_, hWV, by omega⟩, show J 13 31 = J 13 31 from by first | rfl | (intro h9; exfalso; omega) | (intro h9; exact ⟨_, hWV, by omega⟩) | exact ⟨_, hWV, by omega⟩, show J 114 = J 114 from by first | rfl | (intro h9; exfalso; omega) | (intro h9; exact ⟨_, hWV, by omega⟩) | exact ⟨_, hWV, by omega⟩, show J 115 = J 115 from by first | rfl | (intro h9; exfalso; omega) | (intro h9; exact ⟨_, hWV, by omega⟩) | exact ⟨_, hWV, by omega⟩, show J 116 = J 116 from by first | rfl | (intro h9; exfalso; omega) | (intro h9; exact ⟨_, hWV, by omega⟩) | exact ⟨_, hWV, by omega⟩, show J 117 = J 117 from by first | rfl | (intro h9; exfalso; omega) | (intro h9; exact ⟨_, hWV, by omega⟩) | exact ⟨_, hWV, by omega⟩, show J 118 = J 118 from by first | rfl | (intro h9; exfalso; omega) | (intro h9; exact ⟨_, hWV, by omega⟩) | exact ⟨_, hWV, by omega⟩, show J 119 = J 119 from by first | rfl | (intro h9; exfalso; omega) | (intro h9; exact ⟨_, hWV, by omega⟩) | exact ⟨_, hWV, by omega⟩, show J 120 = J 120 from by first | rfl | (intro h9; exfalso; omega) | (intro h9; exact ⟨_, hWV, by omega⟩) | exact ⟨_, hWV, by omega⟩⟩))))⟩ dX12_say_263
                        · have c20 : a0.toInt = 2 := teq rfl kp2 c20
                          exfalso; omega
                      · have c19 : ¬ x18.toInt = 0 := tne rfl kp0 c19
                        refine lv_aload_n hx hb dX12_say_131 rfl (lv_at hl 1 rfl) ?_
                        refine rg_13_16 C hW (mm_ rfl) tw_1039 dX12_say_132 ?_
                        refine lv_iload_n hx hb dX12_say_135 rfl (lv_at hl 4 rfl) ?_
                        have hin : vp_in a2 10000 := tin rfl (by omega)
                        refine ra_116 C hW (mm_ rfl) hin dX12_say_136 ?_
                        refine lv_topi (fun x25 (e25 : x25 = J 116 a2.toNatClampNeg) => ?_)
                        have t25 : x25.toInt = (J 116 a2.toNatClampNeg).toInt := by rw [e25]
                        refine lv_iconst (v := 3) hx hb dX12_say_137 (by decide) ?_
                        refine lv_icmp_eq (tgt := 158) hx hb dX12_say_138 (by decide) (fun c26 => ?_) (fun c26 => ?_)
                        · have c26 : x25.toInt = 3 := teq rfl kp3 c26
                          refine lv_iload_n hx hb dX12_say_158 rfl (lv_at hl 2 rfl) ?_
                          refine lv_iconst (v := 2) hx hb dX12_say_159 (by decide) ?_
                          refine lv_icmp_ne (tgt := 247) hx hb dX12_say_160 (by decide) (fun c27 => ?_) (fun c27 => ?_)
                          · have c27 : ¬ a0.toInt = 2 := tne rfl kp2 c27
                            refine lv_aload_n hx hb dX12_say_247 rfl (lv_at hl 1 rfl) ?_
                            refine rg_13_31 C hW (mm_ rfl) tw_1054 dX12_say_248 ?_
                            refine lv_sipush (v := 9999) hx hb dX12_say_251 (by decide) ?_
                            refine lv_icmp_ne (tgt := 264) hx hb dX12_say_254 (by decide) (fun c28 => ?_) (fun c28 => ?_)
                            · have c28 : ¬ (J 13 31).toInt = 9999 := tne rfl kp9999 c28
                              refine lv_aload_n hx hb dX12_say_264 rfl (lv_at hl 1 rfl) ?_
                              refine lv_iload_n hx hb dX12_say_265 rfl (lv_at hl 2 rfl) ?_
                              refine lv_iload_n hx hb dX12_say_266 rfl (lv_at hl 3 rfl) ?_
                              refine lv_iload hx hb dX12_say_267 (lv_at hl 0 rfl) ?_
                              refine lv_if_ne (tgt := 280) hx hb dX12_say_269 (by decide) (fun c29 => ?_) (fun c29 => ?_)
                              · skip
                                refine lv_iload_n hx hb dX12_say_280 rfl (lv_at hl 4 rfl) ?_
                                refine lv_goto (tgt := 286) hx hb dX12_say_281 (by decide) ?_
                                refine ci_ C hW (runV (x := (g.2.2.1 13)) (As := [.int a0, .int a1, .int a2]) (rest := []) (T := ((J, L, I, P, E, N), sgM g)) C hW (c_X12_reads_e l g J L I P E N H.size a0 a1 a2 hwm (show (J 13 31).toInt ≤ 9998 from by omega) (show a0.toInt = 0 → a2.toInt < 40 from by omega) (show 0 ≤ a1.toInt ∧ a1.toInt < 8 from by omega) (show 0 ≤ (J 115 a1.toNatClampNeg).toInt ∧ (J 115 a1.toNatClampNeg).toInt ≤ 10000 from by omega)) mi_X12_reads tw_1378 (recv_ (T := ((J, L, I, P, E, N), sgM g)) C hW (mm_ rfl) rfl rfl) ⟨rfl, rfl, Nat.le_of_ble_eq_true rfl, Nat.le_of_ble_eq_true rfl⟩ rfl hl.1 rfl (Nat.le_of_ble_eq_true rfl) dX12_say_286 ⟨Nat.le_of_ble_eq_true rfl, Nat.le_of_ble_eq_true rfl⟩) (fun r30 u30 H locs hp30 hW => ?_)
                                obtain ⟨hwm, hc30, hf30_0, hf30_1, hf30_2, hf30_3, hf30_4, hf30_5, hf30_6, hf30_7⟩ : WM (hv J [114, 115, 116, 117, 118, 119, 120] [(13, 31), (13, 45)] u30) ∧ ((r30.toInt = (J 13 31).toInt)) ∧ ((u30 13 31).toInt = (J 13 31).toInt + 1) ∧ (∃ v : Int32, v.toInt = (if 0 ≤ (J 114 a1.toNatClampNeg).toInt ∧ (J 114 a1.toNatClampNeg).toInt = (J 13 31).toInt - 1 then (J 115 a1.toNatClampNeg).toInt + 1 else 1) ∧ u30 115 = up2 J 115 a1.toNatClampNeg v 115) ∧ (u30 114 = up2 J 114 a1.toNatClampNeg (J 13 31) 114) ∧ (u30 116 = up2 J 116 (J 13 31).toNatClampNeg a0 116) ∧ (u30 117 = up2 J 117 (J 13 31).toNatClampNeg a1 117) ∧ (u30 118 = up2 J 118 (J 13 31).toNatClampNeg (J 113 a1.toNatClampNeg) 118) ∧ (u30 119 = up2 J 119 (J 13 31).toNatClampNeg a2 119) ∧ (u30 120 = up2 J 120 (J 13 31).toNatClampNeg (J 13 33) 120) := hp30
                                have hwm : WM (hv J [114, 115, 116, 117, 118, 119, 120] [(13, 31), (13, 45)] u30) := hwm
                                have hW : WB g A s.heap H locs ((hv J [114, 115, 116, 117, 118, 119, 120] [(13, 31), (13, 45)] u30), L, I, P, E, N) (sgM g) := hW
                                have hR0 := hf30_0
                                have hR1 := hf30_1
                                have hR2 := hf30_2
                                have hR3 := hf30_3
                                have hR4 := hf30_4
                                have hR5 := hf30_5
                                have hR6 := hf30_6
                                have hR7 := hf30_7
                                have hWr : WB g A s.heap H locs (hv J [100, 114, 115, 116, 117, 118, 119, 120, 154] [(13, 31), (13, 45), (13, 56), (13, 57), (13, 58), (13, 59), (13, 60)] (hv J [114, 115, 116, 117, 118, 119, 120] [(13, 31), (13, 45)] u30), L, I, P, E, N) (sgM g) := by
                                  rw [← ag_hvE (J := J) (R := [100, 114, 115, 116, 117, 118, 119, 120, 154]) (F := [(13, 31), (13, 45), (13, 56), (13, 57), (13, 58), (13, 59), (13, 60)]) (ag_hv rfl rfl ag_rf)]
                                  exact hW
                                have hwmr : WM (hv J [114, 115, 116, 117, 118, 119, 120] [(13, 31), (13, 45)] u30) := by exact hwm
                                have hwmr : WM (hv J [100, 114, 115, 116, 117, 118, 119, 120, 154] [(13, 31), (13, 45), (13, 56), (13, 57), (13, 58), (13, 59), (13, 60)] (hv J [114, 115, 116, 117, 118, 119, 120] [(13, 31), (13, 45)] u30)) := by
                                  rw [← ag_hvE (J := J) (R := [100, 114, 115, 116, 117, 118, 119, 120, 154]) (F := [(13, 31), (13, 45), (13, 56), (13, 57), (13, 58), (13, 59), (13, 60)]) (ag_hv rfl rfl ag_rf)]; exact hwmr
                                subst hQ9
                                exact end_i C hr hlocks (hv J [114, 115, 116, 117, 118, 119, 120] [(13, 31), (13, 45)] u30) hWr ⟨hwmr, by first | exact Or.inr (Or.inr (Or.inr (Or.inr (Or.inr (⟨by omega, by omega, show (a0.toInt = 2 → (∃ v : Int32, WVM (J 121) (J 122) (J 123) (J 124) (SCL 2 (hrw (J 13 31).toInt) (J 113 a1.toNatClampNeg) 0 0 (J 13 33) 0 (J 13 35)) (J 13 40).toInt 3 (J 13 31).toInt 1 v ∧ 0 < v.toInt)) from by first | rfl | (intro h9; exfalso; omega) | (intro h9; exact ⟨_, hWV, by omega⟩) | exact ⟨_, hWV, by omega⟩ | exact hR0 | exact hR1 | exact hR2 | exact hR3 | exact hR4 | exact hR5 | exact hR7 | (rw [← ofv_y (by omega)]; exact hR6) | (rw [← ofv_n (by omega)]; exact hR6), show (u30 13 31).toInt = (J 13 31).toInt + 1 from by first | rfl | (intro h9; exfalso; omega) | (intro h9; exact ⟨_, hWV, by omega⟩) | exact ⟨_, hWV, by omega⟩ | exact hR0 | exact hR1 | exact hR2 | exact hR3 | exact hR4 | exact hR5 | exact hR7 | (rw [← ofv_y (by omega)]; exact hR6) | (rw [← ofv_n (by omega)]; exact hR6), show (∃ v : Int32, v.toInt = (if 0 ≤ (J 114 a1.toNatClampNeg).toInt ∧ (J 114 a1.toNatClampNeg).toInt = (J 13 31).toInt - 1 then (J 115 a1.toNatClampNeg).toInt + 1 else 1) ∧ u30 115 = up2 J 115 a1.toNatClampNeg v 115) from by first | rfl | (intro h9; exfalso; omega) | (intro h9; exact ⟨_, hWV, by omega⟩) | exact ⟨_, hWV, by omega⟩ | exact hR0 | exact hR1 | exact hR2 | exact hR3 | exact hR4 | exact hR5 | exact hR7 | (rw [← ofv_y (by omega)]; exact hR6) | (rw [← ofv_n (by omega)]; exact hR6), show u30 114 = up2 J 114 a1.toNatClampNeg (J 13 31) 114 from by first | rfl | (intro h9; exfalso; omega) | (intro h9; exact ⟨_, hWV, by omega⟩) | exact ⟨_, hWV, by omega⟩ | exact hR0 | exact hR1 | exact hR2 | exact hR3 | exact hR4 | exact hR5 | exact hR7 | (rw [← ofv_y (by omega)]; exact hR6) | (rw [← ofv_n (by omega)]; exact hR6), show u30 116 = up2 J 116 (J 13 31).toNatClampNeg a0 116 from by first | rfl | (intro h9; exfalso; omega) | (intro h9; exact ⟨_, hWV, by omega⟩) | exact ⟨_, hWV, by omega⟩ | exact hR0 | exact hR1 | exact hR2 | exact hR3 | exact hR4 | exact hR5 | exact hR7 | (rw [← ofv_y (by omega)]; exact hR6) | (rw [← ofv_n (by omega)]; exact hR6), show u30 117 = up2 J 117 (J 13 31).toNatClampNeg a1 117 from by first | rfl | (intro h9; exfalso; omega) | (intro h9; exact ⟨_, hWV, by omega⟩) | exact ⟨_, hWV, by omega⟩ | exact hR0 | exact hR1 | exact hR2 | exact hR3 | exact hR4 | exact hR5 | exact hR7 | (rw [← ofv_y (by omega)]; exact hR6) | (rw [← ofv_n (by omega)]; exact hR6), show u30 118 = up2 J 118 (J 13 31).toNatClampNeg (J 113 a1.toNatClampNeg) 118 from by first | rfl | (intro h9; exfalso; omega) | (intro h9; exact ⟨_, hWV, by omega⟩) | exact ⟨_, hWV, by omega⟩ | exact hR0 | exact hR1 | exact hR2 | exact hR3 | exact hR4 | exact hR5 | exact hR7 | (rw [← ofv_y (by omega)]; exact hR6) | (rw [← ofv_n (by omega)]; exact hR6), show u30 119 = up2 J 119 (J 13 31).toNatClampNeg (OFV a0 a2) 119 from by first | rfl | (intro h9; exfalso; omega) | (intro h9; exact ⟨_, hWV, by omega⟩) | exact ⟨_, hWV, by omega⟩ | exact hR0 | exact hR1 | exact hR2 | exact hR3 | exact hR4 | exact hR5 | exact hR7 | (rw [← ofv_y (by omega)]; exact hR6) | (rw [← ofv_n (by omega)]; exact hR6), show u30 120 = up2 J 120 (J 13 31).toNatClampNeg (J 13 33) 120 from by first | rfl | (intro h9; exfalso; omega) | (intro h9; exact ⟨_, hWV, by omega⟩) | exact ⟨_, hWV, by omega⟩ | exact hR0 | exact hR1 | exact hR2 | exact hR3 | exact hR4 | exact hR5 | exact hR7 | (rw [← ofv_y (by omega)]; exact hR6) | (rw [← ofv_n (by omega)]; exact hR6)⟩)))))⟩ dX12_say_289
                              · exact absurd c29 (by decide)
                            · have c28 : (J 13 31).toInt = 9999 := teq rfl kp9999 c28
                              refine lv_aload_n hx hb dX12_say_257 rfl (lv_at hl 1 rfl) ?_
                              refine lv_bipush (v := (-6)) hx hb dX12_say_258 (by decide) ?_
                              refine ci_ C hW (runV (x := (g.2.2.1 13)) (As := [.int (-6)]) (rest := []) (T := ((J, L, I, P, E, N), sgM g)) C hW (c_X12_refuse l g J L I P E N H.size (-6) (show -6 ≤ (-6 : Int32).toInt ∧ (-6 : Int32).toInt ≤ -1 from by (try simp only [kn6]); omega)) mi_X12_refuse tw_1239 (recv_ (T := ((J, L, I, P, E, N), sgM g)) C hW (mm_ rfl) rfl rfl) ⟨rfl, rfl, Nat.le_of_ble_eq_true rfl, Nat.le_of_ble_eq_true rfl⟩ rfl hl.1 rfl (Nat.le_of_ble_eq_true rfl) dX12_say_260 ⟨Nat.le_of_ble_eq_true rfl, Nat.le_of_ble_eq_true rfl⟩) (fun r31 u31 H locs hp31 hW => ?_)
                              have hc31 : ((r31 = (-6))) := hp31
                              clear hp31
                              have hr31 : r31.toInt = (-6) := by rw [hc31]; exact kn6
                              have hW : WB g A s.heap H locs ((hv J [100] [] u31), L, I, P, E, N) (sgM g) := hW
                              have hWr : WB g A s.heap H locs (hv J [100, 114, 115, 116, 117, 118, 119, 120, 154] [(13, 31), (13, 45), (13, 56), (13, 57), (13, 58), (13, 59), (13, 60)] (hv J [100] [] u31), L, I, P, E, N) (sgM g) := by
                                rw [← ag_hvE (J := J) (R := [100, 114, 115, 116, 117, 118, 119, 120, 154]) (F := [(13, 31), (13, 45), (13, 56), (13, 57), (13, 58), (13, 59), (13, 60)]) (ag_hv rfl rfl ag_rf)]
                                exact hW
                              have hwmr : WM (hv J [100] [] u31) := by exact hwm
                              have hwmr : WM (hv J [100, 114, 115, 116, 117, 118, 119, 120, 154] [(13, 31), (13, 45), (13, 56), (13, 57), (13, 58), (13, 59), (13, 60)] (hv J [100] [] u31)) := by
                                rw [← ag_hvE (J := J) (R := [100, 114, 115, 116, 117, 118, 119, 120, 154]) (F := [(13, 31), (13, 45), (13, 56), (13, 57), (13, 58), (13, 59), (13, 60)]) (ag_hv rfl rfl ag_rf)]; exact hwmr
                              subst hQ9
                              exact end_i C hr hlocks (hv J [100] [] u31) hWr ⟨hwmr, by first | exact Or.inr (Or.inr (Or.inr (Or.inr (Or.inl ⟨by omega, by omega, show (a0.toInt = 2 → (∃ v : Int32, WVM (J 121) (J 122) (J 123) (J 124) (SCL 2 (hrw (J 13 31).toInt) (J 113 a1.toNatClampNeg) 0 0 (J 13 33) 0 (J 13 35)) (J 13 40).toInt 3 (J 13 31).toInt 1 v ∧ 0 < v.toInt)) from by first | rfl | (intro h9; exfalso; omega) | (intro h9; exact ⟨_, hWV, by omega⟩) | exact ⟨_, hWV, by omega⟩, show J 13 31 = J 13 31 from by first | rfl | (intro h9; exfalso; omega) | (intro h9; exact ⟨_, hWV, by omega⟩) | exact ⟨_, hWV, by omega⟩, show J 114 = J 114 from by first | rfl | (intro h9; exfalso; omega) | (intro h9; exact ⟨_, hWV, by omega⟩) | exact ⟨_, hWV, by omega⟩, show J 115 = J 115 from by first | rfl | (intro h9; exfalso; omega) | (intro h9; exact ⟨_, hWV, by omega⟩) | exact ⟨_, hWV, by omega⟩, show J 116 = J 116 from by first | rfl | (intro h9; exfalso; omega) | (intro h9; exact ⟨_, hWV, by omega⟩) | exact ⟨_, hWV, by omega⟩, show J 117 = J 117 from by first | rfl | (intro h9; exfalso; omega) | (intro h9; exact ⟨_, hWV, by omega⟩) | exact ⟨_, hWV, by omega⟩, show J 118 = J 118 from by first | rfl | (intro h9; exfalso; omega) | (intro h9; exact ⟨_, hWV, by omega⟩) | exact ⟨_, hWV, by omega⟩, show J 119 = J 119 from by first | rfl | (intro h9; exfalso; omega) | (intro h9; exact ⟨_, hWV, by omega⟩) | exact ⟨_, hWV, by omega⟩, show J 120 = J 120 from by first | rfl | (intro h9; exfalso; omega) | (intro h9; exact ⟨_, hWV, by omega⟩) | exact ⟨_, hWV, by omega⟩⟩))))⟩ dX12_say_263
                          · have c27 : a0.toInt = 2 := teq rfl kp2 c27
                            exfalso; omega
                        · have c26 : ¬ x25.toInt = 3 := tne rfl kp3 c26
                          refine lv_aload_n hx hb dX12_say_141 rfl (lv_at hl 1 rfl) ?_
                          refine rg_13_16 C hW (mm_ rfl) tw_1039 dX12_say_142 ?_
                          refine lv_iload_n hx hb dX12_say_145 rfl (lv_at hl 4 rfl) ?_
                          have hin : vp_in a2 10000 := tin rfl (by omega)
                          refine ra_116 C hW (mm_ rfl) hin dX12_say_146 ?_
                          refine lv_topi (fun x32 (e32 : x32 = J 116 a2.toNatClampNeg) => ?_)
                          have t32 : x32.toInt = (J 116 a2.toNatClampNeg).toInt := by rw [e32]
                          refine lv_iconst (v := 5) hx hb dX12_say_147 (by decide) ?_
                          refine lv_icmp_eq (tgt := 158) hx hb dX12_say_148 (by decide) (fun c33 => ?_) (fun c33 => ?_)
                          · have c33 : x32.toInt = 5 := teq rfl kp5 c33
                            refine lv_iload_n hx hb dX12_say_158 rfl (lv_at hl 2 rfl) ?_
                            refine lv_iconst (v := 2) hx hb dX12_say_159 (by decide) ?_
                            refine lv_icmp_ne (tgt := 247) hx hb dX12_say_160 (by decide) (fun c34 => ?_) (fun c34 => ?_)
                            · have c34 : ¬ a0.toInt = 2 := tne rfl kp2 c34
                              refine lv_aload_n hx hb dX12_say_247 rfl (lv_at hl 1 rfl) ?_
                              refine rg_13_31 C hW (mm_ rfl) tw_1054 dX12_say_248 ?_
                              refine lv_sipush (v := 9999) hx hb dX12_say_251 (by decide) ?_
                              refine lv_icmp_ne (tgt := 264) hx hb dX12_say_254 (by decide) (fun c35 => ?_) (fun c35 => ?_)
                              · have c35 : ¬ (J 13 31).toInt = 9999 := tne rfl kp9999 c35
                                refine lv_aload_n hx hb dX12_say_264 rfl (lv_at hl 1 rfl) ?_
                                refine lv_iload_n hx hb dX12_say_265 rfl (lv_at hl 2 rfl) ?_
                                refine lv_iload_n hx hb dX12_say_266 rfl (lv_at hl 3 rfl) ?_
                                refine lv_iload hx hb dX12_say_267 (lv_at hl 0 rfl) ?_
                                refine lv_if_ne (tgt := 280) hx hb dX12_say_269 (by decide) (fun c36 => ?_) (fun c36 => ?_)
                                · skip
                                  refine lv_iload_n hx hb dX12_say_280 rfl (lv_at hl 4 rfl) ?_
                                  refine lv_goto (tgt := 286) hx hb dX12_say_281 (by decide) ?_
                                  refine ci_ C hW (runV (x := (g.2.2.1 13)) (As := [.int a0, .int a1, .int a2]) (rest := []) (T := ((J, L, I, P, E, N), sgM g)) C hW (c_X12_reads_e l g J L I P E N H.size a0 a1 a2 hwm (show (J 13 31).toInt ≤ 9998 from by omega) (show a0.toInt = 0 → a2.toInt < 40 from by omega) (show 0 ≤ a1.toInt ∧ a1.toInt < 8 from by omega) (show 0 ≤ (J 115 a1.toNatClampNeg).toInt ∧ (J 115 a1.toNatClampNeg).toInt ≤ 10000 from by omega)) mi_X12_reads tw_1378 (recv_ (T := ((J, L, I, P, E, N), sgM g)) C hW (mm_ rfl) rfl rfl) ⟨rfl, rfl, Nat.le_of_ble_eq_true rfl, Nat.le_of_ble_eq_true rfl⟩ rfl hl.1 rfl (Nat.le_of_ble_eq_true rfl) dX12_say_286 ⟨Nat.le_of_ble_eq_true rfl, Nat.le_of_ble_eq_true rfl⟩) (fun r37 u37 H locs hp37 hW => ?_)
                                  obtain ⟨hwm, hc37, hf37_0, hf37_1, hf37_2, hf37_3, hf37_4, hf37_5, hf37_6, hf37_7⟩ : WM (hv J [114, 115, 116, 117, 118, 119, 120] [(13, 31), (13, 45)] u37) ∧ ((r37.toInt = (J 13 31).toInt)) ∧ ((u37 13 31).toInt = (J 13 31).toInt + 1) ∧ (∃ v : Int32, v.toInt = (if 0 ≤ (J 114 a1.toNatClampNeg).toInt ∧ (J 114 a1.toNatClampNeg).toInt = (J 13 31).toInt - 1 then (J 115 a1.toNatClampNeg).toInt + 1 else 1) ∧ u37 115 = up2 J 115 a1.toNatClampNeg v 115) ∧ (u37 114 = up2 J 114 a1.toNatClampNeg (J 13 31) 114) ∧ (u37 116 = up2 J 116 (J 13 31).toNatClampNeg a0 116) ∧ (u37 117 = up2 J 117 (J 13 31).toNatClampNeg a1 117) ∧ (u37 118 = up2 J 118 (J 13 31).toNatClampNeg (J 113 a1.toNatClampNeg) 118) ∧ (u37 119 = up2 J 119 (J 13 31).toNatClampNeg a2 119) ∧ (u37 120 = up2 J 120 (J 13 31).toNatClampNeg (J 13 33) 120) := hp37
                                  have hwm : WM (hv J [114, 115, 116, 117, 118, 119, 120] [(13, 31), (13, 45)] u37) := hwm
                                  have hW : WB g A s.heap H locs ((hv J [114, 115, 116, 117, 118, 119, 120] [(13, 31), (13, 45)] u37), L, I, P, E, N) (sgM g) := hW
                                  have hR0 := hf37_0
                                  have hR1 := hf37_1
                                  have hR2 := hf37_2
                                  have hR3 := hf37_3
                                  have hR4 := hf37_4
                                  have hR5 := hf37_5
                                  have hR6 := hf37_6
                                  have hR7 := hf37_7
                                  have hWr : WB g A s.heap H locs (hv J [100, 114, 115, 116, 117, 118, 119, 120, 154] [(13, 31), (13, 45), (13, 56), (13, 57), (13, 58), (13, 59), (13, 60)] (hv J [114, 115, 116, 117, 118, 119, 120] [(13, 31), (13, 45)] u37), L, I, P, E, N) (sgM g) := by
                                    rw [← ag_hvE (J := J) (R := [100, 114, 115, 116, 117, 118, 119, 120, 154]) (F := [(13, 31), (13, 45), (13, 56), (13, 57), (13, 58), (13, 59), (13, 60)]) (ag_hv rfl rfl ag_rf)]
                                    exact hW
                                  have hwmr : WM (hv J [114, 115, 116, 117, 118, 119, 120] [(13, 31), (13, 45)] u37) := by exact hwm
                                  have hwmr : WM (hv J [100, 114, 115, 116, 117, 118, 119, 120, 154] [(13, 31), (13, 45), (13, 56), (13, 57), (13, 58), (13, 59), (13, 60)] (hv J [114, 115, 116, 117, 118, 119, 120] [(13, 31), (13, 45)] u37)) := by
                                    rw [← ag_hvE (J := J) (R := [100, 114, 115, 116, 117, 118, 119, 120, 154]) (F := [(13, 31), (13, 45), (13, 56), (13, 57), (13, 58), (13, 59), (13, 60)]) (ag_hv rfl rfl ag_rf)]; exact hwmr
                                  subst hQ9
                                  exact end_i C hr hlocks (hv J [114, 115, 116, 117, 118, 119, 120] [(13, 31), (13, 45)] u37) hWr ⟨hwmr, by first | exact Or.inr (Or.inr (Or.inr (Or.inr (Or.inr (⟨by omega, by omega, show (a0.toInt = 2 → (∃ v : Int32, WVM (J 121) (J 122) (J 123) (J 124) (SCL 2 (hrw (J 13 31).toInt) (J 113 a1.toNatClampNeg) 0 0 (J 13 33) 0 (J 13 35)) (J 13 40).toInt 3 (J 13 31).toInt 1 v ∧ 0 < v.toInt)) from by first | rfl | (intro h9; exfalso; omega) | (intro h9; exact ⟨_, hWV, by omega⟩) | exact ⟨_, hWV, by omega⟩ | exact hR0 | exact hR1 | exact hR2 | exact hR3 | exact hR4 | exact hR5 | exact hR7 | (rw [← ofv_y (by omega)]; exact hR6) | (rw [← ofv_n (by omega)]; exact hR6), show (u37 13 31).toInt = (J 13 31).toInt + 1 from by first | rfl | (intro h9; exfalso; omega) | (intro h9; exact ⟨_, hWV, by omega⟩) | exact ⟨_, hWV, by omega⟩ | exact hR0 | exact hR1 | exact hR2 | exact hR3 | exact hR4 | exact hR5 | exact hR7 | (rw [← ofv_y (by omega)]; exact hR6) | (rw [← ofv_n (by omega)]; exact hR6), show (∃ v : Int32, v.toInt = (if 0 ≤ (J 114 a1.toNatClampNeg).toInt ∧ (J 114 a1.toNatClampNeg).toInt = (J 13 31).toInt - 1 then (J 115 a1.toNatClampNeg).toInt + 1 else 1) ∧ u37 115 = up2 J 115 a1.toNatClampNeg v 115) from by first | rfl | (intro h9; exfalso; omega) | (intro h9; exact ⟨_, hWV, by omega⟩) | exact ⟨_, hWV, by omega⟩ | exact hR0 | exact hR1 | exact hR2 | exact hR3 | exact hR4 | exact hR5 | exact hR7 | (rw [← ofv_y (by omega)]; exact hR6) | (rw [← ofv_n (by omega)]; exact hR6), show u37 114 = up2 J 114 a1.toNatClampNeg (J 13 31) 114 from by first | rfl | (intro h9; exfalso; omega) | (intro h9; exact ⟨_, hWV, by omega⟩) | exact ⟨_, hWV, by omega⟩ | exact hR0 | exact hR1 | exact hR2 | exact hR3 | exact hR4 | exact hR5 | exact hR7 | (rw [← ofv_y (by omega)]; exact hR6) | (rw [← ofv_n (by omega)]; exact hR6), show u37 116 = up2 J 116 (J 13 31).toNatClampNeg a0 116 from by first | rfl | (intro h9; exfalso; omega) | (intro h9; exact ⟨_, hWV, by omega⟩) | exact ⟨_, hWV, by omega⟩ | exact hR0 | exact hR1 | exact hR2 | exact hR3 | exact hR4 | exact hR5 | exact hR7 | (rw [← ofv_y (by omega)]; exact hR6) | (rw [← ofv_n (by omega)]; exact hR6), show u37 117 = up2 J 117 (J 13 31).toNatClampNeg a1 117 from by first | rfl | (intro h9; exfalso; omega) | (intro h9; exact ⟨_, hWV, by omega⟩) | exact ⟨_, hWV, by omega⟩ | exact hR0 | exact hR1 | exact hR2 | exact hR3 | exact hR4 | exact hR5 | exact hR7 | (rw [← ofv_y (by omega)]; exact hR6) | (rw [← ofv_n (by omega)]; exact hR6), show u37 118 = up2 J 118 (J 13 31).toNatClampNeg (J 113 a1.toNatClampNeg) 118 from by first | rfl | (intro h9; exfalso; omega) | (intro h9; exact ⟨_, hWV, by omega⟩) | exact ⟨_, hWV, by omega⟩ | exact hR0 | exact hR1 | exact hR2 | exact hR3 | exact hR4 | exact hR5 | exact hR7 | (rw [← ofv_y (by omega)]; exact hR6) | (rw [← ofv_n (by omega)]; exact hR6), show u37 119 = up2 J 119 (J 13 31).toNatClampNeg (OFV a0 a2) 119 from by first | rfl | (intro h9; exfalso; omega) | (intro h9; exact ⟨_, hWV, by omega⟩) | exact ⟨_, hWV, by omega⟩ | exact hR0 | exact hR1 | exact hR2 | exact hR3 | exact hR4 | exact hR5 | exact hR7 | (rw [← ofv_y (by omega)]; exact hR6) | (rw [← ofv_n (by omega)]; exact hR6), show u37 120 = up2 J 120 (J 13 31).toNatClampNeg (J 13 33) 120 from by first | rfl | (intro h9; exfalso; omega) | (intro h9; exact ⟨_, hWV, by omega⟩) | exact ⟨_, hWV, by omega⟩ | exact hR0 | exact hR1 | exact hR2 | exact hR3 | exact hR4 | exact hR5 | exact hR7 | (rw [← ofv_y (by omega)]; exact hR6) | (rw [← ofv_n (by omega)]; exact hR6)⟩)))))⟩ dX12_say_289
                                · exact absurd c36 (by decide)
                              · have c35 : (J 13 31).toInt = 9999 := teq rfl kp9999 c35
                                refine lv_aload_n hx hb dX12_say_257 rfl (lv_at hl 1 rfl) ?_
                                refine lv_bipush (v := (-6)) hx hb dX12_say_258 (by decide) ?_
                                refine ci_ C hW (runV (x := (g.2.2.1 13)) (As := [.int (-6)]) (rest := []) (T := ((J, L, I, P, E, N), sgM g)) C hW (c_X12_refuse l g J L I P E N H.size (-6) (show -6 ≤ (-6 : Int32).toInt ∧ (-6 : Int32).toInt ≤ -1 from by (try simp only [kn6]); omega)) mi_X12_refuse tw_1239 (recv_ (T := ((J, L, I, P, E, N), sgM g)) C hW (mm_ rfl) rfl rfl) ⟨rfl, rfl, Nat.le_of_ble_eq_true rfl, Nat.le_of_ble_eq_true rfl⟩ rfl hl.1 rfl (Nat.le_of_ble_eq_true rfl) dX12_say_260 ⟨Nat.le_of_ble_eq_true rfl, Nat.le_of_ble_eq_true rfl⟩) (fun r38 u38 H locs hp38 hW => ?_)
                                have hc38 : ((r38 = (-6))) := hp38
                                clear hp38
                                have hr38 : r38.toInt = (-6) := by rw [hc38]; exact kn6
                                have hW : WB g A s.heap H locs ((hv J [100] [] u38), L, I, P, E, N) (sgM g) := hW
                                have hWr : WB g A s.heap H locs (hv J [100, 114, 115, 116, 117, 118, 119, 120, 154] [(13, 31), (13, 45), (13, 56), (13, 57), (13, 58), (13, 59), (13, 60)] (hv J [100] [] u38), L, I, P, E, N) (sgM g) := by
                                  rw [← ag_hvE (J := J) (R := [100, 114, 115, 116, 117, 118, 119, 120, 154]) (F := [(13, 31), (13, 45), (13, 56), (13, 57), (13, 58), (13, 59), (13, 60)]) (ag_hv rfl rfl ag_rf)]
                                  exact hW
                                have hwmr : WM (hv J [100] [] u38) := by exact hwm
                                have hwmr : WM (hv J [100, 114, 115, 116, 117, 118, 119, 120, 154] [(13, 31), (13, 45), (13, 56), (13, 57), (13, 58), (13, 59), (13, 60)] (hv J [100] [] u38)) := by
                                  rw [← ag_hvE (J := J) (R := [100, 114, 115, 116, 117, 118, 119, 120, 154]) (F := [(13, 31), (13, 45), (13, 56), (13, 57), (13, 58), (13, 59), (13, 60)]) (ag_hv rfl rfl ag_rf)]; exact hwmr
                                subst hQ9
                                exact end_i C hr hlocks (hv J [100] [] u38) hWr ⟨hwmr, by first | exact Or.inr (Or.inr (Or.inr (Or.inr (Or.inl ⟨by omega, by omega, show (a0.toInt = 2 → (∃ v : Int32, WVM (J 121) (J 122) (J 123) (J 124) (SCL 2 (hrw (J 13 31).toInt) (J 113 a1.toNatClampNeg) 0 0 (J 13 33) 0 (J 13 35)) (J 13 40).toInt 3 (J 13 31).toInt 1 v ∧ 0 < v.toInt)) from by first | rfl | (intro h9; exfalso; omega) | (intro h9; exact ⟨_, hWV, by omega⟩) | exact ⟨_, hWV, by omega⟩, show J 13 31 = J 13 31 from by first | rfl | (intro h9; exfalso; omega) | (intro h9; exact ⟨_, hWV, by omega⟩) | exact ⟨_, hWV, by omega⟩, show J 114 = J 114 from by first | rfl | (intro h9; exfalso; omega) | (intro h9; exact ⟨_, hWV, by omega⟩) | exact ⟨_, hWV, by omega⟩, show J 115 = J 115 from by first | rfl | (intro h9; exfalso; omega) | (intro h9; exact ⟨_, hWV, by omega⟩) | exact ⟨_, hWV, by omega⟩, show J 116 = J 116 from by first | rfl | (intro h9; exfalso; omega) | (intro h9; exact ⟨_, hWV, by omega⟩) | exact ⟨_, hWV, by omega⟩, show J 117 = J 117 from by first | rfl | (intro h9; exfalso; omega) | (intro h9; exact ⟨_, hWV, by omega⟩) | exact ⟨_, hWV, by omega⟩, show J 118 = J 118 from by first | rfl | (intro h9; exfalso; omega) | (intro h9; exact ⟨_, hWV, by omega⟩) | exact ⟨_, hWV, by omega⟩, show J 119 = J 119 from by first | rfl | (intro h9; exfalso; omega) | (intro h9; exact ⟨_, hWV, by omega⟩) | exact ⟨_, hWV, by omega⟩, show J 120 = J 120 from by first | rfl | (intro h9; exfalso; omega) | (intro h9; exact ⟨_, hWV, by omega⟩) | exact ⟨_, hWV, by omega⟩⟩))))⟩ dX12_say_263
                            · have c34 : a0.toInt = 2 := teq rfl kp2 c34
                              exfalso; omega
                          · have c33 : ¬ x32.toInt = 5 := tne rfl kp5 c33
                            refine lv_aload_n hx hb dX12_say_151 rfl (lv_at hl 1 rfl) ?_
                            refine lv_bipush (v := (-3)) hx hb dX12_say_152 (by decide) ?_
                            refine ci_ C hW (runV (x := (g.2.2.1 13)) (As := [.int (-3)]) (rest := []) (T := ((J, L, I, P, E, N), sgM g)) C hW (c_X12_refuse l g J L I P E N H.size (-3) (show -6 ≤ (-3 : Int32).toInt ∧ (-3 : Int32).toInt ≤ -1 from by (try simp only [kn3]); omega)) mi_X12_refuse tw_1239 (recv_ (T := ((J, L, I, P, E, N), sgM g)) C hW (mm_ rfl) rfl rfl) ⟨rfl, rfl, Nat.le_of_ble_eq_true rfl, Nat.le_of_ble_eq_true rfl⟩ rfl hl.1 rfl (Nat.le_of_ble_eq_true rfl) dX12_say_154 ⟨Nat.le_of_ble_eq_true rfl, Nat.le_of_ble_eq_true rfl⟩) (fun r39 u39 H locs hp39 hW => ?_)
                            have hc39 : ((r39 = (-3))) := hp39
                            clear hp39
                            have hr39 : r39.toInt = (-3) := by rw [hc39]; exact kn3
                            have hW : WB g A s.heap H locs ((hv J [100] [] u39), L, I, P, E, N) (sgM g) := hW
                            have hWr : WB g A s.heap H locs (hv J [100, 114, 115, 116, 117, 118, 119, 120, 154] [(13, 31), (13, 45), (13, 56), (13, 57), (13, 58), (13, 59), (13, 60)] (hv J [100] [] u39), L, I, P, E, N) (sgM g) := by
                              rw [← ag_hvE (J := J) (R := [100, 114, 115, 116, 117, 118, 119, 120, 154]) (F := [(13, 31), (13, 45), (13, 56), (13, 57), (13, 58), (13, 59), (13, 60)]) (ag_hv rfl rfl ag_rf)]
                              exact hW
                            have hwmr : WM (hv J [100] [] u39) := by exact hwm
                            have hwmr : WM (hv J [100, 114, 115, 116, 117, 118, 119, 120, 154] [(13, 31), (13, 45), (13, 56), (13, 57), (13, 58), (13, 59), (13, 60)] (hv J [100] [] u39)) := by
                              rw [← ag_hvE (J := J) (R := [100, 114, 115, 116, 117, 118, 119, 120, 154]) (F := [(13, 31), (13, 45), (13, 56), (13, 57), (13, 58), (13, 59), (13, 60)]) (ag_hv rfl rfl ag_rf)]; exact hwmr
                            subst hQ9
                            exact end_i C hr hlocks (hv J [100] [] u39) hWr ⟨hwmr, by first | exact Or.inr (Or.inr (Or.inl ⟨by omega, by omega, show J 13 31 = J 13 31 from by first | rfl | assumption, show J 114 = J 114 from by first | rfl | assumption, show J 115 = J 115 from by first | rfl | assumption, show J 116 = J 116 from by first | rfl | assumption, show J 117 = J 117 from by first | rfl | assumption, show J 118 = J 118 from by first | rfl | assumption, show J 119 = J 119 from by first | rfl | assumption, show J 120 = J 120 from by first | rfl | assumption⟩))⟩ dX12_say_157
                  · have c16 : a0.toInt = 5 := teq rfl kp5 c16
                    exfalso; omega
                · have c15 : r14.toInt = 0 := teq rfl kp0 c15
                  refine lv_aload_n hx hb dX12_say_96 rfl (lv_at hl 1 rfl) ?_
                  refine lv_bipush (v := (-3)) hx hb dX12_say_97 (by decide) ?_
                  refine ci_ C hW (runV (x := (g.2.2.1 13)) (As := [.int (-3)]) (rest := []) (T := ((J, L, I, P, E, N), sgM g)) C hW (c_X12_refuse l g J L I P E N H.size (-3) (show -6 ≤ (-3 : Int32).toInt ∧ (-3 : Int32).toInt ≤ -1 from by (try simp only [kn3]); omega)) mi_X12_refuse tw_1239 (recv_ (T := ((J, L, I, P, E, N), sgM g)) C hW (mm_ rfl) rfl rfl) ⟨rfl, rfl, Nat.le_of_ble_eq_true rfl, Nat.le_of_ble_eq_true rfl⟩ rfl hl.1 rfl (Nat.le_of_ble_eq_true rfl) dX12_say_99 ⟨Nat.le_of_ble_eq_true rfl, Nat.le_of_ble_eq_true rfl⟩) (fun r40 u40 H locs hp40 hW => ?_)
                  have hc40 : ((r40 = (-3))) := hp40
                  clear hp40
                  have hr40 : r40.toInt = (-3) := by rw [hc40]; exact kn3
                  have hW : WB g A s.heap H locs ((hv J [100] [] u40), L, I, P, E, N) (sgM g) := hW
                  have hWr : WB g A s.heap H locs (hv J [100, 114, 115, 116, 117, 118, 119, 120, 154] [(13, 31), (13, 45), (13, 56), (13, 57), (13, 58), (13, 59), (13, 60)] (hv J [100] [] u40), L, I, P, E, N) (sgM g) := by
                    rw [← ag_hvE (J := J) (R := [100, 114, 115, 116, 117, 118, 119, 120, 154]) (F := [(13, 31), (13, 45), (13, 56), (13, 57), (13, 58), (13, 59), (13, 60)]) (ag_hv rfl rfl ag_rf)]
                    exact hW
                  have hwmr : WM (hv J [100] [] u40) := by exact hwm
                  have hwmr : WM (hv J [100, 114, 115, 116, 117, 118, 119, 120, 154] [(13, 31), (13, 45), (13, 56), (13, 57), (13, 58), (13, 59), (13, 60)] (hv J [100] [] u40)) := by
                    rw [← ag_hvE (J := J) (R := [100, 114, 115, 116, 117, 118, 119, 120, 154]) (F := [(13, 31), (13, 45), (13, 56), (13, 57), (13, 58), (13, 59), (13, 60)]) (ag_hv rfl rfl ag_rf)]; exact hwmr
                  subst hQ9
                  exact end_i C hr hlocks (hv J [100] [] u40) hWr ⟨hwmr, by first | exact Or.inr (Or.inr (Or.inl ⟨by omega, by omega, show J 13 31 = J 13 31 from by first | rfl | assumption, show J 114 = J 114 from by first | rfl | assumption, show J 115 = J 115 from by first | rfl | assumption, show J 116 = J 116 from by first | rfl | assumption, show J 117 = J 117 from by first | rfl | assumption, show J 118 = J 118 from by first | rfl | assumption, show J 119 = J 119 from by first | rfl | assumption, show J 120 = J 120 from by first | rfl | assumption⟩))⟩ dX12_say_102
              · have c13 : a0.toInt = 0 := teq rfl kp0 c13
                exfalso; omega
      · have c5 : ¬ a0.toInt = 1 := tne rfl kp1 c5
        refine lv_iload_n hx hb dX12_say_26 rfl (lv_at hl 1 rfl) ?_
        refine lv_iconst (v := 5) hx hb dX12_say_27 (by decide) ?_
        refine lv_icmp_ne (tgt := 35) hx hb dX12_say_28 (by decide) (fun c41 => ?_) (fun c41 => ?_)
        · have c41 : ¬ a0.toInt = 5 := tne rfl kp5 c41
          refine lv_iconst (v := 0) hx hb dX12_say_35 (by decide) ?_
          refine lv_istore (lv' := [(4, .int 0), (0, .ref (g.2.2.1 13)), (1, .int a0), (2, .int a1), (3, .int a2)]) hx hb dX12_say_36 hl (by decide) rfl (fun ls hl => ?_)
          refine lv_iload_n hx hb dX12_say_38 rfl (lv_at hl 3 rfl) ?_
          refine lv_aload_n hx hb dX12_say_39 rfl (lv_at hl 1 rfl) ?_
          refine rg_13_37 C hW (mm_ rfl) tw_1060 dX12_say_40 ?_
          refine ci_ C hW (runS (As := [.int a1, .int (J 13 37)]) (rest := []) (T := ((J, L, I, P, E, N), sgM g)) C hW (c_X12_isIn l g J L I P E N H.size a1 (J 13 37) ) mi_X12_isIn tw_1255 ⟨rfl, rfl, Nat.le_of_ble_eq_true rfl, Nat.le_of_ble_eq_true rfl⟩ rfl hl.1 rfl (Nat.le_of_ble_eq_true rfl) dX12_say_43 ⟨Nat.le_of_ble_eq_true rfl, Nat.le_of_ble_eq_true rfl⟩) (fun r42 u42 H locs hp42 hW => ?_)
          have hc42 : ((r42.toInt = 1 ∧ (0 ≤ a1.toInt ∧ a1.toInt < (J 13 37).toInt)) ∨ (r42.toInt = 0 ∧ (¬ (0 ≤ a1.toInt ∧ a1.toInt < (J 13 37).toInt)))) := hp42
          clear hp42
          have hW : WB g A s.heap H locs (J, L, I, P, E, N) (sgM g) := hW
          refine lv_if_eq (tgt := 82) hx hb dX12_say_46 (by decide) (fun c43 => ?_) (fun c43 => ?_)
          · have c43 : r42.toInt = 0 := teq rfl kp0 c43
            refine lv_aload_n hx hb dX12_say_82 rfl (lv_at hl 1 rfl) ?_
            refine lv_iconst (v := (-1)) hx hb dX12_say_83 (by decide) ?_
            refine ci_ C hW (runV (x := (g.2.2.1 13)) (As := [.int (-1)]) (rest := []) (T := ((J, L, I, P, E, N), sgM g)) C hW (c_X12_refuse l g J L I P E N H.size (-1) (show -6 ≤ (-1 : Int32).toInt ∧ (-1 : Int32).toInt ≤ -1 from by (try simp only [kn1]); omega)) mi_X12_refuse tw_1239 (recv_ (T := ((J, L, I, P, E, N), sgM g)) C hW (mm_ rfl) rfl rfl) ⟨rfl, rfl, Nat.le_of_ble_eq_true rfl, Nat.le_of_ble_eq_true rfl⟩ rfl hl.1 rfl (Nat.le_of_ble_eq_true rfl) dX12_say_84 ⟨Nat.le_of_ble_eq_true rfl, Nat.le_of_ble_eq_true rfl⟩) (fun r44 u44 H locs hp44 hW => ?_)
            have hc44 : ((r44 = (-1))) := hp44
            clear hp44
            have hr44 : r44.toInt = (-1) := by rw [hc44]; exact kn1
            have hW : WB g A s.heap H locs ((hv J [100] [] u44), L, I, P, E, N) (sgM g) := hW
            have hWr : WB g A s.heap H locs (hv J [100, 114, 115, 116, 117, 118, 119, 120, 154] [(13, 31), (13, 45), (13, 56), (13, 57), (13, 58), (13, 59), (13, 60)] (hv J [100] [] u44), L, I, P, E, N) (sgM g) := by
              rw [← ag_hvE (J := J) (R := [100, 114, 115, 116, 117, 118, 119, 120, 154]) (F := [(13, 31), (13, 45), (13, 56), (13, 57), (13, 58), (13, 59), (13, 60)]) (ag_hv rfl rfl ag_rf)]
              exact hW
            have hwmr : WM (hv J [100] [] u44) := by exact hwm
            have hwmr : WM (hv J [100, 114, 115, 116, 117, 118, 119, 120, 154] [(13, 31), (13, 45), (13, 56), (13, 57), (13, 58), (13, 59), (13, 60)] (hv J [100] [] u44)) := by
              rw [← ag_hvE (J := J) (R := [100, 114, 115, 116, 117, 118, 119, 120, 154]) (F := [(13, 31), (13, 45), (13, 56), (13, 57), (13, 58), (13, 59), (13, 60)]) (ag_hv rfl rfl ag_rf)]; exact hwmr
            subst hQ9
            exact end_i C hr hlocks (hv J [100] [] u44) hWr ⟨hwmr, by first | exact Or.inr (Or.inl ⟨by omega, by omega, show J 13 31 = J 13 31 from by first | rfl | assumption, show J 114 = J 114 from by first | rfl | assumption, show J 115 = J 115 from by first | rfl | assumption, show J 116 = J 116 from by first | rfl | assumption, show J 117 = J 117 from by first | rfl | assumption, show J 118 = J 118 from by first | rfl | assumption, show J 119 = J 119 from by first | rfl | assumption, show J 120 = J 120 from by first | rfl | assumption⟩)⟩ dX12_say_87
          · have c43 : ¬ r42.toInt = 0 := tne rfl kp0 c43
            refine lv_iload hx hb dX12_say_49 (lv_at hl 0 rfl) ?_
            refine lv_if_eq (tgt := 62) hx hb dX12_say_51 (by decide) (fun c45 => ?_) (fun c45 => ?_)
            · skip
              refine lv_iload_n hx hb dX12_say_62 rfl (lv_at hl 2 rfl) ?_
              refine lv_if_ne (tgt := 88) hx hb dX12_say_63 (by decide) (fun c46 => ?_) (fun c46 => ?_)
              · have c46 : ¬ a0.toInt = 0 := tne rfl kp0 c46
                have hr9 := hrd a1.toNatClampNeg (by have h8 := tcl a1; omega)
                refine lv_aload_n hx hb dX12_say_88 rfl (lv_at hl 1 rfl) ?_
                refine lv_iload_n hx hb dX12_say_89 rfl (lv_at hl 3 rfl) ?_
                refine ci_ C hW (runV (x := (g.2.2.1 13)) (As := [.int a1]) (rest := []) (T := ((J, L, I, P, E, N), sgM g)) C hW (c_X12_may_e l g J L I P E N H.size a1 hwm (show 0 ≤ a1.toInt ∧ a1.toInt < 8 from by omega) (show -9 ≤ (J 114 a1.toNatClampNeg).toInt ∧ (J 114 a1.toNatClampNeg).toInt ≤ 9999 ∧ 0 ≤ (J 13 39).toInt ∧ (J 13 39).toInt ≤ 240 from by omega)) mi_X12_may tw_1318 (recv_ (T := ((J, L, I, P, E, N), sgM g)) C hW (mm_ rfl) rfl rfl) ⟨rfl, rfl, Nat.le_of_ble_eq_true rfl, Nat.le_of_ble_eq_true rfl⟩ rfl hl.1 rfl (Nat.le_of_ble_eq_true rfl) dX12_say_90 ⟨Nat.le_of_ble_eq_true rfl, Nat.le_of_ble_eq_true rfl⟩) (fun r47 u47 H locs hp47 hW => ?_)
                have hc47 : ((r47.toInt = 1 ∧ (((J 115 a1.toNatClampNeg).toInt < (J 13 38).toInt ∨ (J 114 a1.toNatClampNeg).toInt + (J 13 39).toInt < (J 13 31).toInt))) ∨ (r47.toInt = 0 ∧ (¬ ((J 115 a1.toNatClampNeg).toInt < (J 13 38).toInt ∨ (J 114 a1.toNatClampNeg).toInt + (J 13 39).toInt < (J 13 31).toInt)))) := hp47
                clear hp47
                have hW : WB g A s.heap H locs (J, L, I, P, E, N) (sgM g) := hW
                refine lv_if_ne (tgt := 103) hx hb dX12_say_93 (by decide) (fun c48 => ?_) (fun c48 => ?_)
                · have c48 : ¬ r47.toInt = 0 := tne rfl kp0 c48
                  refine lv_iload_n hx hb dX12_say_103 rfl (lv_at hl 2 rfl) ?_
                  refine lv_iconst (v := 5) hx hb dX12_say_104 (by decide) ?_
                  refine lv_icmp_ne (tgt := 117) hx hb dX12_say_105 (by decide) (fun c49 => ?_) (fun c49 => ?_)
                  · have c49 : ¬ a0.toInt = 5 := tne rfl kp5 c49
                    refine lv_iload_n hx hb dX12_say_117 rfl (lv_at hl 2 rfl) ?_
                    refine lv_iconst (v := 1) hx hb dX12_say_118 (by decide) ?_
                    refine lv_icmp_ne (tgt := 158) hx hb dX12_say_119 (by decide) (fun c50 => ?_) (fun c50 => ?_)
                    · have c50 : ¬ a0.toInt = 1 := tne rfl kp1 c50
                      refine lv_iload_n hx hb dX12_say_158 rfl (lv_at hl 2 rfl) ?_
                      refine lv_iconst (v := 2) hx hb dX12_say_159 (by decide) ?_
                      refine lv_icmp_ne (tgt := 247) hx hb dX12_say_160 (by decide) (fun c51 => ?_) (fun c51 => ?_)
                      · have c51 : ¬ a0.toInt = 2 := tne rfl kp2 c51
                        refine lv_aload_n hx hb dX12_say_247 rfl (lv_at hl 1 rfl) ?_
                        refine rg_13_31 C hW (mm_ rfl) tw_1054 dX12_say_248 ?_
                        refine lv_sipush (v := 9999) hx hb dX12_say_251 (by decide) ?_
                        refine lv_icmp_ne (tgt := 264) hx hb dX12_say_254 (by decide) (fun c52 => ?_) (fun c52 => ?_)
                        · have c52 : ¬ (J 13 31).toInt = 9999 := tne rfl kp9999 c52
                          refine lv_aload_n hx hb dX12_say_264 rfl (lv_at hl 1 rfl) ?_
                          refine lv_iload_n hx hb dX12_say_265 rfl (lv_at hl 2 rfl) ?_
                          refine lv_iload_n hx hb dX12_say_266 rfl (lv_at hl 3 rfl) ?_
                          refine lv_iload hx hb dX12_say_267 (lv_at hl 0 rfl) ?_
                          refine lv_if_ne (tgt := 280) hx hb dX12_say_269 (by decide) (fun c53 => ?_) (fun c53 => ?_)
                          · exact absurd c53 (by decide)
                          · skip
                            refine lv_iload_n hx hb dX12_say_272 rfl (lv_at hl 2 rfl) ?_
                            refine lv_if_ne (tgt := 284) hx hb dX12_say_273 (by decide) (fun c54 => ?_) (fun c54 => ?_)
                            · have c54 : ¬ a0.toInt = 0 := tne rfl kp0 c54
                              refine lv_bipush (v := (-9)) hx hb dX12_say_284 (by decide) ?_
                              refine ci_ C hW (runV (x := (g.2.2.1 13)) (As := [.int a0, .int a1, .int (-9)]) (rest := []) (T := ((J, L, I, P, E, N), sgM g)) C hW (c_X12_reads_e l g J L I P E N H.size a0 a1 (-9) hwm (show (J 13 31).toInt ≤ 9998 from by (try simp only [kn9]); omega) (show a0.toInt = 0 → (-9 : Int32).toInt < 40 from by (try simp only [kn9]); omega) (show 0 ≤ a1.toInt ∧ a1.toInt < 8 from by (try simp only [kn9]); omega) (show 0 ≤ (J 115 a1.toNatClampNeg).toInt ∧ (J 115 a1.toNatClampNeg).toInt ≤ 10000 from by (try simp only [kn9]); omega)) mi_X12_reads tw_1378 (recv_ (T := ((J, L, I, P, E, N), sgM g)) C hW (mm_ rfl) rfl rfl) ⟨rfl, rfl, Nat.le_of_ble_eq_true rfl, Nat.le_of_ble_eq_true rfl⟩ rfl hl.1 rfl (Nat.le_of_ble_eq_true rfl) dX12_say_286 ⟨Nat.le_of_ble_eq_true rfl, Nat.le_of_ble_eq_true rfl⟩) (fun r55 u55 H locs hp55 hW => ?_)
                              obtain ⟨hwm, hc55, hf55_0, hf55_1, hf55_2, hf55_3, hf55_4, hf55_5, hf55_6, hf55_7⟩ : WM (hv J [114, 115, 116, 117, 118, 119, 120] [(13, 31), (13, 45)] u55) ∧ ((r55.toInt = (J 13 31).toInt)) ∧ ((u55 13 31).toInt = (J 13 31).toInt + 1) ∧ (∃ v : Int32, v.toInt = (if 0 ≤ (J 114 a1.toNatClampNeg).toInt ∧ (J 114 a1.toNatClampNeg).toInt = (J 13 31).toInt - 1 then (J 115 a1.toNatClampNeg).toInt + 1 else 1) ∧ u55 115 = up2 J 115 a1.toNatClampNeg v 115) ∧ (u55 114 = up2 J 114 a1.toNatClampNeg (J 13 31) 114) ∧ (u55 116 = up2 J 116 (J 13 31).toNatClampNeg a0 116) ∧ (u55 117 = up2 J 117 (J 13 31).toNatClampNeg a1 117) ∧ (u55 118 = up2 J 118 (J 13 31).toNatClampNeg (J 113 a1.toNatClampNeg) 118) ∧ (u55 119 = up2 J 119 (J 13 31).toNatClampNeg (-9) 119) ∧ (u55 120 = up2 J 120 (J 13 31).toNatClampNeg (J 13 33) 120) := hp55
                              have hwm : WM (hv J [114, 115, 116, 117, 118, 119, 120] [(13, 31), (13, 45)] u55) := hwm
                              have hW : WB g A s.heap H locs ((hv J [114, 115, 116, 117, 118, 119, 120] [(13, 31), (13, 45)] u55), L, I, P, E, N) (sgM g) := hW
                              have hR0 := hf55_0
                              have hR1 := hf55_1
                              have hR2 := hf55_2
                              have hR3 := hf55_3
                              have hR4 := hf55_4
                              have hR5 := hf55_5
                              have hR6 := hf55_6
                              have hR7 := hf55_7
                              have hWr : WB g A s.heap H locs (hv J [100, 114, 115, 116, 117, 118, 119, 120, 154] [(13, 31), (13, 45), (13, 56), (13, 57), (13, 58), (13, 59), (13, 60)] (hv J [114, 115, 116, 117, 118, 119, 120] [(13, 31), (13, 45)] u55), L, I, P, E, N) (sgM g) := by
                                rw [← ag_hvE (J := J) (R := [100, 114, 115, 116, 117, 118, 119, 120, 154]) (F := [(13, 31), (13, 45), (13, 56), (13, 57), (13, 58), (13, 59), (13, 60)]) (ag_hv rfl rfl ag_rf)]
                                exact hW
                              have hwmr : WM (hv J [114, 115, 116, 117, 118, 119, 120] [(13, 31), (13, 45)] u55) := by exact hwm
                              have hwmr : WM (hv J [100, 114, 115, 116, 117, 118, 119, 120, 154] [(13, 31), (13, 45), (13, 56), (13, 57), (13, 58), (13, 59), (13, 60)] (hv J [114, 115, 116, 117, 118, 119, 120] [(13, 31), (13, 45)] u55)) := by
                                rw [← ag_hvE (J := J) (R := [100, 114, 115, 116, 117, 118, 119, 120, 154]) (F := [(13, 31), (13, 45), (13, 56), (13, 57), (13, 58), (13, 59), (13, 60)]) (ag_hv rfl rfl ag_rf)]; exact hwmr
                              subst hQ9
                              exact end_i C hr hlocks (hv J [114, 115, 116, 117, 118, 119, 120] [(13, 31), (13, 45)] u55) hWr ⟨hwmr, by first | exact Or.inr (Or.inr (Or.inr (Or.inr (Or.inr (⟨by omega, by omega, show (a0.toInt = 2 → (∃ v : Int32, WVM (J 121) (J 122) (J 123) (J 124) (SCL 2 (hrw (J 13 31).toInt) (J 113 a1.toNatClampNeg) 0 0 (J 13 33) 0 (J 13 35)) (J 13 40).toInt 3 (J 13 31).toInt 1 v ∧ 0 < v.toInt)) from by first | rfl | (intro h9; exfalso; omega) | (intro h9; exact ⟨_, hWV, by omega⟩) | exact ⟨_, hWV, by omega⟩ | exact hR0 | exact hR1 | exact hR2 | exact hR3 | exact hR4 | exact hR5 | exact hR7 | (rw [← ofv_y (by omega)]; exact hR6) | (rw [← ofv_n (by omega)]; exact hR6), show (u55 13 31).toInt = (J 13 31).toInt + 1 from by first | rfl | (intro h9; exfalso; omega) | (intro h9; exact ⟨_, hWV, by omega⟩) | exact ⟨_, hWV, by omega⟩ | exact hR0 | exact hR1 | exact hR2 | exact hR3 | exact hR4 | exact hR5 | exact hR7 | (rw [← ofv_y (by omega)]; exact hR6) | (rw [← ofv_n (by omega)]; exact hR6), show (∃ v : Int32, v.toInt = (if 0 ≤ (J 114 a1.toNatClampNeg).toInt ∧ (J 114 a1.toNatClampNeg).toInt = (J 13 31).toInt - 1 then (J 115 a1.toNatClampNeg).toInt + 1 else 1) ∧ u55 115 = up2 J 115 a1.toNatClampNeg v 115) from by first | rfl | (intro h9; exfalso; omega) | (intro h9; exact ⟨_, hWV, by omega⟩) | exact ⟨_, hWV, by omega⟩ | exact hR0 | exact hR1 | exact hR2 | exact hR3 | exact hR4 | exact hR5 | exact hR7 | (rw [← ofv_y (by omega)]; exact hR6) | (rw [← ofv_n (by omega)]; exact hR6), show u55 114 = up2 J 114 a1.toNatClampNeg (J 13 31) 114 from by first | rfl | (intro h9; exfalso; omega) | (intro h9; exact ⟨_, hWV, by omega⟩) | exact ⟨_, hWV, by omega⟩ | exact hR0 | exact hR1 | exact hR2 | exact hR3 | exact hR4 | exact hR5 | exact hR7 | (rw [← ofv_y (by omega)]; exact hR6) | (rw [← ofv_n (by omega)]; exact hR6), show u55 116 = up2 J 116 (J 13 31).toNatClampNeg a0 116 from by first | rfl | (intro h9; exfalso; omega) | (intro h9; exact ⟨_, hWV, by omega⟩) | exact ⟨_, hWV, by omega⟩ | exact hR0 | exact hR1 | exact hR2 | exact hR3 | exact hR4 | exact hR5 | exact hR7 | (rw [← ofv_y (by omega)]; exact hR6) | (rw [← ofv_n (by omega)]; exact hR6), show u55 117 = up2 J 117 (J 13 31).toNatClampNeg a1 117 from by first | rfl | (intro h9; exfalso; omega) | (intro h9; exact ⟨_, hWV, by omega⟩) | exact ⟨_, hWV, by omega⟩ | exact hR0 | exact hR1 | exact hR2 | exact hR3 | exact hR4 | exact hR5 | exact hR7 | (rw [← ofv_y (by omega)]; exact hR6) | (rw [← ofv_n (by omega)]; exact hR6), show u55 118 = up2 J 118 (J 13 31).toNatClampNeg (J 113 a1.toNatClampNeg) 118 from by first | rfl | (intro h9; exfalso; omega) | (intro h9; exact ⟨_, hWV, by omega⟩) | exact ⟨_, hWV, by omega⟩ | exact hR0 | exact hR1 | exact hR2 | exact hR3 | exact hR4 | exact hR5 | exact hR7 | (rw [← ofv_y (by omega)]; exact hR6) | (rw [← ofv_n (by omega)]; exact hR6), show u55 119 = up2 J 119 (J 13 31).toNatClampNeg (OFV a0 a2) 119 from by first | rfl | (intro h9; exfalso; omega) | (intro h9; exact ⟨_, hWV, by omega⟩) | exact ⟨_, hWV, by omega⟩ | exact hR0 | exact hR1 | exact hR2 | exact hR3 | exact hR4 | exact hR5 | exact hR7 | (rw [← ofv_y (by omega)]; exact hR6) | (rw [← ofv_n (by omega)]; exact hR6), show u55 120 = up2 J 120 (J 13 31).toNatClampNeg (J 13 33) 120 from by first | rfl | (intro h9; exfalso; omega) | (intro h9; exact ⟨_, hWV, by omega⟩) | exact ⟨_, hWV, by omega⟩ | exact hR0 | exact hR1 | exact hR2 | exact hR3 | exact hR4 | exact hR5 | exact hR7 | (rw [← ofv_y (by omega)]; exact hR6) | (rw [← ofv_n (by omega)]; exact hR6)⟩)))))⟩ dX12_say_289
                            · have c54 : a0.toInt = 0 := teq rfl kp0 c54
                              exfalso; omega
                        · have c52 : (J 13 31).toInt = 9999 := teq rfl kp9999 c52
                          refine lv_aload_n hx hb dX12_say_257 rfl (lv_at hl 1 rfl) ?_
                          refine lv_bipush (v := (-6)) hx hb dX12_say_258 (by decide) ?_
                          refine ci_ C hW (runV (x := (g.2.2.1 13)) (As := [.int (-6)]) (rest := []) (T := ((J, L, I, P, E, N), sgM g)) C hW (c_X12_refuse l g J L I P E N H.size (-6) (show -6 ≤ (-6 : Int32).toInt ∧ (-6 : Int32).toInt ≤ -1 from by (try simp only [kn6]); omega)) mi_X12_refuse tw_1239 (recv_ (T := ((J, L, I, P, E, N), sgM g)) C hW (mm_ rfl) rfl rfl) ⟨rfl, rfl, Nat.le_of_ble_eq_true rfl, Nat.le_of_ble_eq_true rfl⟩ rfl hl.1 rfl (Nat.le_of_ble_eq_true rfl) dX12_say_260 ⟨Nat.le_of_ble_eq_true rfl, Nat.le_of_ble_eq_true rfl⟩) (fun r56 u56 H locs hp56 hW => ?_)
                          have hc56 : ((r56 = (-6))) := hp56
                          clear hp56
                          have hr56 : r56.toInt = (-6) := by rw [hc56]; exact kn6
                          have hW : WB g A s.heap H locs ((hv J [100] [] u56), L, I, P, E, N) (sgM g) := hW
                          have hWr : WB g A s.heap H locs (hv J [100, 114, 115, 116, 117, 118, 119, 120, 154] [(13, 31), (13, 45), (13, 56), (13, 57), (13, 58), (13, 59), (13, 60)] (hv J [100] [] u56), L, I, P, E, N) (sgM g) := by
                            rw [← ag_hvE (J := J) (R := [100, 114, 115, 116, 117, 118, 119, 120, 154]) (F := [(13, 31), (13, 45), (13, 56), (13, 57), (13, 58), (13, 59), (13, 60)]) (ag_hv rfl rfl ag_rf)]
                            exact hW
                          have hwmr : WM (hv J [100] [] u56) := by exact hwm
                          have hwmr : WM (hv J [100, 114, 115, 116, 117, 118, 119, 120, 154] [(13, 31), (13, 45), (13, 56), (13, 57), (13, 58), (13, 59), (13, 60)] (hv J [100] [] u56)) := by
                            rw [← ag_hvE (J := J) (R := [100, 114, 115, 116, 117, 118, 119, 120, 154]) (F := [(13, 31), (13, 45), (13, 56), (13, 57), (13, 58), (13, 59), (13, 60)]) (ag_hv rfl rfl ag_rf)]; exact hwmr
                          subst hQ9
                          exact end_i C hr hlocks (hv J [100] [] u56) hWr ⟨hwmr, by first | exact Or.inr (Or.inr (Or.inr (Or.inr (Or.inl ⟨by omega, by omega, show (a0.toInt = 2 → (∃ v : Int32, WVM (J 121) (J 122) (J 123) (J 124) (SCL 2 (hrw (J 13 31).toInt) (J 113 a1.toNatClampNeg) 0 0 (J 13 33) 0 (J 13 35)) (J 13 40).toInt 3 (J 13 31).toInt 1 v ∧ 0 < v.toInt)) from by first | rfl | (intro h9; exfalso; omega) | (intro h9; exact ⟨_, hWV, by omega⟩) | exact ⟨_, hWV, by omega⟩, show J 13 31 = J 13 31 from by first | rfl | (intro h9; exfalso; omega) | (intro h9; exact ⟨_, hWV, by omega⟩) | exact ⟨_, hWV, by omega⟩, show J 114 = J 114 from by first | rfl | (intro h9; exfalso; omega) | (intro h9; exact ⟨_, hWV, by omega⟩) | exact ⟨_, hWV, by omega⟩, show J 115 = J 115 from by first | rfl | (intro h9; exfalso; omega) | (intro h9; exact ⟨_, hWV, by omega⟩) | exact ⟨_, hWV, by omega⟩, show J 116 = J 116 from by first | rfl | (intro h9; exfalso; omega) | (intro h9; exact ⟨_, hWV, by omega⟩) | exact ⟨_, hWV, by omega⟩, show J 117 = J 117 from by first | rfl | (intro h9; exfalso; omega) | (intro h9; exact ⟨_, hWV, by omega⟩) | exact ⟨_, hWV, by omega⟩, show J 118 = J 118 from by first | rfl | (intro h9; exfalso; omega) | (intro h9; exact ⟨_, hWV, by omega⟩) | exact ⟨_, hWV, by omega⟩, show J 119 = J 119 from by first | rfl | (intro h9; exfalso; omega) | (intro h9; exact ⟨_, hWV, by omega⟩) | exact ⟨_, hWV, by omega⟩, show J 120 = J 120 from by first | rfl | (intro h9; exfalso; omega) | (intro h9; exact ⟨_, hWV, by omega⟩) | exact ⟨_, hWV, by omega⟩⟩))))⟩ dX12_say_263
                      · have c51 : a0.toInt = 2 := teq rfl kp2 c51
                        refine lv_aload_n hx hb dX12_say_163 rfl (lv_at hl 1 rfl) ?_
                        refine cv_ C hW (runV (x := (g.2.2.1 13)) (As := []) (rest := []) (T := ((J, L, I, P, E, N), sgM g)) C hW (c_X12_bare_e l g J L I P E N H.size  hwm) mi_X12_bare tw_1330 (recv_ (T := ((J, L, I, P, E, N), sgM g)) C hW (mm_ rfl) rfl rfl) ⟨rfl, rfl, Nat.le_of_ble_eq_true rfl, Nat.le_of_ble_eq_true rfl⟩ rfl hl.1 rfl (Nat.le_of_ble_eq_true rfl) dX12_say_164 ⟨Nat.le_of_ble_eq_true rfl, Nat.le_of_ble_eq_true rfl⟩) (fun u57 H locs hp57 hW => ?_)
                        have hf57_0 : (∀ k : Nat, k < 128 → u57 154 k = 0) := hp57
                        clear hp57
                        have hW : WB g A s.heap H locs ((hv J [154] [] u57), L, I, P, E, N) (sgM g) := hW
                        have hBR := hf57_0
                        refine lv_aload_n hx hb dX12_say_167 rfl (lv_at hl 1 rfl) ?_
                        refine rg_13_54 C hW (mm_ rfl) tw_1077 dX12_say_168 ?_
                        refine lv_bipush (v := 107) hx hb dX12_say_171 (by decide) ?_
                        refine lv_iconst (v := 2) hx hb dX12_say_173 (by decide) ?_
                        have hin : vp_in 107 128 := tin kp107 (by omega)
                        refine rs_154 C hW (mm_ rfl) hin dX12_say_174 (fun H locs hW => ?_)
                        have hW : WB g A s.heap H locs ((up2 (hv J [154] [] u57) 154 107 2), L, I, P, E, N) (sgM g) := hW
                        refine lv_aload_n hx hb dX12_say_175 rfl (lv_at hl 1 rfl) ?_
                        refine rg_13_54 C hW (mm_ rfl) tw_1077 dX12_say_176 ?_
                        refine lv_bipush (v := 104) hx hb dX12_say_179 (by decide) ?_
                        refine lv_aload_n hx hb dX12_say_181 rfl (lv_at hl 1 rfl) ?_
                        refine rg_13_31 C hW (mm_ rfl) tw_1054 dX12_say_182 ?_
                        refine lv_as (J 13 31) rfl ?_
                        refine lv_bipush (v := 60) hx hb dX12_say_185 (by decide) ?_
                        refine lv_idiv hx hb dX12_say_187 (by decide) ?_
                        refine lv_topi (fun x58 (e58 : x58 = (J 13 31) / 60) => ?_)
                        have t58 : x58.toInt = ((J 13 31).toInt).tdiv 60 := tdiv e58 rfl kp60 (by decide)
                        try rw [tdp (a := (J 13 31).toInt) (by omega)] at t58
                        refine lv_bipush (v := 24) hx hb dX12_say_188 (by decide) ?_
                        refine lv_irem hx hb dX12_say_190 (by decide) ?_
                        refine lv_topi (fun x59 (e59 : x59 = x58 - x58 / 24 * 24) => ?_)
                        have t59 : x59.toInt = x58.toInt.tmod 24 := tmod e59 rfl kp24 (by decide) (by decide)
                        try rw [tmp (a := x58.toInt) (by omega)] at t59
                        have hin : vp_in 104 128 := tin kp104 (by omega)
                        refine rs_154 C hW (mm_ rfl) hin dX12_say_191 (fun H locs hW => ?_)
                        have hW : WB g A s.heap H locs ((up2 (up2 (hv J [154] [] u57) 154 107 2) 154 104 x59), L, I, P, E, N) (sgM g) := hW
                        refine lv_aload_n hx hb dX12_say_192 rfl (lv_at hl 1 rfl) ?_
                        refine rg_13_54 C hW (mm_ rfl) tw_1077 dX12_say_193 ?_
                        refine lv_bipush (v := 118) hx hb dX12_say_196 (by decide) ?_
                        refine lv_aload_n hx hb dX12_say_198 rfl (lv_at hl 1 rfl) ?_
                        refine rg_13_13 C hW (mm_ rfl) tw_1036 dX12_say_199 ?_
                        refine lv_iload_n hx hb dX12_say_202 rfl (lv_at hl 3 rfl) ?_
                        have hin : vp_in a1 8 := tin rfl (by omega)
                        refine ra_113 C hW (mm_ rfl) hin dX12_say_203 ?_
                        refine lv_topi (fun x60 (e60 : x60 = J 113 a1.toNatClampNeg) => ?_)
                        have hin : vp_in 118 128 := tin kp118 (by omega)
                        refine rs_154 C hW (mm_ rfl) hin dX12_say_204 (fun H locs hW => ?_)
                        have hW : WB g A s.heap H locs ((up2 (up2 (up2 (hv J [154] [] u57) 154 107 2) 154 104 x59) 154 118 x60), L, I, P, E, N) (sgM g) := hW
                        refine lv_aload_n hx hb dX12_say_205 rfl (lv_at hl 1 rfl) ?_
                        refine rg_13_54 C hW (mm_ rfl) tw_1077 dX12_say_206 ?_
                        refine lv_bipush (v := 119) hx hb dX12_say_209 (by decide) ?_
                        refine lv_aload_n hx hb dX12_say_211 rfl (lv_at hl 1 rfl) ?_
                        refine rg_13_33 C hW (mm_ rfl) tw_1056 dX12_say_212 ?_
                        refine lv_as (J 13 33) rfl ?_
                        have hin : vp_in 119 128 := tin kp119 (by omega)
                        refine rs_154 C hW (mm_ rfl) hin dX12_say_215 (fun H locs hW => ?_)
                        have hW : WB g A s.heap H locs ((up2 (up2 (up2 (up2 (hv J [154] [] u57) 154 107 2) 154 104 x59) 154 118 x60) 154 119 (J 13 33)), L, I, P, E, N) (sgM g) := hW
                        refine lv_aload_n hx hb dX12_say_216 rfl (lv_at hl 1 rfl) ?_
                        refine rg_13_54 C hW (mm_ rfl) tw_1077 dX12_say_217 ?_
                        refine lv_bipush (v := 110) hx hb dX12_say_220 (by decide) ?_
                        refine lv_aload_n hx hb dX12_say_222 rfl (lv_at hl 1 rfl) ?_
                        refine rg_13_35 C hW (mm_ rfl) tw_1058 dX12_say_223 ?_
                        refine lv_as (J 13 35) rfl ?_
                        have hin : vp_in 110 128 := tin kp110 (by omega)
                        refine rs_154 C hW (mm_ rfl) hin dX12_say_226 (fun H locs hW => ?_)
                        have hW : WB g A s.heap H locs ((up2 (up2 (up2 (up2 (up2 (hv J [154] [] u57) 154 107 2) 154 104 x59) 154 118 x60) 154 119 (J 13 33)) 154 110 (J 13 35)), L, I, P, E, N) (sgM g) := hW
                        refine lv_aload_n hx hb dX12_say_227 rfl (lv_at hl 1 rfl) ?_
                        refine lv_iconst (v := 3) hx hb dX12_say_228 (by decide) ?_
                        refine lv_aload_n hx hb dX12_say_229 rfl (lv_at hl 1 rfl) ?_
                        refine rg_13_31 C hW (mm_ rfl) tw_1054 dX12_say_230 ?_
                        refine lv_as (J 13 31) rfl ?_
                        refine lv_iconst (v := 1) hx hb dX12_say_233 (by decide) ?_
                        refine ci_ C hW (runV (x := (g.2.2.1 13)) (As := [.int 3, .int (J 13 31), .int 1]) (rest := []) (T := (((up2 (up2 (up2 (up2 (up2 (hv J [154] [] u57) 154 107 2) 154 104 x59) 154 118 x60) 154 119 (J 13 33)) 154 110 (J 13 35)), L, I, P, E, N), sgM g)) C hW (c_X12_worth_e l g (up2 (up2 (up2 (up2 (up2 (hv J [154] [] u57) 154 107 2) 154 104 x59) 154 118 x60) 154 119 (J 13 33)) 154 110 (J 13 35)) L I P E N H.size 3 (J 13 31) 1 hwm) mi_X12_worth tw_1334 (recv_ (T := (((up2 (up2 (up2 (up2 (up2 (hv J [154] [] u57) 154 107 2) 154 104 x59) 154 118 x60) 154 119 (J 13 33)) 154 110 (J 13 35)), L, I, P, E, N), sgM g)) C hW (mm_ rfl) rfl rfl) ⟨rfl, rfl, Nat.le_of_ble_eq_true rfl, Nat.le_of_ble_eq_true rfl⟩ rfl hl.1 rfl (Nat.le_of_ble_eq_true rfl) dX12_say_234 ⟨Nat.le_of_ble_eq_true rfl, Nat.le_of_ble_eq_true rfl⟩) (fun r61 u61 H locs hp61 hW => ?_)
                        have hf61_0 : (WVM (J 121) (J 122) (J 123) (J 124) (LTR ((up2 (up2 (up2 (up2 (up2 u57 154 107 2) 154 104 x59) 154 118 x60) 154 119 (J 13 33)) 154 110 (J 13 35)) 154)) (J 13 40).toInt 3 (J 13 31).toInt 1 r61) := hp61
                        clear hp61
                        have hW : WB g A s.heap H locs ((hv (up2 (up2 (up2 (up2 (up2 (hv J [154] [] u57) 154 107 2) 154 104 x59) 154 118 x60) 154 119 (J 13 33)) 154 110 (J 13 35)) [] [(13, 56), (13, 57), (13, 58), (13, 59), (13, 60)] u61), L, I, P, E, N) (sgM g) := hW
                        have hWV := wvm_row hf61_0 hBR (hrw_eq (x := (J 13 31).toInt) (by omega)) e60
                        refine lv_if_gt (tgt := 247) hx hb dX12_say_237 (by decide) (fun c62 => ?_) (fun c62 => ?_)
                        · have c62 : 0 < r61.toInt := tlt kp0 rfl c62
                          refine lv_aload_n hx hb dX12_say_247 rfl (lv_at hl 1 rfl) ?_
                          refine rg_13_31 C hW (mm_ rfl) tw_1054 dX12_say_248 ?_
                          refine lv_as (J 13 31) rfl ?_
                          refine lv_sipush (v := 9999) hx hb dX12_say_251 (by decide) ?_
                          refine lv_icmp_ne (tgt := 264) hx hb dX12_say_254 (by decide) (fun c63 => ?_) (fun c63 => ?_)
                          · have c63 : ¬ (J 13 31).toInt = 9999 := tne rfl kp9999 c63
                            refine lv_aload_n hx hb dX12_say_264 rfl (lv_at hl 1 rfl) ?_
                            refine lv_iload_n hx hb dX12_say_265 rfl (lv_at hl 2 rfl) ?_
                            refine lv_iload_n hx hb dX12_say_266 rfl (lv_at hl 3 rfl) ?_
                            refine lv_iload hx hb dX12_say_267 (lv_at hl 0 rfl) ?_
                            refine lv_if_ne (tgt := 280) hx hb dX12_say_269 (by decide) (fun c64 => ?_) (fun c64 => ?_)
                            · exact absurd c64 (by decide)
                            · skip
                              refine lv_iload_n hx hb dX12_say_272 rfl (lv_at hl 2 rfl) ?_
                              refine lv_if_ne (tgt := 284) hx hb dX12_say_273 (by decide) (fun c65 => ?_) (fun c65 => ?_)
                              · have c65 : ¬ a0.toInt = 0 := tne rfl kp0 c65
                                refine lv_bipush (v := (-9)) hx hb dX12_say_284 (by decide) ?_
                                refine ci_ C hW (runV (x := (g.2.2.1 13)) (As := [.int a0, .int a1, .int (-9)]) (rest := []) (T := (((hv (up2 (up2 (up2 (up2 (up2 (hv J [154] [] u57) 154 107 2) 154 104 x59) 154 118 x60) 154 119 (J 13 33)) 154 110 (J 13 35)) [] [(13, 56), (13, 57), (13, 58), (13, 59), (13, 60)] u61), L, I, P, E, N), sgM g)) C hW (c_X12_reads_e l g (hv (up2 (up2 (up2 (up2 (up2 (hv J [154] [] u57) 154 107 2) 154 104 x59) 154 118 x60) 154 119 (J 13 33)) 154 110 (J 13 35)) [] [(13, 56), (13, 57), (13, 58), (13, 59), (13, 60)] u61) L I P E N H.size a0 a1 (-9) hwm (show (J 13 31).toInt ≤ 9998 from by (try simp only [kn9]); omega) (show a0.toInt = 0 → (-9 : Int32).toInt < 40 from by (try simp only [kn9]); omega) (show 0 ≤ a1.toInt ∧ a1.toInt < 8 from by (try simp only [kn9]); omega) (show 0 ≤ (J 115 a1.toNatClampNeg).toInt ∧ (J 115 a1.toNatClampNeg).toInt ≤ 10000 from by (try simp only [kn9]); omega)) mi_X12_reads tw_1378 (recv_ (T := (((hv (up2 (up2 (up2 (up2 (up2 (hv J [154] [] u57) 154 107 2) 154 104 x59) 154 118 x60) 154 119 (J 13 33)) 154 110 (J 13 35)) [] [(13, 56), (13, 57), (13, 58), (13, 59), (13, 60)] u61), L, I, P, E, N), sgM g)) C hW (mm_ rfl) rfl rfl) ⟨rfl, rfl, Nat.le_of_ble_eq_true rfl, Nat.le_of_ble_eq_true rfl⟩ rfl hl.1 rfl (Nat.le_of_ble_eq_true rfl) dX12_say_286 ⟨Nat.le_of_ble_eq_true rfl, Nat.le_of_ble_eq_true rfl⟩) (fun r66 u66 H locs hp66 hW => ?_)
                                obtain ⟨hwm, hc66, hf66_0, hf66_1, hf66_2, hf66_3, hf66_4, hf66_5, hf66_6, hf66_7⟩ : WM (hv (hv (up2 (up2 (up2 (up2 (up2 (hv J [154] [] u57) 154 107 2) 154 104 x59) 154 118 x60) 154 119 (J 13 33)) 154 110 (J 13 35)) [] [(13, 56), (13, 57), (13, 58), (13, 59), (13, 60)] u61) [114, 115, 116, 117, 118, 119, 120] [(13, 31), (13, 45)] u66) ∧ ((r66.toInt = (J 13 31).toInt)) ∧ ((u66 13 31).toInt = (J 13 31).toInt + 1) ∧ (∃ v : Int32, v.toInt = (if 0 ≤ (J 114 a1.toNatClampNeg).toInt ∧ (J 114 a1.toNatClampNeg).toInt = (J 13 31).toInt - 1 then (J 115 a1.toNatClampNeg).toInt + 1 else 1) ∧ u66 115 = up2 J 115 a1.toNatClampNeg v 115) ∧ (u66 114 = up2 J 114 a1.toNatClampNeg (J 13 31) 114) ∧ (u66 116 = up2 J 116 (J 13 31).toNatClampNeg a0 116) ∧ (u66 117 = up2 J 117 (J 13 31).toNatClampNeg a1 117) ∧ (u66 118 = up2 J 118 (J 13 31).toNatClampNeg (J 113 a1.toNatClampNeg) 118) ∧ (u66 119 = up2 J 119 (J 13 31).toNatClampNeg (-9) 119) ∧ (u66 120 = up2 J 120 (J 13 31).toNatClampNeg (J 13 33) 120) := hp66
                                have hwm : WM (hv (hv (up2 (up2 (up2 (up2 (up2 (hv J [154] [] u57) 154 107 2) 154 104 x59) 154 118 x60) 154 119 (J 13 33)) 154 110 (J 13 35)) [] [(13, 56), (13, 57), (13, 58), (13, 59), (13, 60)] u61) [114, 115, 116, 117, 118, 119, 120] [(13, 31), (13, 45)] u66) := hwm
                                have hW : WB g A s.heap H locs ((hv (hv (up2 (up2 (up2 (up2 (up2 (hv J [154] [] u57) 154 107 2) 154 104 x59) 154 118 x60) 154 119 (J 13 33)) 154 110 (J 13 35)) [] [(13, 56), (13, 57), (13, 58), (13, 59), (13, 60)] u61) [114, 115, 116, 117, 118, 119, 120] [(13, 31), (13, 45)] u66), L, I, P, E, N) (sgM g) := hW
                                have hR0 := hf66_0
                                have hR1 := hf66_1
                                have hR2 := hf66_2
                                have hR3 := hf66_3
                                have hR4 := hf66_4
                                have hR5 := hf66_5
                                have hR6 := hf66_6
                                have hR7 := hf66_7
                                have hWr : WB g A s.heap H locs (hv J [100, 114, 115, 116, 117, 118, 119, 120, 154] [(13, 31), (13, 45), (13, 56), (13, 57), (13, 58), (13, 59), (13, 60)] (hv (hv (up2 (up2 (up2 (up2 (up2 (hv J [154] [] u57) 154 107 2) 154 104 x59) 154 118 x60) 154 119 (J 13 33)) 154 110 (J 13 35)) [] [(13, 56), (13, 57), (13, 58), (13, 59), (13, 60)] u61) [114, 115, 116, 117, 118, 119, 120] [(13, 31), (13, 45)] u66), L, I, P, E, N) (sgM g) := by
                                  rw [← ag_hvE (J := J) (R := [100, 114, 115, 116, 117, 118, 119, 120, 154]) (F := [(13, 31), (13, 45), (13, 56), (13, 57), (13, 58), (13, 59), (13, 60)]) (ag_hv rfl rfl (ag_hv rfl rfl (ag_up (Or.inl rfl) (ag_up (Or.inl rfl) (ag_up (Or.inl rfl) (ag_up (Or.inl rfl) (ag_up (Or.inl rfl) (ag_hv rfl rfl ag_rf))))))))]
                                  exact hW
                                have hwmr : WM (hv (hv (up2 (up2 (up2 (up2 (up2 (hv J [154] [] u57) 154 107 2) 154 104 x59) 154 118 x60) 154 119 (J 13 33)) 154 110 (J 13 35)) [] [(13, 56), (13, 57), (13, 58), (13, 59), (13, 60)] u61) [114, 115, 116, 117, 118, 119, 120] [(13, 31), (13, 45)] u66) := by exact hwm
                                have hwmr : WM (hv J [100, 114, 115, 116, 117, 118, 119, 120, 154] [(13, 31), (13, 45), (13, 56), (13, 57), (13, 58), (13, 59), (13, 60)] (hv (hv (up2 (up2 (up2 (up2 (up2 (hv J [154] [] u57) 154 107 2) 154 104 x59) 154 118 x60) 154 119 (J 13 33)) 154 110 (J 13 35)) [] [(13, 56), (13, 57), (13, 58), (13, 59), (13, 60)] u61) [114, 115, 116, 117, 118, 119, 120] [(13, 31), (13, 45)] u66)) := by
                                  rw [← ag_hvE (J := J) (R := [100, 114, 115, 116, 117, 118, 119, 120, 154]) (F := [(13, 31), (13, 45), (13, 56), (13, 57), (13, 58), (13, 59), (13, 60)]) (ag_hv rfl rfl (ag_hv rfl rfl (ag_up (Or.inl rfl) (ag_up (Or.inl rfl) (ag_up (Or.inl rfl) (ag_up (Or.inl rfl) (ag_up (Or.inl rfl) (ag_hv rfl rfl ag_rf))))))))]; exact hwmr
                                subst hQ9
                                exact end_i C hr hlocks (hv (hv (up2 (up2 (up2 (up2 (up2 (hv J [154] [] u57) 154 107 2) 154 104 x59) 154 118 x60) 154 119 (J 13 33)) 154 110 (J 13 35)) [] [(13, 56), (13, 57), (13, 58), (13, 59), (13, 60)] u61) [114, 115, 116, 117, 118, 119, 120] [(13, 31), (13, 45)] u66) hWr ⟨hwmr, by first | exact Or.inr (Or.inr (Or.inr (Or.inr (Or.inr (⟨by omega, by omega, show (a0.toInt = 2 → (∃ v : Int32, WVM (J 121) (J 122) (J 123) (J 124) (SCL 2 (hrw (J 13 31).toInt) (J 113 a1.toNatClampNeg) 0 0 (J 13 33) 0 (J 13 35)) (J 13 40).toInt 3 (J 13 31).toInt 1 v ∧ 0 < v.toInt)) from by first | rfl | (intro h9; exfalso; omega) | (intro h9; exact ⟨_, hWV, by omega⟩) | exact ⟨_, hWV, by omega⟩ | exact hR0 | exact hR1 | exact hR2 | exact hR3 | exact hR4 | exact hR5 | exact hR7 | (rw [← ofv_y (by omega)]; exact hR6) | (rw [← ofv_n (by omega)]; exact hR6), show (u66 13 31).toInt = (J 13 31).toInt + 1 from by first | rfl | (intro h9; exfalso; omega) | (intro h9; exact ⟨_, hWV, by omega⟩) | exact ⟨_, hWV, by omega⟩ | exact hR0 | exact hR1 | exact hR2 | exact hR3 | exact hR4 | exact hR5 | exact hR7 | (rw [← ofv_y (by omega)]; exact hR6) | (rw [← ofv_n (by omega)]; exact hR6), show (∃ v : Int32, v.toInt = (if 0 ≤ (J 114 a1.toNatClampNeg).toInt ∧ (J 114 a1.toNatClampNeg).toInt = (J 13 31).toInt - 1 then (J 115 a1.toNatClampNeg).toInt + 1 else 1) ∧ u66 115 = up2 J 115 a1.toNatClampNeg v 115) from by first | rfl | (intro h9; exfalso; omega) | (intro h9; exact ⟨_, hWV, by omega⟩) | exact ⟨_, hWV, by omega⟩ | exact hR0 | exact hR1 | exact hR2 | exact hR3 | exact hR4 | exact hR5 | exact hR7 | (rw [← ofv_y (by omega)]; exact hR6) | (rw [← ofv_n (by omega)]; exact hR6), show u66 114 = up2 J 114 a1.toNatClampNeg (J 13 31) 114 from by first | rfl | (intro h9; exfalso; omega) | (intro h9; exact ⟨_, hWV, by omega⟩) | exact ⟨_, hWV, by omega⟩ | exact hR0 | exact hR1 | exact hR2 | exact hR3 | exact hR4 | exact hR5 | exact hR7 | (rw [← ofv_y (by omega)]; exact hR6) | (rw [← ofv_n (by omega)]; exact hR6), show u66 116 = up2 J 116 (J 13 31).toNatClampNeg a0 116 from by first | rfl | (intro h9; exfalso; omega) | (intro h9; exact ⟨_, hWV, by omega⟩) | exact ⟨_, hWV, by omega⟩ | exact hR0 | exact hR1 | exact hR2 | exact hR3 | exact hR4 | exact hR5 | exact hR7 | (rw [← ofv_y (by omega)]; exact hR6) | (rw [← ofv_n (by omega)]; exact hR6), show u66 117 = up2 J 117 (J 13 31).toNatClampNeg a1 117 from by first | rfl | (intro h9; exfalso; omega) | (intro h9; exact ⟨_, hWV, by omega⟩) | exact ⟨_, hWV, by omega⟩ | exact hR0 | exact hR1 | exact hR2 | exact hR3 | exact hR4 | exact hR5 | exact hR7 | (rw [← ofv_y (by omega)]; exact hR6) | (rw [← ofv_n (by omega)]; exact hR6), show u66 118 = up2 J 118 (J 13 31).toNatClampNeg (J 113 a1.toNatClampNeg) 118 from by first | rfl | (intro h9; exfalso; omega) | (intro h9; exact ⟨_, hWV, by omega⟩) | exact ⟨_, hWV, by omega⟩ | exact hR0 | exact hR1 | exact hR2 | exact hR3 | exact hR4 | exact hR5 | exact hR7 | (rw [← ofv_y (by omega)]; exact hR6) | (rw [← ofv_n (by omega)]; exact hR6), show u66 119 = up2 J 119 (J 13 31).toNatClampNeg (OFV a0 a2) 119 from by first | rfl | (intro h9; exfalso; omega) | (intro h9; exact ⟨_, hWV, by omega⟩) | exact ⟨_, hWV, by omega⟩ | exact hR0 | exact hR1 | exact hR2 | exact hR3 | exact hR4 | exact hR5 | exact hR7 | (rw [← ofv_y (by omega)]; exact hR6) | (rw [← ofv_n (by omega)]; exact hR6), show u66 120 = up2 J 120 (J 13 31).toNatClampNeg (J 13 33) 120 from by first | rfl | (intro h9; exfalso; omega) | (intro h9; exact ⟨_, hWV, by omega⟩) | exact ⟨_, hWV, by omega⟩ | exact hR0 | exact hR1 | exact hR2 | exact hR3 | exact hR4 | exact hR5 | exact hR7 | (rw [← ofv_y (by omega)]; exact hR6) | (rw [← ofv_n (by omega)]; exact hR6)⟩)))))⟩ dX12_say_289
                              · have c65 : a0.toInt = 0 := teq rfl kp0 c65
                                exfalso; omega
                          · have c63 : (J 13 31).toInt = 9999 := teq rfl kp9999 c63
                            refine lv_aload_n hx hb dX12_say_257 rfl (lv_at hl 1 rfl) ?_
                            refine lv_bipush (v := (-6)) hx hb dX12_say_258 (by decide) ?_
                            refine ci_ C hW (runV (x := (g.2.2.1 13)) (As := [.int (-6)]) (rest := []) (T := (((hv (up2 (up2 (up2 (up2 (up2 (hv J [154] [] u57) 154 107 2) 154 104 x59) 154 118 x60) 154 119 (J 13 33)) 154 110 (J 13 35)) [] [(13, 56), (13, 57), (13, 58), (13, 59), (13, 60)] u61), L, I, P, E, N), sgM g)) C hW (c_X12_refuse l g (hv (up2 (up2 (up2 (up2 (up2 (hv J [154] [] u57) 154 107 2) 154 104 x59) 154 118 x60) 154 119 (J 13 33)) 154 110 (J 13 35)) [] [(13, 56), (13, 57), (13, 58), (13, 59), (13, 60)] u61) L I P E N H.size (-6) (show -6 ≤ (-6 : Int32).toInt ∧ (-6 : Int32).toInt ≤ -1 from by (try simp only [kn6]); omega)) mi_X12_refuse tw_1239 (recv_ (T := (((hv (up2 (up2 (up2 (up2 (up2 (hv J [154] [] u57) 154 107 2) 154 104 x59) 154 118 x60) 154 119 (J 13 33)) 154 110 (J 13 35)) [] [(13, 56), (13, 57), (13, 58), (13, 59), (13, 60)] u61), L, I, P, E, N), sgM g)) C hW (mm_ rfl) rfl rfl) ⟨rfl, rfl, Nat.le_of_ble_eq_true rfl, Nat.le_of_ble_eq_true rfl⟩ rfl hl.1 rfl (Nat.le_of_ble_eq_true rfl) dX12_say_260 ⟨Nat.le_of_ble_eq_true rfl, Nat.le_of_ble_eq_true rfl⟩) (fun r67 u67 H locs hp67 hW => ?_)
                            have hc67 : ((r67 = (-6))) := hp67
                            clear hp67
                            have hr67 : r67.toInt = (-6) := by rw [hc67]; exact kn6
                            have hW : WB g A s.heap H locs ((hv (hv (up2 (up2 (up2 (up2 (up2 (hv J [154] [] u57) 154 107 2) 154 104 x59) 154 118 x60) 154 119 (J 13 33)) 154 110 (J 13 35)) [] [(13, 56), (13, 57), (13, 58), (13, 59), (13, 60)] u61) [100] [] u67), L, I, P, E, N) (sgM g) := hW
                            have hWr : WB g A s.heap H locs (hv J [100, 114, 115, 116, 117, 118, 119, 120, 154] [(13, 31), (13, 45), (13, 56), (13, 57), (13, 58), (13, 59), (13, 60)] (hv (hv (up2 (up2 (up2 (up2 (up2 (hv J [154] [] u57) 154 107 2) 154 104 x59) 154 118 x60) 154 119 (J 13 33)) 154 110 (J 13 35)) [] [(13, 56), (13, 57), (13, 58), (13, 59), (13, 60)] u61) [100] [] u67), L, I, P, E, N) (sgM g) := by
                              rw [← ag_hvE (J := J) (R := [100, 114, 115, 116, 117, 118, 119, 120, 154]) (F := [(13, 31), (13, 45), (13, 56), (13, 57), (13, 58), (13, 59), (13, 60)]) (ag_hv rfl rfl (ag_hv rfl rfl (ag_up (Or.inl rfl) (ag_up (Or.inl rfl) (ag_up (Or.inl rfl) (ag_up (Or.inl rfl) (ag_up (Or.inl rfl) (ag_hv rfl rfl ag_rf))))))))]
                              exact hW
                            have hwmr : WM (hv (hv (up2 (up2 (up2 (up2 (up2 (hv J [154] [] u57) 154 107 2) 154 104 x59) 154 118 x60) 154 119 (J 13 33)) 154 110 (J 13 35)) [] [(13, 56), (13, 57), (13, 58), (13, 59), (13, 60)] u61) [100] [] u67) := by exact hwm
                            have hwmr : WM (hv J [100, 114, 115, 116, 117, 118, 119, 120, 154] [(13, 31), (13, 45), (13, 56), (13, 57), (13, 58), (13, 59), (13, 60)] (hv (hv (up2 (up2 (up2 (up2 (up2 (hv J [154] [] u57) 154 107 2) 154 104 x59) 154 118 x60) 154 119 (J 13 33)) 154 110 (J 13 35)) [] [(13, 56), (13, 57), (13, 58), (13, 59), (13, 60)] u61) [100] [] u67)) := by
                              rw [← ag_hvE (J := J) (R := [100, 114, 115, 116, 117, 118, 119, 120, 154]) (F := [(13, 31), (13, 45), (13, 56), (13, 57), (13, 58), (13, 59), (13, 60)]) (ag_hv rfl rfl (ag_hv rfl rfl (ag_up (Or.inl rfl) (ag_up (Or.inl rfl) (ag_up (Or.inl rfl) (ag_up (Or.inl rfl) (ag_up (Or.inl rfl) (ag_hv rfl rfl ag_rf))))))))]; exact hwmr
                            subst hQ9
                            exact end_i C hr hlocks (hv (hv (up2 (up2 (up2 (up2 (up2 (hv J [154] [] u57) 154 107 2) 154 104 x59) 154 118 x60) 154 119 (J 13 33)) 154 110 (J 13 35)) [] [(13, 56), (13, 57), (13, 58), (13, 59), (13, 60)] u61) [100] [] u67) hWr ⟨hwmr, by first | exact Or.inr (Or.inr (Or.inr (Or.inr (Or.inl ⟨by omega, by omega, show (a0.toInt = 2 → (∃ v : Int32, WVM (J 121) (J 122) (J 123) (J 124) (SCL 2 (hrw (J 13 31).toInt) (J 113 a1.toNatClampNeg) 0 0 (J 13 33) 0 (J 13 35)) (J 13 40).toInt 3 (J 13 31).toInt 1 v ∧ 0 < v.toInt)) from by first | rfl | (intro h9; exfalso; omega) | (intro h9; exact ⟨_, hWV, by omega⟩) | exact ⟨_, hWV, by omega⟩, show J 13 31 = J 13 31 from by first | rfl | (intro h9; exfalso; omega) | (intro h9; exact ⟨_, hWV, by omega⟩) | exact ⟨_, hWV, by omega⟩, show J 114 = J 114 from by first | rfl | (intro h9; exfalso; omega) | (intro h9; exact ⟨_, hWV, by omega⟩) | exact ⟨_, hWV, by omega⟩, show J 115 = J 115 from by first | rfl | (intro h9; exfalso; omega) | (intro h9; exact ⟨_, hWV, by omega⟩) | exact ⟨_, hWV, by omega⟩, show J 116 = J 116 from by first | rfl | (intro h9; exfalso; omega) | (intro h9; exact ⟨_, hWV, by omega⟩) | exact ⟨_, hWV, by omega⟩, show J 117 = J 117 from by first | rfl | (intro h9; exfalso; omega) | (intro h9; exact ⟨_, hWV, by omega⟩) | exact ⟨_, hWV, by omega⟩, show J 118 = J 118 from by first | rfl | (intro h9; exfalso; omega) | (intro h9; exact ⟨_, hWV, by omega⟩) | exact ⟨_, hWV, by omega⟩, show J 119 = J 119 from by first | rfl | (intro h9; exfalso; omega) | (intro h9; exact ⟨_, hWV, by omega⟩) | exact ⟨_, hWV, by omega⟩, show J 120 = J 120 from by first | rfl | (intro h9; exfalso; omega) | (intro h9; exact ⟨_, hWV, by omega⟩) | exact ⟨_, hWV, by omega⟩⟩))))⟩ dX12_say_263
                        · have c62 : r61.toInt ≤ 0 := tnlt kp0 rfl c62
                          refine lv_aload_n hx hb dX12_say_240 rfl (lv_at hl 1 rfl) ?_
                          refine lv_bipush (v := (-3)) hx hb dX12_say_241 (by decide) ?_
                          refine ci_ C hW (runV (x := (g.2.2.1 13)) (As := [.int (-3)]) (rest := []) (T := (((hv (up2 (up2 (up2 (up2 (up2 (hv J [154] [] u57) 154 107 2) 154 104 x59) 154 118 x60) 154 119 (J 13 33)) 154 110 (J 13 35)) [] [(13, 56), (13, 57), (13, 58), (13, 59), (13, 60)] u61), L, I, P, E, N), sgM g)) C hW (c_X12_refuse l g (hv (up2 (up2 (up2 (up2 (up2 (hv J [154] [] u57) 154 107 2) 154 104 x59) 154 118 x60) 154 119 (J 13 33)) 154 110 (J 13 35)) [] [(13, 56), (13, 57), (13, 58), (13, 59), (13, 60)] u61) L I P E N H.size (-3) (show -6 ≤ (-3 : Int32).toInt ∧ (-3 : Int32).toInt ≤ -1 from by (try simp only [kn3]); omega)) mi_X12_refuse tw_1239 (recv_ (T := (((hv (up2 (up2 (up2 (up2 (up2 (hv J [154] [] u57) 154 107 2) 154 104 x59) 154 118 x60) 154 119 (J 13 33)) 154 110 (J 13 35)) [] [(13, 56), (13, 57), (13, 58), (13, 59), (13, 60)] u61), L, I, P, E, N), sgM g)) C hW (mm_ rfl) rfl rfl) ⟨rfl, rfl, Nat.le_of_ble_eq_true rfl, Nat.le_of_ble_eq_true rfl⟩ rfl hl.1 rfl (Nat.le_of_ble_eq_true rfl) dX12_say_243 ⟨Nat.le_of_ble_eq_true rfl, Nat.le_of_ble_eq_true rfl⟩) (fun r68 u68 H locs hp68 hW => ?_)
                          have hc68 : ((r68 = (-3))) := hp68
                          clear hp68
                          have hr68 : r68.toInt = (-3) := by rw [hc68]; exact kn3
                          have hW : WB g A s.heap H locs ((hv (hv (up2 (up2 (up2 (up2 (up2 (hv J [154] [] u57) 154 107 2) 154 104 x59) 154 118 x60) 154 119 (J 13 33)) 154 110 (J 13 35)) [] [(13, 56), (13, 57), (13, 58), (13, 59), (13, 60)] u61) [100] [] u68), L, I, P, E, N) (sgM g) := hW
                          have hWr : WB g A s.heap H locs (hv J [100, 114, 115, 116, 117, 118, 119, 120, 154] [(13, 31), (13, 45), (13, 56), (13, 57), (13, 58), (13, 59), (13, 60)] (hv (hv (up2 (up2 (up2 (up2 (up2 (hv J [154] [] u57) 154 107 2) 154 104 x59) 154 118 x60) 154 119 (J 13 33)) 154 110 (J 13 35)) [] [(13, 56), (13, 57), (13, 58), (13, 59), (13, 60)] u61) [100] [] u68), L, I, P, E, N) (sgM g) := by
                            rw [← ag_hvE (J := J) (R := [100, 114, 115, 116, 117, 118, 119, 120, 154]) (F := [(13, 31), (13, 45), (13, 56), (13, 57), (13, 58), (13, 59), (13, 60)]) (ag_hv rfl rfl (ag_hv rfl rfl (ag_up (Or.inl rfl) (ag_up (Or.inl rfl) (ag_up (Or.inl rfl) (ag_up (Or.inl rfl) (ag_up (Or.inl rfl) (ag_hv rfl rfl ag_rf))))))))]
                            exact hW
                          have hwmr : WM (hv (hv (up2 (up2 (up2 (up2 (up2 (hv J [154] [] u57) 154 107 2) 154 104 x59) 154 118 x60) 154 119 (J 13 33)) 154 110 (J 13 35)) [] [(13, 56), (13, 57), (13, 58), (13, 59), (13, 60)] u61) [100] [] u68) := by exact hwm
                          have hwmr : WM (hv J [100, 114, 115, 116, 117, 118, 119, 120, 154] [(13, 31), (13, 45), (13, 56), (13, 57), (13, 58), (13, 59), (13, 60)] (hv (hv (up2 (up2 (up2 (up2 (up2 (hv J [154] [] u57) 154 107 2) 154 104 x59) 154 118 x60) 154 119 (J 13 33)) 154 110 (J 13 35)) [] [(13, 56), (13, 57), (13, 58), (13, 59), (13, 60)] u61) [100] [] u68)) := by
                            rw [← ag_hvE (J := J) (R := [100, 114, 115, 116, 117, 118, 119, 120, 154]) (F := [(13, 31), (13, 45), (13, 56), (13, 57), (13, 58), (13, 59), (13, 60)]) (ag_hv rfl rfl (ag_hv rfl rfl (ag_up (Or.inl rfl) (ag_up (Or.inl rfl) (ag_up (Or.inl rfl) (ag_up (Or.inl rfl) (ag_up (Or.inl rfl) (ag_hv rfl rfl ag_rf))))))))]; exact hwmr
                          subst hQ9
                          exact end_i C hr hlocks (hv (hv (up2 (up2 (up2 (up2 (up2 (hv J [154] [] u57) 154 107 2) 154 104 x59) 154 118 x60) 154 119 (J 13 33)) 154 110 (J 13 35)) [] [(13, 56), (13, 57), (13, 58), (13, 59), (13, 60)] u61) [100] [] u68) hWr ⟨hwmr, by first | exact Or.inr (Or.inr (Or.inr (Or.inl ⟨by omega, by omega, show (∃ v : Int32, WVM (J 121) (J 122) (J 123) (J 124) (SCL 2 (hrw (J 13 31).toInt) (J 113 a1.toNatClampNeg) 0 0 (J 13 33) 0 (J 13 35)) (J 13 40).toInt 3 (J 13 31).toInt 1 v ∧ v.toInt ≤ 0) from by first | rfl | (intro h9; exfalso; omega) | (intro h9; exact ⟨_, hWV, by omega⟩) | exact ⟨_, hWV, by omega⟩, show J 13 31 = J 13 31 from by first | rfl | (intro h9; exfalso; omega) | (intro h9; exact ⟨_, hWV, by omega⟩) | exact ⟨_, hWV, by omega⟩, show J 114 = J 114 from by first | rfl | (intro h9; exfalso; omega) | (intro h9; exact ⟨_, hWV, by omega⟩) | exact ⟨_, hWV, by omega⟩, show J 115 = J 115 from by first | rfl | (intro h9; exfalso; omega) | (intro h9; exact ⟨_, hWV, by omega⟩) | exact ⟨_, hWV, by omega⟩, show J 116 = J 116 from by first | rfl | (intro h9; exfalso; omega) | (intro h9; exact ⟨_, hWV, by omega⟩) | exact ⟨_, hWV, by omega⟩, show J 117 = J 117 from by first | rfl | (intro h9; exfalso; omega) | (intro h9; exact ⟨_, hWV, by omega⟩) | exact ⟨_, hWV, by omega⟩, show J 118 = J 118 from by first | rfl | (intro h9; exfalso; omega) | (intro h9; exact ⟨_, hWV, by omega⟩) | exact ⟨_, hWV, by omega⟩, show J 119 = J 119 from by first | rfl | (intro h9; exfalso; omega) | (intro h9; exact ⟨_, hWV, by omega⟩) | exact ⟨_, hWV, by omega⟩, show J 120 = J 120 from by first | rfl | (intro h9; exfalso; omega) | (intro h9; exact ⟨_, hWV, by omega⟩) | exact ⟨_, hWV, by omega⟩⟩)))⟩ dX12_say_246
                    · have c50 : a0.toInt = 1 := teq rfl kp1 c50
                      exfalso; omega
                  · have c49 : a0.toInt = 5 := teq rfl kp5 c49
                    exfalso; omega
                · have c48 : r47.toInt = 0 := teq rfl kp0 c48
                  refine lv_aload_n hx hb dX12_say_96 rfl (lv_at hl 1 rfl) ?_
                  refine lv_bipush (v := (-3)) hx hb dX12_say_97 (by decide) ?_
                  refine ci_ C hW (runV (x := (g.2.2.1 13)) (As := [.int (-3)]) (rest := []) (T := ((J, L, I, P, E, N), sgM g)) C hW (c_X12_refuse l g J L I P E N H.size (-3) (show -6 ≤ (-3 : Int32).toInt ∧ (-3 : Int32).toInt ≤ -1 from by (try simp only [kn3]); omega)) mi_X12_refuse tw_1239 (recv_ (T := ((J, L, I, P, E, N), sgM g)) C hW (mm_ rfl) rfl rfl) ⟨rfl, rfl, Nat.le_of_ble_eq_true rfl, Nat.le_of_ble_eq_true rfl⟩ rfl hl.1 rfl (Nat.le_of_ble_eq_true rfl) dX12_say_99 ⟨Nat.le_of_ble_eq_true rfl, Nat.le_of_ble_eq_true rfl⟩) (fun r69 u69 H locs hp69 hW => ?_)
                  have hc69 : ((r69 = (-3))) := hp69
                  clear hp69
                  have hr69 : r69.toInt = (-3) := by rw [hc69]; exact kn3
                  have hW : WB g A s.heap H locs ((hv J [100] [] u69), L, I, P, E, N) (sgM g) := hW
                  have hWr : WB g A s.heap H locs (hv J [100, 114, 115, 116, 117, 118, 119, 120, 154] [(13, 31), (13, 45), (13, 56), (13, 57), (13, 58), (13, 59), (13, 60)] (hv J [100] [] u69), L, I, P, E, N) (sgM g) := by
                    rw [← ag_hvE (J := J) (R := [100, 114, 115, 116, 117, 118, 119, 120, 154]) (F := [(13, 31), (13, 45), (13, 56), (13, 57), (13, 58), (13, 59), (13, 60)]) (ag_hv rfl rfl ag_rf)]
                    exact hW
                  have hwmr : WM (hv J [100] [] u69) := by exact hwm
                  have hwmr : WM (hv J [100, 114, 115, 116, 117, 118, 119, 120, 154] [(13, 31), (13, 45), (13, 56), (13, 57), (13, 58), (13, 59), (13, 60)] (hv J [100] [] u69)) := by
                    rw [← ag_hvE (J := J) (R := [100, 114, 115, 116, 117, 118, 119, 120, 154]) (F := [(13, 31), (13, 45), (13, 56), (13, 57), (13, 58), (13, 59), (13, 60)]) (ag_hv rfl rfl ag_rf)]; exact hwmr
                  subst hQ9
                  exact end_i C hr hlocks (hv J [100] [] u69) hWr ⟨hwmr, by first | exact Or.inr (Or.inr (Or.inl ⟨by omega, by omega, show J 13 31 = J 13 31 from by first | rfl | assumption, show J 114 = J 114 from by first | rfl | assumption, show J 115 = J 115 from by first | rfl | assumption, show J 116 = J 116 from by first | rfl | assumption, show J 117 = J 117 from by first | rfl | assumption, show J 118 = J 118 from by first | rfl | assumption, show J 119 = J 119 from by first | rfl | assumption, show J 120 = J 120 from by first | rfl | assumption⟩))⟩ dX12_say_102
              · have c46 : a0.toInt = 0 := teq rfl kp0 c46
                refine lv_iload_n hx hb dX12_say_66 rfl (lv_at hl 4 rfl) ?_
                refine lv_iconst (v := (-1)) hx hb dX12_say_67 (by decide) ?_
                refine lv_icmp_eq (tgt := 88) hx hb dX12_say_68 (by decide) (fun c70 => ?_) (fun c70 => ?_)
                · have c70 : a2.toInt = (-1) := teq rfl kn1 c70
                  have hr9 := hrd a1.toNatClampNeg (by have h8 := tcl a1; omega)
                  refine lv_aload_n hx hb dX12_say_88 rfl (lv_at hl 1 rfl) ?_
                  refine lv_iload_n hx hb dX12_say_89 rfl (lv_at hl 3 rfl) ?_
                  refine ci_ C hW (runV (x := (g.2.2.1 13)) (As := [.int a1]) (rest := []) (T := ((J, L, I, P, E, N), sgM g)) C hW (c_X12_may_e l g J L I P E N H.size a1 hwm (show 0 ≤ a1.toInt ∧ a1.toInt < 8 from by omega) (show -9 ≤ (J 114 a1.toNatClampNeg).toInt ∧ (J 114 a1.toNatClampNeg).toInt ≤ 9999 ∧ 0 ≤ (J 13 39).toInt ∧ (J 13 39).toInt ≤ 240 from by omega)) mi_X12_may tw_1318 (recv_ (T := ((J, L, I, P, E, N), sgM g)) C hW (mm_ rfl) rfl rfl) ⟨rfl, rfl, Nat.le_of_ble_eq_true rfl, Nat.le_of_ble_eq_true rfl⟩ rfl hl.1 rfl (Nat.le_of_ble_eq_true rfl) dX12_say_90 ⟨Nat.le_of_ble_eq_true rfl, Nat.le_of_ble_eq_true rfl⟩) (fun r71 u71 H locs hp71 hW => ?_)
                  have hc71 : ((r71.toInt = 1 ∧ (((J 115 a1.toNatClampNeg).toInt < (J 13 38).toInt ∨ (J 114 a1.toNatClampNeg).toInt + (J 13 39).toInt < (J 13 31).toInt))) ∨ (r71.toInt = 0 ∧ (¬ ((J 115 a1.toNatClampNeg).toInt < (J 13 38).toInt ∨ (J 114 a1.toNatClampNeg).toInt + (J 13 39).toInt < (J 13 31).toInt)))) := hp71
                  clear hp71
                  have hW : WB g A s.heap H locs (J, L, I, P, E, N) (sgM g) := hW
                  refine lv_if_ne (tgt := 103) hx hb dX12_say_93 (by decide) (fun c72 => ?_) (fun c72 => ?_)
                  · have c72 : ¬ r71.toInt = 0 := tne rfl kp0 c72
                    refine lv_iload_n hx hb dX12_say_103 rfl (lv_at hl 2 rfl) ?_
                    refine lv_iconst (v := 5) hx hb dX12_say_104 (by decide) ?_
                    refine lv_icmp_ne (tgt := 117) hx hb dX12_say_105 (by decide) (fun c73 => ?_) (fun c73 => ?_)
                    · have c73 : ¬ a0.toInt = 5 := tne rfl kp5 c73
                      refine lv_iload_n hx hb dX12_say_117 rfl (lv_at hl 2 rfl) ?_
                      refine lv_iconst (v := 1) hx hb dX12_say_118 (by decide) ?_
                      refine lv_icmp_ne (tgt := 158) hx hb dX12_say_119 (by decide) (fun c74 => ?_) (fun c74 => ?_)
                      · have c74 : ¬ a0.toInt = 1 := tne rfl kp1 c74
                        refine lv_iload_n hx hb dX12_say_158 rfl (lv_at hl 2 rfl) ?_
                        refine lv_iconst (v := 2) hx hb dX12_say_159 (by decide) ?_
                        refine lv_icmp_ne (tgt := 247) hx hb dX12_say_160 (by decide) (fun c75 => ?_) (fun c75 => ?_)
                        · have c75 : ¬ a0.toInt = 2 := tne rfl kp2 c75
                          refine lv_aload_n hx hb dX12_say_247 rfl (lv_at hl 1 rfl) ?_
                          refine rg_13_31 C hW (mm_ rfl) tw_1054 dX12_say_248 ?_
                          refine lv_sipush (v := 9999) hx hb dX12_say_251 (by decide) ?_
                          refine lv_icmp_ne (tgt := 264) hx hb dX12_say_254 (by decide) (fun c76 => ?_) (fun c76 => ?_)
                          · have c76 : ¬ (J 13 31).toInt = 9999 := tne rfl kp9999 c76
                            refine lv_aload_n hx hb dX12_say_264 rfl (lv_at hl 1 rfl) ?_
                            refine lv_iload_n hx hb dX12_say_265 rfl (lv_at hl 2 rfl) ?_
                            refine lv_iload_n hx hb dX12_say_266 rfl (lv_at hl 3 rfl) ?_
                            refine lv_iload hx hb dX12_say_267 (lv_at hl 0 rfl) ?_
                            refine lv_if_ne (tgt := 280) hx hb dX12_say_269 (by decide) (fun c77 => ?_) (fun c77 => ?_)
                            · exact absurd c77 (by decide)
                            · skip
                              refine lv_iload_n hx hb dX12_say_272 rfl (lv_at hl 2 rfl) ?_
                              refine lv_if_ne (tgt := 284) hx hb dX12_say_273 (by decide) (fun c78 => ?_) (fun c78 => ?_)
                              · have c78 : ¬ a0.toInt = 0 := tne rfl kp0 c78
                                exfalso; omega
                              · have c78 : a0.toInt = 0 := teq rfl kp0 c78
                                refine lv_iload_n hx hb dX12_say_276 rfl (lv_at hl 4 rfl) ?_
                                refine lv_if_lt (tgt := 284) hx hb dX12_say_277 (by decide) (fun c79 => ?_) (fun c79 => ?_)
                                · have c79 : a2.toInt < 0 := tlt rfl kp0 c79
                                  refine lv_bipush (v := (-9)) hx hb dX12_say_284 (by decide) ?_
                                  refine ci_ C hW (runV (x := (g.2.2.1 13)) (As := [.int a0, .int a1, .int (-9)]) (rest := []) (T := ((J, L, I, P, E, N), sgM g)) C hW (c_X12_reads_e l g J L I P E N H.size a0 a1 (-9) hwm (show (J 13 31).toInt ≤ 9998 from by (try simp only [kn9]); omega) (show a0.toInt = 0 → (-9 : Int32).toInt < 40 from by (try simp only [kn9]); omega) (show 0 ≤ a1.toInt ∧ a1.toInt < 8 from by (try simp only [kn9]); omega) (show 0 ≤ (J 115 a1.toNatClampNeg).toInt ∧ (J 115 a1.toNatClampNeg).toInt ≤ 10000 from by (try simp only [kn9]); omega)) mi_X12_reads tw_1378 (recv_ (T := ((J, L, I, P, E, N), sgM g)) C hW (mm_ rfl) rfl rfl) ⟨rfl, rfl, Nat.le_of_ble_eq_true rfl, Nat.le_of_ble_eq_true rfl⟩ rfl hl.1 rfl (Nat.le_of_ble_eq_true rfl) dX12_say_286 ⟨Nat.le_of_ble_eq_true rfl, Nat.le_of_ble_eq_true rfl⟩) (fun r80 u80 H locs hp80 hW => ?_)
                                  obtain ⟨hwm, hc80, hf80_0, hf80_1, hf80_2, hf80_3, hf80_4, hf80_5, hf80_6, hf80_7⟩ : WM (hv J [114, 115, 116, 117, 118, 119, 120] [(13, 31), (13, 45)] u80) ∧ ((r80.toInt = (J 13 31).toInt)) ∧ ((u80 13 31).toInt = (J 13 31).toInt + 1) ∧ (∃ v : Int32, v.toInt = (if 0 ≤ (J 114 a1.toNatClampNeg).toInt ∧ (J 114 a1.toNatClampNeg).toInt = (J 13 31).toInt - 1 then (J 115 a1.toNatClampNeg).toInt + 1 else 1) ∧ u80 115 = up2 J 115 a1.toNatClampNeg v 115) ∧ (u80 114 = up2 J 114 a1.toNatClampNeg (J 13 31) 114) ∧ (u80 116 = up2 J 116 (J 13 31).toNatClampNeg a0 116) ∧ (u80 117 = up2 J 117 (J 13 31).toNatClampNeg a1 117) ∧ (u80 118 = up2 J 118 (J 13 31).toNatClampNeg (J 113 a1.toNatClampNeg) 118) ∧ (u80 119 = up2 J 119 (J 13 31).toNatClampNeg (-9) 119) ∧ (u80 120 = up2 J 120 (J 13 31).toNatClampNeg (J 13 33) 120) := hp80
                                  have hwm : WM (hv J [114, 115, 116, 117, 118, 119, 120] [(13, 31), (13, 45)] u80) := hwm
                                  have hW : WB g A s.heap H locs ((hv J [114, 115, 116, 117, 118, 119, 120] [(13, 31), (13, 45)] u80), L, I, P, E, N) (sgM g) := hW
                                  have hR0 := hf80_0
                                  have hR1 := hf80_1
                                  have hR2 := hf80_2
                                  have hR3 := hf80_3
                                  have hR4 := hf80_4
                                  have hR5 := hf80_5
                                  have hR6 := hf80_6
                                  have hR7 := hf80_7
                                  have hWr : WB g A s.heap H locs (hv J [100, 114, 115, 116, 117, 118, 119, 120, 154] [(13, 31), (13, 45), (13, 56), (13, 57), (13, 58), (13, 59), (13, 60)] (hv J [114, 115, 116, 117, 118, 119, 120] [(13, 31), (13, 45)] u80), L, I, P, E, N) (sgM g) := by
                                    rw [← ag_hvE (J := J) (R := [100, 114, 115, 116, 117, 118, 119, 120, 154]) (F := [(13, 31), (13, 45), (13, 56), (13, 57), (13, 58), (13, 59), (13, 60)]) (ag_hv rfl rfl ag_rf)]
                                    exact hW
                                  have hwmr : WM (hv J [114, 115, 116, 117, 118, 119, 120] [(13, 31), (13, 45)] u80) := by exact hwm
                                  have hwmr : WM (hv J [100, 114, 115, 116, 117, 118, 119, 120, 154] [(13, 31), (13, 45), (13, 56), (13, 57), (13, 58), (13, 59), (13, 60)] (hv J [114, 115, 116, 117, 118, 119, 120] [(13, 31), (13, 45)] u80)) := by
                                    rw [← ag_hvE (J := J) (R := [100, 114, 115, 116, 117, 118, 119, 120, 154]) (F := [(13, 31), (13, 45), (13, 56), (13, 57), (13, 58), (13, 59), (13, 60)]) (ag_hv rfl rfl ag_rf)]; exact hwmr
                                  subst hQ9
                                  exact end_i C hr hlocks (hv J [114, 115, 116, 117, 118, 119, 120] [(13, 31), (13, 45)] u80) hWr ⟨hwmr, by first | exact Or.inr (Or.inr (Or.inr (Or.inr (Or.inr (⟨by omega, by omega, show (a0.toInt = 2 → (∃ v : Int32, WVM (J 121) (J 122) (J 123) (J 124) (SCL 2 (hrw (J 13 31).toInt) (J 113 a1.toNatClampNeg) 0 0 (J 13 33) 0 (J 13 35)) (J 13 40).toInt 3 (J 13 31).toInt 1 v ∧ 0 < v.toInt)) from by first | rfl | (intro h9; exfalso; omega) | (intro h9; exact ⟨_, hWV, by omega⟩) | exact ⟨_, hWV, by omega⟩ | exact hR0 | exact hR1 | exact hR2 | exact hR3 | exact hR4 | exact hR5 | exact hR7 | (rw [← ofv_y (by omega)]; exact hR6) | (rw [← ofv_n (by omega)]; exact hR6), show (u80 13 31).toInt = (J 13 31).toInt + 1 from by first | rfl | (intro h9; exfalso; omega) | (intro h9; exact ⟨_, hWV, by omega⟩) | exact ⟨_, hWV, by omega⟩ | exact hR0 | exact hR1 | exact hR2 | exact hR3 | exact hR4 | exact hR5 | exact hR7 | (rw [← ofv_y (by omega)]; exact hR6) | (rw [← ofv_n (by omega)]; exact hR6), show (∃ v : Int32, v.toInt = (if 0 ≤ (J 114 a1.toNatClampNeg).toInt ∧ (J 114 a1.toNatClampNeg).toInt = (J 13 31).toInt - 1 then (J 115 a1.toNatClampNeg).toInt + 1 else 1) ∧ u80 115 = up2 J 115 a1.toNatClampNeg v 115) from by first | rfl | (intro h9; exfalso; omega) | (intro h9; exact ⟨_, hWV, by omega⟩) | exact ⟨_, hWV, by omega⟩ | exact hR0 | exact hR1 | exact hR2 | exact hR3 | exact hR4 | exact hR5 | exact hR7 | (rw [← ofv_y (by omega)]; exact hR6) | (rw [← ofv_n (by omega)]; exact hR6), show u80 114 = up2 J 114 a1.toNatClampNeg (J 13 31) 114 from by first | rfl | (intro h9; exfalso; omega) | (intro h9; exact ⟨_, hWV, by omega⟩) | exact ⟨_, hWV, by omega⟩ | exact hR0 | exact hR1 | exact hR2 | exact hR3 | exact hR4 | exact hR5 | exact hR7 | (rw [← ofv_y (by omega)]; exact hR6) | (rw [← ofv_n (by omega)]; exact hR6), show u80 116 = up2 J 116 (J 13 31).toNatClampNeg a0 116 from by first | rfl | (intro h9; exfalso; omega) | (intro h9; exact ⟨_, hWV, by omega⟩) | exact ⟨_, hWV, by omega⟩ | exact hR0 | exact hR1 | exact hR2 | exact hR3 | exact hR4 | exact hR5 | exact hR7 | (rw [← ofv_y (by omega)]; exact hR6) | (rw [← ofv_n (by omega)]; exact hR6), show u80 117 = up2 J 117 (J 13 31).toNatClampNeg a1 117 from by first | rfl | (intro h9; exfalso; omega) | (intro h9; exact ⟨_, hWV, by omega⟩) | exact ⟨_, hWV, by omega⟩ | exact hR0 | exact hR1 | exact hR2 | exact hR3 | exact hR4 | exact hR5 | exact hR7 | (rw [← ofv_y (by omega)]; exact hR6) | (rw [← ofv_n (by omega)]; exact hR6), show u80 118 = up2 J 118 (J 13 31).toNatClampNeg (J 113 a1.toNatClampNeg) 118 from by first | rfl | (intro h9; exfalso; omega) | (intro h9; exact ⟨_, hWV, by omega⟩) | exact ⟨_, hWV, by omega⟩ | exact hR0 | exact hR1 | exact hR2 | exact hR3 | exact hR4 | exact hR5 | exact hR7 | (rw [← ofv_y (by omega)]; exact hR6) | (rw [← ofv_n (by omega)]; exact hR6), show u80 119 = up2 J 119 (J 13 31).toNatClampNeg (OFV a0 a2) 119 from by first | rfl | (intro h9; exfalso; omega) | (intro h9; exact ⟨_, hWV, by omega⟩) | exact ⟨_, hWV, by omega⟩ | exact hR0 | exact hR1 | exact hR2 | exact hR3 | exact hR4 | exact hR5 | exact hR7 | (rw [← ofv_y (by omega)]; exact hR6) | (rw [← ofv_n (by omega)]; exact hR6), show u80 120 = up2 J 120 (J 13 31).toNatClampNeg (J 13 33) 120 from by first | rfl | (intro h9; exfalso; omega) | (intro h9; exact ⟨_, hWV, by omega⟩) | exact ⟨_, hWV, by omega⟩ | exact hR0 | exact hR1 | exact hR2 | exact hR3 | exact hR4 | exact hR5 | exact hR7 | (rw [← ofv_y (by omega)]; exact hR6) | (rw [← ofv_n (by omega)]; exact hR6)⟩)))))⟩ dX12_say_289
                                · have c79 : 0 ≤ a2.toInt := tnlt rfl kp0 c79
                                  exfalso; omega
                          · have c76 : (J 13 31).toInt = 9999 := teq rfl kp9999 c76
                            refine lv_aload_n hx hb dX12_say_257 rfl (lv_at hl 1 rfl) ?_
                            refine lv_bipush (v := (-6)) hx hb dX12_say_258 (by decide) ?_
                            refine ci_ C hW (runV (x := (g.2.2.1 13)) (As := [.int (-6)]) (rest := []) (T := ((J, L, I, P, E, N), sgM g)) C hW (c_X12_refuse l g J L I P E N H.size (-6) (show -6 ≤ (-6 : Int32).toInt ∧ (-6 : Int32).toInt ≤ -1 from by (try simp only [kn6]); omega)) mi_X12_refuse tw_1239 (recv_ (T := ((J, L, I, P, E, N), sgM g)) C hW (mm_ rfl) rfl rfl) ⟨rfl, rfl, Nat.le_of_ble_eq_true rfl, Nat.le_of_ble_eq_true rfl⟩ rfl hl.1 rfl (Nat.le_of_ble_eq_true rfl) dX12_say_260 ⟨Nat.le_of_ble_eq_true rfl, Nat.le_of_ble_eq_true rfl⟩) (fun r81 u81 H locs hp81 hW => ?_)
                            have hc81 : ((r81 = (-6))) := hp81
                            clear hp81
                            have hr81 : r81.toInt = (-6) := by rw [hc81]; exact kn6
                            have hW : WB g A s.heap H locs ((hv J [100] [] u81), L, I, P, E, N) (sgM g) := hW
                            have hWr : WB g A s.heap H locs (hv J [100, 114, 115, 116, 117, 118, 119, 120, 154] [(13, 31), (13, 45), (13, 56), (13, 57), (13, 58), (13, 59), (13, 60)] (hv J [100] [] u81), L, I, P, E, N) (sgM g) := by
                              rw [← ag_hvE (J := J) (R := [100, 114, 115, 116, 117, 118, 119, 120, 154]) (F := [(13, 31), (13, 45), (13, 56), (13, 57), (13, 58), (13, 59), (13, 60)]) (ag_hv rfl rfl ag_rf)]
                              exact hW
                            have hwmr : WM (hv J [100] [] u81) := by exact hwm
                            have hwmr : WM (hv J [100, 114, 115, 116, 117, 118, 119, 120, 154] [(13, 31), (13, 45), (13, 56), (13, 57), (13, 58), (13, 59), (13, 60)] (hv J [100] [] u81)) := by
                              rw [← ag_hvE (J := J) (R := [100, 114, 115, 116, 117, 118, 119, 120, 154]) (F := [(13, 31), (13, 45), (13, 56), (13, 57), (13, 58), (13, 59), (13, 60)]) (ag_hv rfl rfl ag_rf)]; exact hwmr
                            subst hQ9
                            exact end_i C hr hlocks (hv J [100] [] u81) hWr ⟨hwmr, by first | exact Or.inr (Or.inr (Or.inr (Or.inr (Or.inl ⟨by omega, by omega, show (a0.toInt = 2 → (∃ v : Int32, WVM (J 121) (J 122) (J 123) (J 124) (SCL 2 (hrw (J 13 31).toInt) (J 113 a1.toNatClampNeg) 0 0 (J 13 33) 0 (J 13 35)) (J 13 40).toInt 3 (J 13 31).toInt 1 v ∧ 0 < v.toInt)) from by first | rfl | (intro h9; exfalso; omega) | (intro h9; exact ⟨_, hWV, by omega⟩) | exact ⟨_, hWV, by omega⟩, show J 13 31 = J 13 31 from by first | rfl | (intro h9; exfalso; omega) | (intro h9; exact ⟨_, hWV, by omega⟩) | exact ⟨_, hWV, by omega⟩, show J 114 = J 114 from by first | rfl | (intro h9; exfalso; omega) | (intro h9; exact ⟨_, hWV, by omega⟩) | exact ⟨_, hWV, by omega⟩, show J 115 = J 115 from by first | rfl | (intro h9; exfalso; omega) | (intro h9; exact ⟨_, hWV, by omega⟩) | exact ⟨_, hWV, by omega⟩, show J 116 = J 116 from by first | rfl | (intro h9; exfalso; omega) | (intro h9; exact ⟨_, hWV, by omega⟩) | exact ⟨_, hWV, by omega⟩, show J 117 = J 117 from by first | rfl | (intro h9; exfalso; omega) | (intro h9; exact ⟨_, hWV, by omega⟩) | exact ⟨_, hWV, by omega⟩, show J 118 = J 118 from by first | rfl | (intro h9; exfalso; omega) | (intro h9; exact ⟨_, hWV, by omega⟩) | exact ⟨_, hWV, by omega⟩, show J 119 = J 119 from by first | rfl | (intro h9; exfalso; omega) | (intro h9; exact ⟨_, hWV, by omega⟩) | exact ⟨_, hWV, by omega⟩, show J 120 = J 120 from by first | rfl | (intro h9; exfalso; omega) | (intro h9; exact ⟨_, hWV, by omega⟩) | exact ⟨_, hWV, by omega⟩⟩))))⟩ dX12_say_263
                        · have c75 : a0.toInt = 2 := teq rfl kp2 c75
                          exfalso; omega
                      · have c74 : a0.toInt = 1 := teq rfl kp1 c74
                        exfalso; omega
                    · have c73 : a0.toInt = 5 := teq rfl kp5 c73
                      exfalso; omega
                  · have c72 : r71.toInt = 0 := teq rfl kp0 c72
                    refine lv_aload_n hx hb dX12_say_96 rfl (lv_at hl 1 rfl) ?_
                    refine lv_bipush (v := (-3)) hx hb dX12_say_97 (by decide) ?_
                    refine ci_ C hW (runV (x := (g.2.2.1 13)) (As := [.int (-3)]) (rest := []) (T := ((J, L, I, P, E, N), sgM g)) C hW (c_X12_refuse l g J L I P E N H.size (-3) (show -6 ≤ (-3 : Int32).toInt ∧ (-3 : Int32).toInt ≤ -1 from by (try simp only [kn3]); omega)) mi_X12_refuse tw_1239 (recv_ (T := ((J, L, I, P, E, N), sgM g)) C hW (mm_ rfl) rfl rfl) ⟨rfl, rfl, Nat.le_of_ble_eq_true rfl, Nat.le_of_ble_eq_true rfl⟩ rfl hl.1 rfl (Nat.le_of_ble_eq_true rfl) dX12_say_99 ⟨Nat.le_of_ble_eq_true rfl, Nat.le_of_ble_eq_true rfl⟩) (fun r82 u82 H locs hp82 hW => ?_)
                    have hc82 : ((r82 = (-3))) := hp82
                    clear hp82
                    have hr82 : r82.toInt = (-3) := by rw [hc82]; exact kn3
                    have hW : WB g A s.heap H locs ((hv J [100] [] u82), L, I, P, E, N) (sgM g) := hW
                    have hWr : WB g A s.heap H locs (hv J [100, 114, 115, 116, 117, 118, 119, 120, 154] [(13, 31), (13, 45), (13, 56), (13, 57), (13, 58), (13, 59), (13, 60)] (hv J [100] [] u82), L, I, P, E, N) (sgM g) := by
                      rw [← ag_hvE (J := J) (R := [100, 114, 115, 116, 117, 118, 119, 120, 154]) (F := [(13, 31), (13, 45), (13, 56), (13, 57), (13, 58), (13, 59), (13, 60)]) (ag_hv rfl rfl ag_rf)]
                      exact hW
                    have hwmr : WM (hv J [100] [] u82) := by exact hwm
                    have hwmr : WM (hv J [100, 114, 115, 116, 117, 118, 119, 120, 154] [(13, 31), (13, 45), (13, 56), (13, 57), (13, 58), (13, 59), (13, 60)] (hv J [100] [] u82)) := by
                      rw [← ag_hvE (J := J) (R := [100, 114, 115, 116, 117, 118, 119, 120, 154]) (F := [(13, 31), (13, 45), (13, 56), (13, 57), (13, 58), (13, 59), (13, 60)]) (ag_hv rfl rfl ag_rf)]; exact hwmr
                    subst hQ9
                    exact end_i C hr hlocks (hv J [100] [] u82) hWr ⟨hwmr, by first | exact Or.inr (Or.inr (Or.inl ⟨by omega, by omega, show J 13 31 = J 13 31 from by first | rfl | assumption, show J 114 = J 114 from by first | rfl | assumption, show J 115 = J 115 from by first | rfl | assumption, show J 116 = J 116 from by first | rfl | assumption, show J 117 = J 117 from by first | rfl | assumption, show J 118 = J 118 from by first | rfl | assumption, show J 119 = J 119 from by first | rfl | assumption, show J 120 = J 120 from by first | rfl | assumption⟩))⟩ dX12_say_102
                · have c70 : ¬ a2.toInt = (-1) := tne rfl kn1 c70
                  refine lv_iload_n hx hb dX12_say_71 rfl (lv_at hl 4 rfl) ?_
                  refine lv_aload_n hx hb dX12_say_72 rfl (lv_at hl 1 rfl) ?_
                  refine rg_13_42 C hW (mm_ rfl) tw_1065 dX12_say_73 ?_
                  refine ci_ C hW (runS (As := [.int a2, .int (J 13 42)]) (rest := []) (T := ((J, L, I, P, E, N), sgM g)) C hW (c_X12_isIn l g J L I P E N H.size a2 (J 13 42) ) mi_X12_isIn tw_1255 ⟨rfl, rfl, Nat.le_of_ble_eq_true rfl, Nat.le_of_ble_eq_true rfl⟩ rfl hl.1 rfl (Nat.le_of_ble_eq_true rfl) dX12_say_76 ⟨Nat.le_of_ble_eq_true rfl, Nat.le_of_ble_eq_true rfl⟩) (fun r83 u83 H locs hp83 hW => ?_)
                  have hc83 : ((r83.toInt = 1 ∧ (0 ≤ a2.toInt ∧ a2.toInt < (J 13 42).toInt)) ∨ (r83.toInt = 0 ∧ (¬ (0 ≤ a2.toInt ∧ a2.toInt < (J 13 42).toInt)))) := hp83
                  clear hp83
                  have hW : WB g A s.heap H locs (J, L, I, P, E, N) (sgM g) := hW
                  refine lv_if_ne (tgt := 88) hx hb dX12_say_79 (by decide) (fun c84 => ?_) (fun c84 => ?_)
                  · have c84 : ¬ r83.toInt = 0 := tne rfl kp0 c84
                    have hr9 := hrd a1.toNatClampNeg (by have h8 := tcl a1; omega)
                    refine lv_aload_n hx hb dX12_say_88 rfl (lv_at hl 1 rfl) ?_
                    refine lv_iload_n hx hb dX12_say_89 rfl (lv_at hl 3 rfl) ?_
                    refine ci_ C hW (runV (x := (g.2.2.1 13)) (As := [.int a1]) (rest := []) (T := ((J, L, I, P, E, N), sgM g)) C hW (c_X12_may_e l g J L I P E N H.size a1 hwm (show 0 ≤ a1.toInt ∧ a1.toInt < 8 from by omega) (show -9 ≤ (J 114 a1.toNatClampNeg).toInt ∧ (J 114 a1.toNatClampNeg).toInt ≤ 9999 ∧ 0 ≤ (J 13 39).toInt ∧ (J 13 39).toInt ≤ 240 from by omega)) mi_X12_may tw_1318 (recv_ (T := ((J, L, I, P, E, N), sgM g)) C hW (mm_ rfl) rfl rfl) ⟨rfl, rfl, Nat.le_of_ble_eq_true rfl, Nat.le_of_ble_eq_true rfl⟩ rfl hl.1 rfl (Nat.le_of_ble_eq_true rfl) dX12_say_90 ⟨Nat.le_of_ble_eq_true rfl, Nat.le_of_ble_eq_true rfl⟩) (fun r85 u85 H locs hp85 hW => ?_)
                    have hc85 : ((r85.toInt = 1 ∧ (((J 115 a1.toNatClampNeg).toInt < (J 13 38).toInt ∨ (J 114 a1.toNatClampNeg).toInt + (J 13 39).toInt < (J 13 31).toInt))) ∨ (r85.toInt = 0 ∧ (¬ ((J 115 a1.toNatClampNeg).toInt < (J 13 38).toInt ∨ (J 114 a1.toNatClampNeg).toInt + (J 13 39).toInt < (J 13 31).toInt)))) := hp85
                    clear hp85
                    have hW : WB g A s.heap H locs (J, L, I, P, E, N) (sgM g) := hW
                    refine lv_if_ne (tgt := 103) hx hb dX12_say_93 (by decide) (fun c86 => ?_) (fun c86 => ?_)
                    · have c86 : ¬ r85.toInt = 0 := tne rfl kp0 c86
                      refine lv_iload_n hx hb dX12_say_103 rfl (lv_at hl 2 rfl) ?_
                      refine lv_iconst (v := 5) hx hb dX12_say_104 (by decide) ?_
                      refine lv_icmp_ne (tgt := 117) hx hb dX12_say_105 (by decide) (fun c87 => ?_) (fun c87 => ?_)
                      · have c87 : ¬ a0.toInt = 5 := tne rfl kp5 c87
                        refine lv_iload_n hx hb dX12_say_117 rfl (lv_at hl 2 rfl) ?_
                        refine lv_iconst (v := 1) hx hb dX12_say_118 (by decide) ?_
                        refine lv_icmp_ne (tgt := 158) hx hb dX12_say_119 (by decide) (fun c88 => ?_) (fun c88 => ?_)
                        · have c88 : ¬ a0.toInt = 1 := tne rfl kp1 c88
                          refine lv_iload_n hx hb dX12_say_158 rfl (lv_at hl 2 rfl) ?_
                          refine lv_iconst (v := 2) hx hb dX12_say_159 (by decide) ?_
                          refine lv_icmp_ne (tgt := 247) hx hb dX12_say_160 (by decide) (fun c89 => ?_) (fun c89 => ?_)
                          · have c89 : ¬ a0.toInt = 2 := tne rfl kp2 c89
                            refine lv_aload_n hx hb dX12_say_247 rfl (lv_at hl 1 rfl) ?_
                            refine rg_13_31 C hW (mm_ rfl) tw_1054 dX12_say_248 ?_
                            refine lv_sipush (v := 9999) hx hb dX12_say_251 (by decide) ?_
                            refine lv_icmp_ne (tgt := 264) hx hb dX12_say_254 (by decide) (fun c90 => ?_) (fun c90 => ?_)
                            · have c90 : ¬ (J 13 31).toInt = 9999 := tne rfl kp9999 c90
                              refine lv_aload_n hx hb dX12_say_264 rfl (lv_at hl 1 rfl) ?_
                              refine lv_iload_n hx hb dX12_say_265 rfl (lv_at hl 2 rfl) ?_
                              refine lv_iload_n hx hb dX12_say_266 rfl (lv_at hl 3 rfl) ?_
                              refine lv_iload hx hb dX12_say_267 (lv_at hl 0 rfl) ?_
                              refine lv_if_ne (tgt := 280) hx hb dX12_say_269 (by decide) (fun c91 => ?_) (fun c91 => ?_)
                              · exact absurd c91 (by decide)
                              · skip
                                refine lv_iload_n hx hb dX12_say_272 rfl (lv_at hl 2 rfl) ?_
                                refine lv_if_ne (tgt := 284) hx hb dX12_say_273 (by decide) (fun c92 => ?_) (fun c92 => ?_)
                                · have c92 : ¬ a0.toInt = 0 := tne rfl kp0 c92
                                  exfalso; omega
                                · have c92 : a0.toInt = 0 := teq rfl kp0 c92
                                  refine lv_iload_n hx hb dX12_say_276 rfl (lv_at hl 4 rfl) ?_
                                  refine lv_if_lt (tgt := 284) hx hb dX12_say_277 (by decide) (fun c93 => ?_) (fun c93 => ?_)
                                  · have c93 : a2.toInt < 0 := tlt rfl kp0 c93
                                    refine lv_bipush (v := (-9)) hx hb dX12_say_284 (by decide) ?_
                                    refine ci_ C hW (runV (x := (g.2.2.1 13)) (As := [.int a0, .int a1, .int (-9)]) (rest := []) (T := ((J, L, I, P, E, N), sgM g)) C hW (c_X12_reads_e l g J L I P E N H.size a0 a1 (-9) hwm (show (J 13 31).toInt ≤ 9998 from by (try simp only [kn9]); omega) (show a0.toInt = 0 → (-9 : Int32).toInt < 40 from by (try simp only [kn9]); omega) (show 0 ≤ a1.toInt ∧ a1.toInt < 8 from by (try simp only [kn9]); omega) (show 0 ≤ (J 115 a1.toNatClampNeg).toInt ∧ (J 115 a1.toNatClampNeg).toInt ≤ 10000 from by (try simp only [kn9]); omega)) mi_X12_reads tw_1378 (recv_ (T := ((J, L, I, P, E, N), sgM g)) C hW (mm_ rfl) rfl rfl) ⟨rfl, rfl, Nat.le_of_ble_eq_true rfl, Nat.le_of_ble_eq_true rfl⟩ rfl hl.1 rfl (Nat.le_of_ble_eq_true rfl) dX12_say_286 ⟨Nat.le_of_ble_eq_true rfl, Nat.le_of_ble_eq_true rfl⟩) (fun r94 u94 H locs hp94 hW => ?_)
                                    obtain ⟨hwm, hc94, hf94_0, hf94_1, hf94_2, hf94_3, hf94_4, hf94_5, hf94_6, hf94_7⟩ : WM (hv J [114, 115, 116, 117, 118, 119, 120] [(13, 31), (13, 45)] u94) ∧ ((r94.toInt = (J 13 31).toInt)) ∧ ((u94 13 31).toInt = (J 13 31).toInt + 1) ∧ (∃ v : Int32, v.toInt = (if 0 ≤ (J 114 a1.toNatClampNeg).toInt ∧ (J 114 a1.toNatClampNeg).toInt = (J 13 31).toInt - 1 then (J 115 a1.toNatClampNeg).toInt + 1 else 1) ∧ u94 115 = up2 J 115 a1.toNatClampNeg v 115) ∧ (u94 114 = up2 J 114 a1.toNatClampNeg (J 13 31) 114) ∧ (u94 116 = up2 J 116 (J 13 31).toNatClampNeg a0 116) ∧ (u94 117 = up2 J 117 (J 13 31).toNatClampNeg a1 117) ∧ (u94 118 = up2 J 118 (J 13 31).toNatClampNeg (J 113 a1.toNatClampNeg) 118) ∧ (u94 119 = up2 J 119 (J 13 31).toNatClampNeg (-9) 119) ∧ (u94 120 = up2 J 120 (J 13 31).toNatClampNeg (J 13 33) 120) := hp94
                                    have hwm : WM (hv J [114, 115, 116, 117, 118, 119, 120] [(13, 31), (13, 45)] u94) := hwm
                                    have hW : WB g A s.heap H locs ((hv J [114, 115, 116, 117, 118, 119, 120] [(13, 31), (13, 45)] u94), L, I, P, E, N) (sgM g) := hW
                                    have hR0 := hf94_0
                                    have hR1 := hf94_1
                                    have hR2 := hf94_2
                                    have hR3 := hf94_3
                                    have hR4 := hf94_4
                                    have hR5 := hf94_5
                                    have hR6 := hf94_6
                                    have hR7 := hf94_7
                                    have hWr : WB g A s.heap H locs (hv J [100, 114, 115, 116, 117, 118, 119, 120, 154] [(13, 31), (13, 45), (13, 56), (13, 57), (13, 58), (13, 59), (13, 60)] (hv J [114, 115, 116, 117, 118, 119, 120] [(13, 31), (13, 45)] u94), L, I, P, E, N) (sgM g) := by
                                      rw [← ag_hvE (J := J) (R := [100, 114, 115, 116, 117, 118, 119, 120, 154]) (F := [(13, 31), (13, 45), (13, 56), (13, 57), (13, 58), (13, 59), (13, 60)]) (ag_hv rfl rfl ag_rf)]
                                      exact hW
                                    have hwmr : WM (hv J [114, 115, 116, 117, 118, 119, 120] [(13, 31), (13, 45)] u94) := by exact hwm
                                    have hwmr : WM (hv J [100, 114, 115, 116, 117, 118, 119, 120, 154] [(13, 31), (13, 45), (13, 56), (13, 57), (13, 58), (13, 59), (13, 60)] (hv J [114, 115, 116, 117, 118, 119, 120] [(13, 31), (13, 45)] u94)) := by
                                      rw [← ag_hvE (J := J) (R := [100, 114, 115, 116, 117, 118, 119, 120, 154]) (F := [(13, 31), (13, 45), (13, 56), (13, 57), (13, 58), (13, 59), (13, 60)]) (ag_hv rfl rfl ag_rf)]; exact hwmr
                                    subst hQ9
                                    exact end_i C hr hlocks (hv J [114, 115, 116, 117, 118, 119, 120] [(13, 31), (13, 45)] u94) hWr ⟨hwmr, by first | exact Or.inr (Or.inr (Or.inr (Or.inr (Or.inr (⟨by omega, by omega, show (a0.toInt = 2 → (∃ v : Int32, WVM (J 121) (J 122) (J 123) (J 124) (SCL 2 (hrw (J 13 31).toInt) (J 113 a1.toNatClampNeg) 0 0 (J 13 33) 0 (J 13 35)) (J 13 40).toInt 3 (J 13 31).toInt 1 v ∧ 0 < v.toInt)) from by first | rfl | (intro h9; exfalso; omega) | (intro h9; exact ⟨_, hWV, by omega⟩) | exact ⟨_, hWV, by omega⟩ | exact hR0 | exact hR1 | exact hR2 | exact hR3 | exact hR4 | exact hR5 | exact hR7 | (rw [← ofv_y (by omega)]; exact hR6) | (rw [← ofv_n (by omega)]; exact hR6), show (u94 13 31).toInt = (J 13 31).toInt + 1 from by first | rfl | (intro h9; exfalso; omega) | (intro h9; exact ⟨_, hWV, by omega⟩) | exact ⟨_, hWV, by omega⟩ | exact hR0 | exact hR1 | exact hR2 | exact hR3 | exact hR4 | exact hR5 | exact hR7 | (rw [← ofv_y (by omega)]; exact hR6) | (rw [← ofv_n (by omega)]; exact hR6), show (∃ v : Int32, v.toInt = (if 0 ≤ (J 114 a1.toNatClampNeg).toInt ∧ (J 114 a1.toNatClampNeg).toInt = (J 13 31).toInt - 1 then (J 115 a1.toNatClampNeg).toInt + 1 else 1) ∧ u94 115 = up2 J 115 a1.toNatClampNeg v 115) from by first | rfl | (intro h9; exfalso; omega) | (intro h9; exact ⟨_, hWV, by omega⟩) | exact ⟨_, hWV, by omega⟩ | exact hR0 | exact hR1 | exact hR2 | exact hR3 | exact hR4 | exact hR5 | exact hR7 | (rw [← ofv_y (by omega)]; exact hR6) | (rw [← ofv_n (by omega)]; exact hR6), show u94 114 = up2 J 114 a1.toNatClampNeg (J 13 31) 114 from by first | rfl | (intro h9; exfalso; omega) | (intro h9; exact ⟨_, hWV, by omega⟩) | exact ⟨_, hWV, by omega⟩ | exact hR0 | exact hR1 | exact hR2 | exact hR3 | exact hR4 | exact hR5 | exact hR7 | (rw [← ofv_y (by omega)]; exact hR6) | (rw [← ofv_n (by omega)]; exact hR6), show u94 116 = up2 J 116 (J 13 31).toNatClampNeg a0 116 from by first | rfl | (intro h9; exfalso; omega) | (intro h9; exact ⟨_, hWV, by omega⟩) | exact ⟨_, hWV, by omega⟩ | exact hR0 | exact hR1 | exact hR2 | exact hR3 | exact hR4 | exact hR5 | exact hR7 | (rw [← ofv_y (by omega)]; exact hR6) | (rw [← ofv_n (by omega)]; exact hR6), show u94 117 = up2 J 117 (J 13 31).toNatClampNeg a1 117 from by first | rfl | (intro h9; exfalso; omega) | (intro h9; exact ⟨_, hWV, by omega⟩) | exact ⟨_, hWV, by omega⟩ | exact hR0 | exact hR1 | exact hR2 | exact hR3 | exact hR4 | exact hR5 | exact hR7 | (rw [← ofv_y (by omega)]; exact hR6) | (rw [← ofv_n (by omega)]; exact hR6), show u94 118 = up2 J 118 (J 13 31).toNatClampNeg (J 113 a1.toNatClampNeg) 118 from by first | rfl | (intro h9; exfalso; omega) | (intro h9; exact ⟨_, hWV, by omega⟩) | exact ⟨_, hWV, by omega⟩ | exact hR0 | exact hR1 | exact hR2 | exact hR3 | exact hR4 | exact hR5 | exact hR7 | (rw [← ofv_y (by omega)]; exact hR6) | (rw [← ofv_n (by omega)]; exact hR6), show u94 119 = up2 J 119 (J 13 31).toNatClampNeg (OFV a0 a2) 119 from by first | rfl | (intro h9; exfalso; omega) | (intro h9; exact ⟨_, hWV, by omega⟩) | exact ⟨_, hWV, by omega⟩ | exact hR0 | exact hR1 | exact hR2 | exact hR3 | exact hR4 | exact hR5 | exact hR7 | (rw [← ofv_y (by omega)]; exact hR6) | (rw [← ofv_n (by omega)]; exact hR6), show u94 120 = up2 J 120 (J 13 31).toNatClampNeg (J 13 33) 120 from by first | rfl | (intro h9; exfalso; omega) | (intro h9; exact ⟨_, hWV, by omega⟩) | exact ⟨_, hWV, by omega⟩ | exact hR0 | exact hR1 | exact hR2 | exact hR3 | exact hR4 | exact hR5 | exact hR7 | (rw [← ofv_y (by omega)]; exact hR6) | (rw [← ofv_n (by omega)]; exact hR6)⟩)))))⟩ dX12_say_289
                                  · have c93 : 0 ≤ a2.toInt := tnlt rfl kp0 c93
                                    refine lv_iload_n hx hb dX12_say_280 rfl (lv_at hl 4 rfl) ?_
                                    refine lv_goto (tgt := 286) hx hb dX12_say_281 (by decide) ?_
                                    refine ci_ C hW (runV (x := (g.2.2.1 13)) (As := [.int a0, .int a1, .int a2]) (rest := []) (T := ((J, L, I, P, E, N), sgM g)) C hW (c_X12_reads_e l g J L I P E N H.size a0 a1 a2 hwm (show (J 13 31).toInt ≤ 9998 from by omega) (show a0.toInt = 0 → a2.toInt < 40 from by omega) (show 0 ≤ a1.toInt ∧ a1.toInt < 8 from by omega) (show 0 ≤ (J 115 a1.toNatClampNeg).toInt ∧ (J 115 a1.toNatClampNeg).toInt ≤ 10000 from by omega)) mi_X12_reads tw_1378 (recv_ (T := ((J, L, I, P, E, N), sgM g)) C hW (mm_ rfl) rfl rfl) ⟨rfl, rfl, Nat.le_of_ble_eq_true rfl, Nat.le_of_ble_eq_true rfl⟩ rfl hl.1 rfl (Nat.le_of_ble_eq_true rfl) dX12_say_286 ⟨Nat.le_of_ble_eq_true rfl, Nat.le_of_ble_eq_true rfl⟩) (fun r95 u95 H locs hp95 hW => ?_)
                                    obtain ⟨hwm, hc95, hf95_0, hf95_1, hf95_2, hf95_3, hf95_4, hf95_5, hf95_6, hf95_7⟩ : WM (hv J [114, 115, 116, 117, 118, 119, 120] [(13, 31), (13, 45)] u95) ∧ ((r95.toInt = (J 13 31).toInt)) ∧ ((u95 13 31).toInt = (J 13 31).toInt + 1) ∧ (∃ v : Int32, v.toInt = (if 0 ≤ (J 114 a1.toNatClampNeg).toInt ∧ (J 114 a1.toNatClampNeg).toInt = (J 13 31).toInt - 1 then (J 115 a1.toNatClampNeg).toInt + 1 else 1) ∧ u95 115 = up2 J 115 a1.toNatClampNeg v 115) ∧ (u95 114 = up2 J 114 a1.toNatClampNeg (J 13 31) 114) ∧ (u95 116 = up2 J 116 (J 13 31).toNatClampNeg a0 116) ∧ (u95 117 = up2 J 117 (J 13 31).toNatClampNeg a1 117) ∧ (u95 118 = up2 J 118 (J 13 31).toNatClampNeg (J 113 a1.toNatClampNeg) 118) ∧ (u95 119 = up2 J 119 (J 13 31).toNatClampNeg a2 119) ∧ (u95 120 = up2 J 120 (J 13 31).toNatClampNeg (J 13 33) 120) := hp95
                                    have hwm : WM (hv J [114, 115, 116, 117, 118, 119, 120] [(13, 31), (13, 45)] u95) := hwm
                                    have hW : WB g A s.heap H locs ((hv J [114, 115, 116, 117, 118, 119, 120] [(13, 31), (13, 45)] u95), L, I, P, E, N) (sgM g) := hW
                                    have hR0 := hf95_0
                                    have hR1 := hf95_1
                                    have hR2 := hf95_2
                                    have hR3 := hf95_3
                                    have hR4 := hf95_4
                                    have hR5 := hf95_5
                                    have hR6 := hf95_6
                                    have hR7 := hf95_7
                                    have hWr : WB g A s.heap H locs (hv J [100, 114, 115, 116, 117, 118, 119, 120, 154] [(13, 31), (13, 45), (13, 56), (13, 57), (13, 58), (13, 59), (13, 60)] (hv J [114, 115, 116, 117, 118, 119, 120] [(13, 31), (13, 45)] u95), L, I, P, E, N) (sgM g) := by
                                      rw [← ag_hvE (J := J) (R := [100, 114, 115, 116, 117, 118, 119, 120, 154]) (F := [(13, 31), (13, 45), (13, 56), (13, 57), (13, 58), (13, 59), (13, 60)]) (ag_hv rfl rfl ag_rf)]
                                      exact hW
                                    have hwmr : WM (hv J [114, 115, 116, 117, 118, 119, 120] [(13, 31), (13, 45)] u95) := by exact hwm
                                    have hwmr : WM (hv J [100, 114, 115, 116, 117, 118, 119, 120, 154] [(13, 31), (13, 45), (13, 56), (13, 57), (13, 58), (13, 59), (13, 60)] (hv J [114, 115, 116, 117, 118, 119, 120] [(13, 31), (13, 45)] u95)) := by
                                      rw [← ag_hvE (J := J) (R := [100, 114, 115, 116, 117, 118, 119, 120, 154]) (F := [(13, 31), (13, 45), (13, 56), (13, 57), (13, 58), (13, 59), (13, 60)]) (ag_hv rfl rfl ag_rf)]; exact hwmr
                                    subst hQ9
                                    exact end_i C hr hlocks (hv J [114, 115, 116, 117, 118, 119, 120] [(13, 31), (13, 45)] u95) hWr ⟨hwmr, by first | exact Or.inr (Or.inr (Or.inr (Or.inr (Or.inr (⟨by omega, by omega, show (a0.toInt = 2 → (∃ v : Int32, WVM (J 121) (J 122) (J 123) (J 124) (SCL 2 (hrw (J 13 31).toInt) (J 113 a1.toNatClampNeg) 0 0 (J 13 33) 0 (J 13 35)) (J 13 40).toInt 3 (J 13 31).toInt 1 v ∧ 0 < v.toInt)) from by first | rfl | (intro h9; exfalso; omega) | (intro h9; exact ⟨_, hWV, by omega⟩) | exact ⟨_, hWV, by omega⟩ | exact hR0 | exact hR1 | exact hR2 | exact hR3 | exact hR4 | exact hR5 | exact hR7 | (rw [← ofv_y (by omega)]; exact hR6) | (rw [← ofv_n (by omega)]; exact hR6), show (u95 13 31).toInt = (J 13 31).toInt + 1 from by first | rfl | (intro h9; exfalso; omega) | (intro h9; exact ⟨_, hWV, by omega⟩) | exact ⟨_, hWV, by omega⟩ | exact hR0 | exact hR1 | exact hR2 | exact hR3 | exact hR4 | exact hR5 | exact hR7 | (rw [← ofv_y (by omega)]; exact hR6) | (rw [← ofv_n (by omega)]; exact hR6), show (∃ v : Int32, v.toInt = (if 0 ≤ (J 114 a1.toNatClampNeg).toInt ∧ (J 114 a1.toNatClampNeg).toInt = (J 13 31).toInt - 1 then (J 115 a1.toNatClampNeg).toInt + 1 else 1) ∧ u95 115 = up2 J 115 a1.toNatClampNeg v 115) from by first | rfl | (intro h9; exfalso; omega) | (intro h9; exact ⟨_, hWV, by omega⟩) | exact ⟨_, hWV, by omega⟩ | exact hR0 | exact hR1 | exact hR2 | exact hR3 | exact hR4 | exact hR5 | exact hR7 | (rw [← ofv_y (by omega)]; exact hR6) | (rw [← ofv_n (by omega)]; exact hR6), show u95 114 = up2 J 114 a1.toNatClampNeg (J 13 31) 114 from by first | rfl | (intro h9; exfalso; omega) | (intro h9; exact ⟨_, hWV, by omega⟩) | exact ⟨_, hWV, by omega⟩ | exact hR0 | exact hR1 | exact hR2 | exact hR3 | exact hR4 | exact hR5 | exact hR7 | (rw [← ofv_y (by omega)]; exact hR6) | (rw [← ofv_n (by omega)]; exact hR6), show u95 116 = up2 J 116 (J 13 31).toNatClampNeg a0 116 from by first | rfl | (intro h9; exfalso; omega) | (intro h9; exact ⟨_, hWV, by omega⟩) | exact ⟨_, hWV, by omega⟩ | exact hR0 | exact hR1 | exact hR2 | exact hR3 | exact hR4 | exact hR5 | exact hR7 | (rw [← ofv_y (by omega)]; exact hR6) | (rw [← ofv_n (by omega)]; exact hR6), show u95 117 = up2 J 117 (J 13 31).toNatClampNeg a1 117 from by first | rfl | (intro h9; exfalso; omega) | (intro h9; exact ⟨_, hWV, by omega⟩) | exact ⟨_, hWV, by omega⟩ | exact hR0 | exact hR1 | exact hR2 | exact hR3 | exact hR4 | exact hR5 | exact hR7 | (rw [← ofv_y (by omega)]; exact hR6) | (rw [← ofv_n (by omega)]; exact hR6), show u95 118 = up2 J 118 (J 13 31).toNatClampNeg (J 113 a1.toNatClampNeg) 118 from by first | rfl | (intro h9; exfalso; omega) | (intro h9; exact ⟨_, hWV, by omega⟩) | exact ⟨_, hWV, by omega⟩ | exact hR0 | exact hR1 | exact hR2 | exact hR3 | exact hR4 | exact hR5 | exact hR7 | (rw [← ofv_y (by omega)]; exact hR6) | (rw [← ofv_n (by omega)]; exact hR6), show u95 119 = up2 J 119 (J 13 31).toNatClampNeg (OFV a0 a2) 119 from by first | rfl | (intro h9; exfalso; omega) | (intro h9; exact ⟨_, hWV, by omega⟩) | exact ⟨_, hWV, by omega⟩ | exact hR0 | exact hR1 | exact hR2 | exact hR3 | exact hR4 | exact hR5 | exact hR7 | (rw [← ofv_y (by omega)]; exact hR6) | (rw [← ofv_n (by omega)]; exact hR6), show u95 120 = up2 J 120 (J 13 31).toNatClampNeg (J 13 33) 120 from by first | rfl | (intro h9; exfalso; omega) | (intro h9; exact ⟨_, hWV, by omega⟩) | exact ⟨_, hWV, by omega⟩ | exact hR0 | exact hR1 | exact hR2 | exact hR3 | exact hR4 | exact hR5 | exact hR7 | (rw [← ofv_y (by omega)]; exact hR6) | (rw [← ofv_n (by omega)]; exact hR6)⟩)))))⟩ dX12_say_289
                            · have c90 : (J 13 31).toInt = 9999 := teq rfl kp9999 c90
                              refine lv_aload_n hx hb dX12_say_257 rfl (lv_at hl 1 rfl) ?_
                              refine lv_bipush (v := (-6)) hx hb dX12_say_258 (by decide) ?_
                              refine ci_ C hW (runV (x := (g.2.2.1 13)) (As := [.int (-6)]) (rest := []) (T := ((J, L, I, P, E, N), sgM g)) C hW (c_X12_refuse l g J L I P E N H.size (-6) (show -6 ≤ (-6 : Int32).toInt ∧ (-6 : Int32).toInt ≤ -1 from by (try simp only [kn6]); omega)) mi_X12_refuse tw_1239 (recv_ (T := ((J, L, I, P, E, N), sgM g)) C hW (mm_ rfl) rfl rfl) ⟨rfl, rfl, Nat.le_of_ble_eq_true rfl, Nat.le_of_ble_eq_true rfl⟩ rfl hl.1 rfl (Nat.le_of_ble_eq_true rfl) dX12_say_260 ⟨Nat.le_of_ble_eq_true rfl, Nat.le_of_ble_eq_true rfl⟩) (fun r96 u96 H locs hp96 hW => ?_)
                              have hc96 : ((r96 = (-6))) := hp96
                              clear hp96
                              have hr96 : r96.toInt = (-6) := by rw [hc96]; exact kn6
                              have hW : WB g A s.heap H locs ((hv J [100] [] u96), L, I, P, E, N) (sgM g) := hW
                              have hWr : WB g A s.heap H locs (hv J [100, 114, 115, 116, 117, 118, 119, 120, 154] [(13, 31), (13, 45), (13, 56), (13, 57), (13, 58), (13, 59), (13, 60)] (hv J [100] [] u96), L, I, P, E, N) (sgM g) := by
                                rw [← ag_hvE (J := J) (R := [100, 114, 115, 116, 117, 118, 119, 120, 154]) (F := [(13, 31), (13, 45), (13, 56), (13, 57), (13, 58), (13, 59), (13, 60)]) (ag_hv rfl rfl ag_rf)]
                                exact hW
                              have hwmr : WM (hv J [100] [] u96) := by exact hwm
                              have hwmr : WM (hv J [100, 114, 115, 116, 117, 118, 119, 120, 154] [(13, 31), (13, 45), (13, 56), (13, 57), (13, 58), (13, 59), (13, 60)] (hv J [100] [] u96)) := by
                                rw [← ag_hvE (J := J) (R := [100, 114, 115, 116, 117, 118, 119, 120, 154]) (F := [(13, 31), (13, 45), (13, 56), (13, 57), (13, 58), (13, 59), (13, 60)]) (ag_hv rfl rfl ag_rf)]; exact hwmr
                              subst hQ9
                              exact end_i C hr hlocks (hv J [100] [] u96) hWr ⟨hwmr, by first | exact Or.inr (Or.inr (Or.inr (Or.inr (Or.inl ⟨by omega, by omega, show (a0.toInt = 2 → (∃ v : Int32, WVM (J 121) (J 122) (J 123) (J 124) (SCL 2 (hrw (J 13 31).toInt) (J 113 a1.toNatClampNeg) 0 0 (J 13 33) 0 (J 13 35)) (J 13 40).toInt 3 (J 13 31).toInt 1 v ∧ 0 < v.toInt)) from by first | rfl | (intro h9; exfalso; omega) | (intro h9; exact ⟨_, hWV, by omega⟩) | exact ⟨_, hWV, by omega⟩, show J 13 31 = J 13 31 from by first | rfl | (intro h9; exfalso; omega) | (intro h9; exact ⟨_, hWV, by omega⟩) | exact ⟨_, hWV, by omega⟩, show J 114 = J 114 from by first | rfl | (intro h9; exfalso; omega) | (intro h9; exact ⟨_, hWV, by omega⟩) | exact ⟨_, hWV, by omega⟩, show J 115 = J 115 from by first | rfl | (intro h9; exfalso; omega) | (intro h9; exact ⟨_, hWV, by omega⟩) | exact ⟨_, hWV, by omega⟩, show J 116 = J 116 from by first | rfl | (intro h9; exfalso; omega) | (intro h9; exact ⟨_, hWV, by omega⟩) | exact ⟨_, hWV, by omega⟩, show J 117 = J 117 from by first | rfl | (intro h9; exfalso; omega) | (intro h9; exact ⟨_, hWV, by omega⟩) | exact ⟨_, hWV, by omega⟩, show J 118 = J 118 from by first | rfl | (intro h9; exfalso; omega) | (intro h9; exact ⟨_, hWV, by omega⟩) | exact ⟨_, hWV, by omega⟩, show J 119 = J 119 from by first | rfl | (intro h9; exfalso; omega) | (intro h9; exact ⟨_, hWV, by omega⟩) | exact ⟨_, hWV, by omega⟩, show J 120 = J 120 from by first | rfl | (intro h9; exfalso; omega) | (intro h9; exact ⟨_, hWV, by omega⟩) | exact ⟨_, hWV, by omega⟩⟩))))⟩ dX12_say_263
                          · have c89 : a0.toInt = 2 := teq rfl kp2 c89
                            exfalso; omega
                        · have c88 : a0.toInt = 1 := teq rfl kp1 c88
                          exfalso; omega
                      · have c87 : a0.toInt = 5 := teq rfl kp5 c87
                        exfalso; omega
                    · have c86 : r85.toInt = 0 := teq rfl kp0 c86
                      refine lv_aload_n hx hb dX12_say_96 rfl (lv_at hl 1 rfl) ?_
                      refine lv_bipush (v := (-3)) hx hb dX12_say_97 (by decide) ?_
                      refine ci_ C hW (runV (x := (g.2.2.1 13)) (As := [.int (-3)]) (rest := []) (T := ((J, L, I, P, E, N), sgM g)) C hW (c_X12_refuse l g J L I P E N H.size (-3) (show -6 ≤ (-3 : Int32).toInt ∧ (-3 : Int32).toInt ≤ -1 from by (try simp only [kn3]); omega)) mi_X12_refuse tw_1239 (recv_ (T := ((J, L, I, P, E, N), sgM g)) C hW (mm_ rfl) rfl rfl) ⟨rfl, rfl, Nat.le_of_ble_eq_true rfl, Nat.le_of_ble_eq_true rfl⟩ rfl hl.1 rfl (Nat.le_of_ble_eq_true rfl) dX12_say_99 ⟨Nat.le_of_ble_eq_true rfl, Nat.le_of_ble_eq_true rfl⟩) (fun r97 u97 H locs hp97 hW => ?_)
                      have hc97 : ((r97 = (-3))) := hp97
                      clear hp97
                      have hr97 : r97.toInt = (-3) := by rw [hc97]; exact kn3
                      have hW : WB g A s.heap H locs ((hv J [100] [] u97), L, I, P, E, N) (sgM g) := hW
                      have hWr : WB g A s.heap H locs (hv J [100, 114, 115, 116, 117, 118, 119, 120, 154] [(13, 31), (13, 45), (13, 56), (13, 57), (13, 58), (13, 59), (13, 60)] (hv J [100] [] u97), L, I, P, E, N) (sgM g) := by
                        rw [← ag_hvE (J := J) (R := [100, 114, 115, 116, 117, 118, 119, 120, 154]) (F := [(13, 31), (13, 45), (13, 56), (13, 57), (13, 58), (13, 59), (13, 60)]) (ag_hv rfl rfl ag_rf)]
                        exact hW
                      have hwmr : WM (hv J [100] [] u97) := by exact hwm
                      have hwmr : WM (hv J [100, 114, 115, 116, 117, 118, 119, 120, 154] [(13, 31), (13, 45), (13, 56), (13, 57), (13, 58), (13, 59), (13, 60)] (hv J [100] [] u97)) := by
                        rw [← ag_hvE (J := J) (R := [100, 114, 115, 116, 117, 118, 119, 120, 154]) (F := [(13, 31), (13, 45), (13, 56), (13, 57), (13, 58), (13, 59), (13, 60)]) (ag_hv rfl rfl ag_rf)]; exact hwmr
                      subst hQ9
                      exact end_i C hr hlocks (hv J [100] [] u97) hWr ⟨hwmr, by first | exact Or.inr (Or.inr (Or.inl ⟨by omega, by omega, show J 13 31 = J 13 31 from by first | rfl | assumption, show J 114 = J 114 from by first | rfl | assumption, show J 115 = J 115 from by first | rfl | assumption, show J 116 = J 116 from by first | rfl | assumption, show J 117 = J 117 from by first | rfl | assumption, show J 118 = J 118 from by first | rfl | assumption, show J 119 = J 119 from by first | rfl | assumption, show J 120 = J 120 from by first | rfl | assumption⟩))⟩ dX12_say_102
                  · have c84 : r83.toInt = 0 := teq rfl kp0 c84
                    refine lv_aload_n hx hb dX12_say_82 rfl (lv_at hl 1 rfl) ?_
                    refine lv_iconst (v := (-1)) hx hb dX12_say_83 (by decide) ?_
                    refine ci_ C hW (runV (x := (g.2.2.1 13)) (As := [.int (-1)]) (rest := []) (T := ((J, L, I, P, E, N), sgM g)) C hW (c_X12_refuse l g J L I P E N H.size (-1) (show -6 ≤ (-1 : Int32).toInt ∧ (-1 : Int32).toInt ≤ -1 from by (try simp only [kn1]); omega)) mi_X12_refuse tw_1239 (recv_ (T := ((J, L, I, P, E, N), sgM g)) C hW (mm_ rfl) rfl rfl) ⟨rfl, rfl, Nat.le_of_ble_eq_true rfl, Nat.le_of_ble_eq_true rfl⟩ rfl hl.1 rfl (Nat.le_of_ble_eq_true rfl) dX12_say_84 ⟨Nat.le_of_ble_eq_true rfl, Nat.le_of_ble_eq_true rfl⟩) (fun r98 u98 H locs hp98 hW => ?_)
                    have hc98 : ((r98 = (-1))) := hp98
                    clear hp98
                    have hr98 : r98.toInt = (-1) := by rw [hc98]; exact kn1
                    have hW : WB g A s.heap H locs ((hv J [100] [] u98), L, I, P, E, N) (sgM g) := hW
                    have hWr : WB g A s.heap H locs (hv J [100, 114, 115, 116, 117, 118, 119, 120, 154] [(13, 31), (13, 45), (13, 56), (13, 57), (13, 58), (13, 59), (13, 60)] (hv J [100] [] u98), L, I, P, E, N) (sgM g) := by
                      rw [← ag_hvE (J := J) (R := [100, 114, 115, 116, 117, 118, 119, 120, 154]) (F := [(13, 31), (13, 45), (13, 56), (13, 57), (13, 58), (13, 59), (13, 60)]) (ag_hv rfl rfl ag_rf)]
                      exact hW
                    have hwmr : WM (hv J [100] [] u98) := by exact hwm
                    have hwmr : WM (hv J [100, 114, 115, 116, 117, 118, 119, 120, 154] [(13, 31), (13, 45), (13, 56), (13, 57), (13, 58), (13, 59), (13, 60)] (hv J [100] [] u98)) := by
                      rw [← ag_hvE (J := J) (R := [100, 114, 115, 116, 117, 118, 119, 120, 154]) (F := [(13, 31), (13, 45), (13, 56), (13, 57), (13, 58), (13, 59), (13, 60)]) (ag_hv rfl rfl ag_rf)]; exact hwmr
                    subst hQ9
                    exact end_i C hr hlocks (hv J [100] [] u98) hWr ⟨hwmr, by first | exact Or.inr (Or.inl ⟨by omega, by omega, show J 13 31 = J 13 31 from by first | rfl | assumption, show J 114 = J 114 from by first | rfl | assumption, show J 115 = J 115 from by first | rfl | assumption, show J 116 = J 116 from by first | rfl | assumption, show J 117 = J 117 from by first | rfl | assumption, show J 118 = J 118 from by first | rfl | assumption, show J 119 = J 119 from by first | rfl | assumption, show J 120 = J 120 from by first | rfl | assumption⟩)⟩ dX12_say_87
            · exact absurd (by decide) c45
        · have c41 : a0.toInt = 5 := teq rfl kp5 c41
          refine lv_iconst (v := 1) hx hb dX12_say_31 (by decide) ?_
          refine lv_goto (tgt := 36) hx hb dX12_say_32 (by decide) ?_
          refine lv_istore (lv' := [(4, .int 1), (0, .ref (g.2.2.1 13)), (1, .int a0), (2, .int a1), (3, .int a2)]) hx hb dX12_say_36 hl (by decide) rfl (fun ls hl => ?_)
          refine lv_iload_n hx hb dX12_say_38 rfl (lv_at hl 3 rfl) ?_
          refine lv_aload_n hx hb dX12_say_39 rfl (lv_at hl 1 rfl) ?_
          refine rg_13_37 C hW (mm_ rfl) tw_1060 dX12_say_40 ?_
          refine ci_ C hW (runS (As := [.int a1, .int (J 13 37)]) (rest := []) (T := ((J, L, I, P, E, N), sgM g)) C hW (c_X12_isIn l g J L I P E N H.size a1 (J 13 37) ) mi_X12_isIn tw_1255 ⟨rfl, rfl, Nat.le_of_ble_eq_true rfl, Nat.le_of_ble_eq_true rfl⟩ rfl hl.1 rfl (Nat.le_of_ble_eq_true rfl) dX12_say_43 ⟨Nat.le_of_ble_eq_true rfl, Nat.le_of_ble_eq_true rfl⟩) (fun r99 u99 H locs hp99 hW => ?_)
          have hc99 : ((r99.toInt = 1 ∧ (0 ≤ a1.toInt ∧ a1.toInt < (J 13 37).toInt)) ∨ (r99.toInt = 0 ∧ (¬ (0 ≤ a1.toInt ∧ a1.toInt < (J 13 37).toInt)))) := hp99
          clear hp99
          have hW : WB g A s.heap H locs (J, L, I, P, E, N) (sgM g) := hW
          refine lv_if_eq (tgt := 82) hx hb dX12_say_46 (by decide) (fun c100 => ?_) (fun c100 => ?_)
          · have c100 : r99.toInt = 0 := teq rfl kp0 c100
            refine lv_aload_n hx hb dX12_say_82 rfl (lv_at hl 1 rfl) ?_
            refine lv_iconst (v := (-1)) hx hb dX12_say_83 (by decide) ?_
            refine ci_ C hW (runV (x := (g.2.2.1 13)) (As := [.int (-1)]) (rest := []) (T := ((J, L, I, P, E, N), sgM g)) C hW (c_X12_refuse l g J L I P E N H.size (-1) (show -6 ≤ (-1 : Int32).toInt ∧ (-1 : Int32).toInt ≤ -1 from by (try simp only [kn1]); omega)) mi_X12_refuse tw_1239 (recv_ (T := ((J, L, I, P, E, N), sgM g)) C hW (mm_ rfl) rfl rfl) ⟨rfl, rfl, Nat.le_of_ble_eq_true rfl, Nat.le_of_ble_eq_true rfl⟩ rfl hl.1 rfl (Nat.le_of_ble_eq_true rfl) dX12_say_84 ⟨Nat.le_of_ble_eq_true rfl, Nat.le_of_ble_eq_true rfl⟩) (fun r101 u101 H locs hp101 hW => ?_)
            have hc101 : ((r101 = (-1))) := hp101
            clear hp101
            have hr101 : r101.toInt = (-1) := by rw [hc101]; exact kn1
            have hW : WB g A s.heap H locs ((hv J [100] [] u101), L, I, P, E, N) (sgM g) := hW
            have hWr : WB g A s.heap H locs (hv J [100, 114, 115, 116, 117, 118, 119, 120, 154] [(13, 31), (13, 45), (13, 56), (13, 57), (13, 58), (13, 59), (13, 60)] (hv J [100] [] u101), L, I, P, E, N) (sgM g) := by
              rw [← ag_hvE (J := J) (R := [100, 114, 115, 116, 117, 118, 119, 120, 154]) (F := [(13, 31), (13, 45), (13, 56), (13, 57), (13, 58), (13, 59), (13, 60)]) (ag_hv rfl rfl ag_rf)]
              exact hW
            have hwmr : WM (hv J [100] [] u101) := by exact hwm
            have hwmr : WM (hv J [100, 114, 115, 116, 117, 118, 119, 120, 154] [(13, 31), (13, 45), (13, 56), (13, 57), (13, 58), (13, 59), (13, 60)] (hv J [100] [] u101)) := by
              rw [← ag_hvE (J := J) (R := [100, 114, 115, 116, 117, 118, 119, 120, 154]) (F := [(13, 31), (13, 45), (13, 56), (13, 57), (13, 58), (13, 59), (13, 60)]) (ag_hv rfl rfl ag_rf)]; exact hwmr
            subst hQ9
            exact end_i C hr hlocks (hv J [100] [] u101) hWr ⟨hwmr, by first | exact Or.inr (Or.inl ⟨by omega, by omega, show J 13 31 = J 13 31 from by first | rfl | assumption, show J 114 = J 114 from by first | rfl | assumption, show J 115 = J 115 from by first | rfl | assumption, show J 116 = J 116 from by first | rfl | assumption, show J 117 = J 117 from by first | rfl | assumption, show J 118 = J 118 from by first | rfl | assumption, show J 119 = J 119 from by first | rfl | assumption, show J 120 = J 120 from by first | rfl | assumption⟩)⟩ dX12_say_87
          · have c100 : ¬ r99.toInt = 0 := tne rfl kp0 c100
            refine lv_iload hx hb dX12_say_49 (lv_at hl 0 rfl) ?_
            refine lv_if_eq (tgt := 62) hx hb dX12_say_51 (by decide) (fun c102 => ?_) (fun c102 => ?_)
            · exact absurd c102 (by decide)
            · skip
              refine lv_aload_n hx hb dX12_say_54 rfl (lv_at hl 1 rfl) ?_
              refine lv_iload_n hx hb dX12_say_55 rfl (lv_at hl 4 rfl) ?_
              refine ci_ C hW (runV (x := (g.2.2.1 13)) (As := [.int a2]) (rest := []) (T := ((J, L, I, P, E, N), sgM g)) C hW (c_X12_isPast l g J L I P E N H.size a2 hwm) mi_X12_isPast tw_1326 (recv_ (T := ((J, L, I, P, E, N), sgM g)) C hW (mm_ rfl) rfl rfl) ⟨rfl, rfl, Nat.le_of_ble_eq_true rfl, Nat.le_of_ble_eq_true rfl⟩ rfl hl.1 rfl (Nat.le_of_ble_eq_true rfl) dX12_say_56 ⟨Nat.le_of_ble_eq_true rfl, Nat.le_of_ble_eq_true rfl⟩) (fun r103 u103 H locs hp103 hW => ?_)
              have hc103 : ((r103.toInt = 1 ∧ (0 ≤ a2.toInt ∧ a2.toInt < (J 13 31).toInt)) ∨ (r103.toInt = 0 ∧ (¬ (0 ≤ a2.toInt ∧ a2.toInt < (J 13 31).toInt)))) := hp103
              clear hp103
              have hW : WB g A s.heap H locs (J, L, I, P, E, N) (sgM g) := hW
              refine lv_if_eq (tgt := 82) hx hb dX12_say_59 (by decide) (fun c104 => ?_) (fun c104 => ?_)
              · have c104 : r103.toInt = 0 := teq rfl kp0 c104
                refine lv_aload_n hx hb dX12_say_82 rfl (lv_at hl 1 rfl) ?_
                refine lv_iconst (v := (-1)) hx hb dX12_say_83 (by decide) ?_
                refine ci_ C hW (runV (x := (g.2.2.1 13)) (As := [.int (-1)]) (rest := []) (T := ((J, L, I, P, E, N), sgM g)) C hW (c_X12_refuse l g J L I P E N H.size (-1) (show -6 ≤ (-1 : Int32).toInt ∧ (-1 : Int32).toInt ≤ -1 from by (try simp only [kn1]); omega)) mi_X12_refuse tw_1239 (recv_ (T := ((J, L, I, P, E, N), sgM g)) C hW (mm_ rfl) rfl rfl) ⟨rfl, rfl, Nat.le_of_ble_eq_true rfl, Nat.le_of_ble_eq_true rfl⟩ rfl hl.1 rfl (Nat.le_of_ble_eq_true rfl) dX12_say_84 ⟨Nat.le_of_ble_eq_true rfl, Nat.le_of_ble_eq_true rfl⟩) (fun r105 u105 H locs hp105 hW => ?_)
                have hc105 : ((r105 = (-1))) := hp105
                clear hp105
                have hr105 : r105.toInt = (-1) := by rw [hc105]; exact kn1
                have hW : WB g A s.heap H locs ((hv J [100] [] u105), L, I, P, E, N) (sgM g) := hW
                have hWr : WB g A s.heap H locs (hv J [100, 114, 115, 116, 117, 118, 119, 120, 154] [(13, 31), (13, 45), (13, 56), (13, 57), (13, 58), (13, 59), (13, 60)] (hv J [100] [] u105), L, I, P, E, N) (sgM g) := by
                  rw [← ag_hvE (J := J) (R := [100, 114, 115, 116, 117, 118, 119, 120, 154]) (F := [(13, 31), (13, 45), (13, 56), (13, 57), (13, 58), (13, 59), (13, 60)]) (ag_hv rfl rfl ag_rf)]
                  exact hW
                have hwmr : WM (hv J [100] [] u105) := by exact hwm
                have hwmr : WM (hv J [100, 114, 115, 116, 117, 118, 119, 120, 154] [(13, 31), (13, 45), (13, 56), (13, 57), (13, 58), (13, 59), (13, 60)] (hv J [100] [] u105)) := by
                  rw [← ag_hvE (J := J) (R := [100, 114, 115, 116, 117, 118, 119, 120, 154]) (F := [(13, 31), (13, 45), (13, 56), (13, 57), (13, 58), (13, 59), (13, 60)]) (ag_hv rfl rfl ag_rf)]; exact hwmr
                subst hQ9
                exact end_i C hr hlocks (hv J [100] [] u105) hWr ⟨hwmr, by first | exact Or.inr (Or.inl ⟨by omega, by omega, show J 13 31 = J 13 31 from by first | rfl | assumption, show J 114 = J 114 from by first | rfl | assumption, show J 115 = J 115 from by first | rfl | assumption, show J 116 = J 116 from by first | rfl | assumption, show J 117 = J 117 from by first | rfl | assumption, show J 118 = J 118 from by first | rfl | assumption, show J 119 = J 119 from by first | rfl | assumption, show J 120 = J 120 from by first | rfl | assumption⟩)⟩ dX12_say_87
              · have c104 : ¬ r103.toInt = 0 := tne rfl kp0 c104
                refine lv_iload_n hx hb dX12_say_62 rfl (lv_at hl 2 rfl) ?_
                refine lv_if_ne (tgt := 88) hx hb dX12_say_63 (by decide) (fun c106 => ?_) (fun c106 => ?_)
                · have c106 : ¬ a0.toInt = 0 := tne rfl kp0 c106
                  have hr9 := hrd a1.toNatClampNeg (by have h8 := tcl a1; omega)
                  refine lv_aload_n hx hb dX12_say_88 rfl (lv_at hl 1 rfl) ?_
                  refine lv_iload_n hx hb dX12_say_89 rfl (lv_at hl 3 rfl) ?_
                  refine ci_ C hW (runV (x := (g.2.2.1 13)) (As := [.int a1]) (rest := []) (T := ((J, L, I, P, E, N), sgM g)) C hW (c_X12_may_e l g J L I P E N H.size a1 hwm (show 0 ≤ a1.toInt ∧ a1.toInt < 8 from by omega) (show -9 ≤ (J 114 a1.toNatClampNeg).toInt ∧ (J 114 a1.toNatClampNeg).toInt ≤ 9999 ∧ 0 ≤ (J 13 39).toInt ∧ (J 13 39).toInt ≤ 240 from by omega)) mi_X12_may tw_1318 (recv_ (T := ((J, L, I, P, E, N), sgM g)) C hW (mm_ rfl) rfl rfl) ⟨rfl, rfl, Nat.le_of_ble_eq_true rfl, Nat.le_of_ble_eq_true rfl⟩ rfl hl.1 rfl (Nat.le_of_ble_eq_true rfl) dX12_say_90 ⟨Nat.le_of_ble_eq_true rfl, Nat.le_of_ble_eq_true rfl⟩) (fun r107 u107 H locs hp107 hW => ?_)
                  have hc107 : ((r107.toInt = 1 ∧ (((J 115 a1.toNatClampNeg).toInt < (J 13 38).toInt ∨ (J 114 a1.toNatClampNeg).toInt + (J 13 39).toInt < (J 13 31).toInt))) ∨ (r107.toInt = 0 ∧ (¬ ((J 115 a1.toNatClampNeg).toInt < (J 13 38).toInt ∨ (J 114 a1.toNatClampNeg).toInt + (J 13 39).toInt < (J 13 31).toInt)))) := hp107
                  clear hp107
                  have hW : WB g A s.heap H locs (J, L, I, P, E, N) (sgM g) := hW
                  refine lv_if_ne (tgt := 103) hx hb dX12_say_93 (by decide) (fun c108 => ?_) (fun c108 => ?_)
                  · have c108 : ¬ r107.toInt = 0 := tne rfl kp0 c108
                    refine lv_iload_n hx hb dX12_say_103 rfl (lv_at hl 2 rfl) ?_
                    refine lv_iconst (v := 5) hx hb dX12_say_104 (by decide) ?_
                    refine lv_icmp_ne (tgt := 117) hx hb dX12_say_105 (by decide) (fun c109 => ?_) (fun c109 => ?_)
                    · have c109 : ¬ a0.toInt = 5 := tne rfl kp5 c109
                      exfalso; omega
                    · have c109 : a0.toInt = 5 := teq rfl kp5 c109
                      refine lv_aload_n hx hb dX12_say_108 rfl (lv_at hl 1 rfl) ?_
                      refine rg_13_16 C hW (mm_ rfl) tw_1039 dX12_say_109 ?_
                      refine lv_iload_n hx hb dX12_say_112 rfl (lv_at hl 4 rfl) ?_
                      have hin : vp_in a2 10000 := tin rfl (by omega)
                      refine ra_116 C hW (mm_ rfl) hin dX12_say_113 ?_
                      refine lv_topi (fun x110 (e110 : x110 = J 116 a2.toNatClampNeg) => ?_)
                      have t110 : x110.toInt = (J 116 a2.toNatClampNeg).toInt := by rw [e110]
                      refine lv_if_ne (tgt := 151) hx hb dX12_say_114 (by decide) (fun c111 => ?_) (fun c111 => ?_)
                      · have c111 : ¬ x110.toInt = 0 := tne rfl kp0 c111
                        refine lv_aload_n hx hb dX12_say_151 rfl (lv_at hl 1 rfl) ?_
                        refine lv_bipush (v := (-3)) hx hb dX12_say_152 (by decide) ?_
                        refine ci_ C hW (runV (x := (g.2.2.1 13)) (As := [.int (-3)]) (rest := []) (T := ((J, L, I, P, E, N), sgM g)) C hW (c_X12_refuse l g J L I P E N H.size (-3) (show -6 ≤ (-3 : Int32).toInt ∧ (-3 : Int32).toInt ≤ -1 from by (try simp only [kn3]); omega)) mi_X12_refuse tw_1239 (recv_ (T := ((J, L, I, P, E, N), sgM g)) C hW (mm_ rfl) rfl rfl) ⟨rfl, rfl, Nat.le_of_ble_eq_true rfl, Nat.le_of_ble_eq_true rfl⟩ rfl hl.1 rfl (Nat.le_of_ble_eq_true rfl) dX12_say_154 ⟨Nat.le_of_ble_eq_true rfl, Nat.le_of_ble_eq_true rfl⟩) (fun r112 u112 H locs hp112 hW => ?_)
                        have hc112 : ((r112 = (-3))) := hp112
                        clear hp112
                        have hr112 : r112.toInt = (-3) := by rw [hc112]; exact kn3
                        have hW : WB g A s.heap H locs ((hv J [100] [] u112), L, I, P, E, N) (sgM g) := hW
                        have hWr : WB g A s.heap H locs (hv J [100, 114, 115, 116, 117, 118, 119, 120, 154] [(13, 31), (13, 45), (13, 56), (13, 57), (13, 58), (13, 59), (13, 60)] (hv J [100] [] u112), L, I, P, E, N) (sgM g) := by
                          rw [← ag_hvE (J := J) (R := [100, 114, 115, 116, 117, 118, 119, 120, 154]) (F := [(13, 31), (13, 45), (13, 56), (13, 57), (13, 58), (13, 59), (13, 60)]) (ag_hv rfl rfl ag_rf)]
                          exact hW
                        have hwmr : WM (hv J [100] [] u112) := by exact hwm
                        have hwmr : WM (hv J [100, 114, 115, 116, 117, 118, 119, 120, 154] [(13, 31), (13, 45), (13, 56), (13, 57), (13, 58), (13, 59), (13, 60)] (hv J [100] [] u112)) := by
                          rw [← ag_hvE (J := J) (R := [100, 114, 115, 116, 117, 118, 119, 120, 154]) (F := [(13, 31), (13, 45), (13, 56), (13, 57), (13, 58), (13, 59), (13, 60)]) (ag_hv rfl rfl ag_rf)]; exact hwmr
                        subst hQ9
                        exact end_i C hr hlocks (hv J [100] [] u112) hWr ⟨hwmr, by first | exact Or.inr (Or.inr (Or.inl ⟨by omega, by omega, show J 13 31 = J 13 31 from by first | rfl | assumption, show J 114 = J 114 from by first | rfl | assumption, show J 115 = J 115 from by first | rfl | assumption, show J 116 = J 116 from by first | rfl | assumption, show J 117 = J 117 from by first | rfl | assumption, show J 118 = J 118 from by first | rfl | assumption, show J 119 = J 119 from by first | rfl | assumption, show J 120 = J 120 from by first | rfl | assumption⟩))⟩ dX12_say_157
                      · have c111 : x110.toInt = 0 := teq rfl kp0 c111
                        refine lv_iload_n hx hb dX12_say_117 rfl (lv_at hl 2 rfl) ?_
                        refine lv_iconst (v := 1) hx hb dX12_say_118 (by decide) ?_
                        refine lv_icmp_ne (tgt := 158) hx hb dX12_say_119 (by decide) (fun c113 => ?_) (fun c113 => ?_)
                        · have c113 : ¬ a0.toInt = 1 := tne rfl kp1 c113
                          refine lv_iload_n hx hb dX12_say_158 rfl (lv_at hl 2 rfl) ?_
                          refine lv_iconst (v := 2) hx hb dX12_say_159 (by decide) ?_
                          refine lv_icmp_ne (tgt := 247) hx hb dX12_say_160 (by decide) (fun c114 => ?_) (fun c114 => ?_)
                          · have c114 : ¬ a0.toInt = 2 := tne rfl kp2 c114
                            refine lv_aload_n hx hb dX12_say_247 rfl (lv_at hl 1 rfl) ?_
                            refine rg_13_31 C hW (mm_ rfl) tw_1054 dX12_say_248 ?_
                            refine lv_sipush (v := 9999) hx hb dX12_say_251 (by decide) ?_
                            refine lv_icmp_ne (tgt := 264) hx hb dX12_say_254 (by decide) (fun c115 => ?_) (fun c115 => ?_)
                            · have c115 : ¬ (J 13 31).toInt = 9999 := tne rfl kp9999 c115
                              refine lv_aload_n hx hb dX12_say_264 rfl (lv_at hl 1 rfl) ?_
                              refine lv_iload_n hx hb dX12_say_265 rfl (lv_at hl 2 rfl) ?_
                              refine lv_iload_n hx hb dX12_say_266 rfl (lv_at hl 3 rfl) ?_
                              refine lv_iload hx hb dX12_say_267 (lv_at hl 0 rfl) ?_
                              refine lv_if_ne (tgt := 280) hx hb dX12_say_269 (by decide) (fun c116 => ?_) (fun c116 => ?_)
                              · skip
                                refine lv_iload_n hx hb dX12_say_280 rfl (lv_at hl 4 rfl) ?_
                                refine lv_goto (tgt := 286) hx hb dX12_say_281 (by decide) ?_
                                refine ci_ C hW (runV (x := (g.2.2.1 13)) (As := [.int a0, .int a1, .int a2]) (rest := []) (T := ((J, L, I, P, E, N), sgM g)) C hW (c_X12_reads_e l g J L I P E N H.size a0 a1 a2 hwm (show (J 13 31).toInt ≤ 9998 from by omega) (show a0.toInt = 0 → a2.toInt < 40 from by omega) (show 0 ≤ a1.toInt ∧ a1.toInt < 8 from by omega) (show 0 ≤ (J 115 a1.toNatClampNeg).toInt ∧ (J 115 a1.toNatClampNeg).toInt ≤ 10000 from by omega)) mi_X12_reads tw_1378 (recv_ (T := ((J, L, I, P, E, N), sgM g)) C hW (mm_ rfl) rfl rfl) ⟨rfl, rfl, Nat.le_of_ble_eq_true rfl, Nat.le_of_ble_eq_true rfl⟩ rfl hl.1 rfl (Nat.le_of_ble_eq_true rfl) dX12_say_286 ⟨Nat.le_of_ble_eq_true rfl, Nat.le_of_ble_eq_true rfl⟩) (fun r117 u117 H locs hp117 hW => ?_)
                                obtain ⟨hwm, hc117, hf117_0, hf117_1, hf117_2, hf117_3, hf117_4, hf117_5, hf117_6, hf117_7⟩ : WM (hv J [114, 115, 116, 117, 118, 119, 120] [(13, 31), (13, 45)] u117) ∧ ((r117.toInt = (J 13 31).toInt)) ∧ ((u117 13 31).toInt = (J 13 31).toInt + 1) ∧ (∃ v : Int32, v.toInt = (if 0 ≤ (J 114 a1.toNatClampNeg).toInt ∧ (J 114 a1.toNatClampNeg).toInt = (J 13 31).toInt - 1 then (J 115 a1.toNatClampNeg).toInt + 1 else 1) ∧ u117 115 = up2 J 115 a1.toNatClampNeg v 115) ∧ (u117 114 = up2 J 114 a1.toNatClampNeg (J 13 31) 114) ∧ (u117 116 = up2 J 116 (J 13 31).toNatClampNeg a0 116) ∧ (u117 117 = up2 J 117 (J 13 31).toNatClampNeg a1 117) ∧ (u117 118 = up2 J 118 (J 13 31).toNatClampNeg (J 113 a1.toNatClampNeg) 118) ∧ (u117 119 = up2 J 119 (J 13 31).toNatClampNeg a2 119) ∧ (u117 120 = up2 J 120 (J 13 31).toNatClampNeg (J 13 33) 120) := hp117
                                have hwm : WM (hv J [114, 115, 116, 117, 118, 119, 120] [(13, 31), (13, 45)] u117) := hwm
                                have hW : WB g A s.heap H locs ((hv J [114, 115, 116, 117, 118, 119, 120] [(13, 31), (13, 45)] u117), L, I, P, E, N) (sgM g) := hW
                                have hR0 := hf117_0
                                have hR1 := hf117_1
                                have hR2 := hf117_2
                                have hR3 := hf117_3
                                have hR4 := hf117_4
                                have hR5 := hf117_5
                                have hR6 := hf117_6
                                have hR7 := hf117_7
                                have hWr : WB g A s.heap H locs (hv J [100, 114, 115, 116, 117, 118, 119, 120, 154] [(13, 31), (13, 45), (13, 56), (13, 57), (13, 58), (13, 59), (13, 60)] (hv J [114, 115, 116, 117, 118, 119, 120] [(13, 31), (13, 45)] u117), L, I, P, E, N) (sgM g) := by
                                  rw [← ag_hvE (J := J) (R := [100, 114, 115, 116, 117, 118, 119, 120, 154]) (F := [(13, 31), (13, 45), (13, 56), (13, 57), (13, 58), (13, 59), (13, 60)]) (ag_hv rfl rfl ag_rf)]
                                  exact hW
                                have hwmr : WM (hv J [114, 115, 116, 117, 118, 119, 120] [(13, 31), (13, 45)] u117) := by exact hwm
                                have hwmr : WM (hv J [100, 114, 115, 116, 117, 118, 119, 120, 154] [(13, 31), (13, 45), (13, 56), (13, 57), (13, 58), (13, 59), (13, 60)] (hv J [114, 115, 116, 117, 118, 119, 120] [(13, 31), (13, 45)] u117)) := by
                                  rw [← ag_hvE (J := J) (R := [100, 114, 115, 116, 117, 118, 119, 120, 154]) (F := [(13, 31), (13, 45), (13, 56), (13, 57), (13, 58), (13, 59), (13, 60)]) (ag_hv rfl rfl ag_rf)]; exact hwmr
                                subst hQ9
                                exact end_i C hr hlocks (hv J [114, 115, 116, 117, 118, 119, 120] [(13, 31), (13, 45)] u117) hWr ⟨hwmr, by first | exact Or.inr (Or.inr (Or.inr (Or.inr (Or.inr (⟨by omega, by omega, show (a0.toInt = 2 → (∃ v : Int32, WVM (J 121) (J 122) (J 123) (J 124) (SCL 2 (hrw (J 13 31).toInt) (J 113 a1.toNatClampNeg) 0 0 (J 13 33) 0 (J 13 35)) (J 13 40).toInt 3 (J 13 31).toInt 1 v ∧ 0 < v.toInt)) from by first | rfl | (intro h9; exfalso; omega) | (intro h9; exact ⟨_, hWV, by omega⟩) | exact ⟨_, hWV, by omega⟩ | exact hR0 | exact hR1 | exact hR2 | exact hR3 | exact hR4 | exact hR5 | exact hR7 | (rw [← ofv_y (by omega)]; exact hR6) | (rw [← ofv_n (by omega)]; exact hR6), show (u117 13 31).toInt = (J 13 31).toInt + 1 from by first | rfl | (intro h9; exfalso; omega) | (intro h9; exact ⟨_, hWV, by omega⟩) | exact ⟨_, hWV, by omega⟩ | exact hR0 | exact hR1 | exact hR2 | exact hR3 | exact hR4 | exact hR5 | exact hR7 | (rw [← ofv_y (by omega)]; exact hR6) | (rw [← ofv_n (by omega)]; exact hR6), show (∃ v : Int32, v.toInt = (if 0 ≤ (J 114 a1.toNatClampNeg).toInt ∧ (J 114 a1.toNatClampNeg).toInt = (J 13 31).toInt - 1 then (J 115 a1.toNatClampNeg).toInt + 1 else 1) ∧ u117 115 = up2 J 115 a1.toNatClampNeg v 115) from by first | rfl | (intro h9; exfalso; omega) | (intro h9; exact ⟨_, hWV, by omega⟩) | exact ⟨_, hWV, by omega⟩ | exact hR0 | exact hR1 | exact hR2 | exact hR3 | exact hR4 | exact hR5 | exact hR7 | (rw [← ofv_y (by omega)]; exact hR6) | (rw [← ofv_n (by omega)]; exact hR6), show u117 114 = up2 J 114 a1.toNatClampNeg (J 13 31) 114 from by first | rfl | (intro h9; exfalso; omega) | (intro h9; exact ⟨_, hWV, by omega⟩) | exact ⟨_, hWV, by omega⟩ | exact hR0 | exact hR1 | exact hR2 | exact hR3 | exact hR4 | exact hR5 | exact hR7 | (rw [← ofv_y (by omega)]; exact hR6) | (rw [← ofv_n (by omega)]; exact hR6), show u117 116 = up2 J 116 (J 13 31).toNatClampNeg a0 116 from by first | rfl | (intro h9; exfalso; omega) | (intro h9; exact ⟨_, hWV, by omega⟩) | exact ⟨_, hWV, by omega⟩ | exact hR0 | exact hR1 | exact hR2 | exact hR3 | exact hR4 | exact hR5 | exact hR7 | (rw [← ofv_y (by omega)]; exact hR6) | (rw [← ofv_n (by omega)]; exact hR6), show u117 117 = up2 J 117 (J 13 31).toNatClampNeg a1 117 from by first | rfl | (intro h9; exfalso; omega) | (intro h9; exact ⟨_, hWV, by omega⟩) | exact ⟨_, hWV, by omega⟩ | exact hR0 | exact hR1 | exact hR2 | exact hR3 | exact hR4 | exact hR5 | exact hR7 | (rw [← ofv_y (by omega)]; exact hR6) | (rw [← ofv_n (by omega)]; exact hR6), show u117 118 = up2 J 118 (J 13 31).toNatClampNeg (J 113 a1.toNatClampNeg) 118 from by first | rfl | (intro h9; exfalso; omega) | (intro h9; exact ⟨_, hWV, by omega⟩) | exact ⟨_, hWV, by omega⟩ | exact hR0 | exact hR1 | exact hR2 | exact hR3 | exact hR4 | exact hR5 | exact hR7 | (rw [← ofv_y (by omega)]; exact hR6) | (rw [← ofv_n (by omega)]; exact hR6), show u117 119 = up2 J 119 (J 13 31).toNatClampNeg (OFV a0 a2) 119 from by first | rfl | (intro h9; exfalso; omega) | (intro h9; exact ⟨_, hWV, by omega⟩) | exact ⟨_, hWV, by omega⟩ | exact hR0 | exact hR1 | exact hR2 | exact hR3 | exact hR4 | exact hR5 | exact hR7 | (rw [← ofv_y (by omega)]; exact hR6) | (rw [← ofv_n (by omega)]; exact hR6), show u117 120 = up2 J 120 (J 13 31).toNatClampNeg (J 13 33) 120 from by first | rfl | (intro h9; exfalso; omega) | (intro h9; exact ⟨_, hWV, by omega⟩) | exact ⟨_, hWV, by omega⟩ | exact hR0 | exact hR1 | exact hR2 | exact hR3 | exact hR4 | exact hR5 | exact hR7 | (rw [← ofv_y (by omega)]; exact hR6) | (rw [← ofv_n (by omega)]; exact hR6)⟩)))))⟩ dX12_say_289
                              · exact absurd c116 (by decide)
                            · have c115 : (J 13 31).toInt = 9999 := teq rfl kp9999 c115
                              refine lv_aload_n hx hb dX12_say_257 rfl (lv_at hl 1 rfl) ?_
                              refine lv_bipush (v := (-6)) hx hb dX12_say_258 (by decide) ?_
                              refine ci_ C hW (runV (x := (g.2.2.1 13)) (As := [.int (-6)]) (rest := []) (T := ((J, L, I, P, E, N), sgM g)) C hW (c_X12_refuse l g J L I P E N H.size (-6) (show -6 ≤ (-6 : Int32).toInt ∧ (-6 : Int32).toInt ≤ -1 from by (try simp only [kn6]); omega)) mi_X12_refuse tw_1239 (recv_ (T := ((J, L, I, P, E, N), sgM g)) C hW (mm_ rfl) rfl rfl) ⟨rfl, rfl, Nat.le_of_ble_eq_true rfl, Nat.le_of_ble_eq_true rfl⟩ rfl hl.1 rfl (Nat.le_of_ble_eq_true rfl) dX12_say_260 ⟨Nat.le_of_ble_eq_true rfl, Nat.le_of_ble_eq_true rfl⟩) (fun r118 u118 H locs hp118 hW => ?_)
                              have hc118 : ((r118 = (-6))) := hp118
                              clear hp118
                              have hr118 : r118.toInt = (-6) := by rw [hc118]; exact kn6
                              have hW : WB g A s.heap H locs ((hv J [100] [] u118), L, I, P, E, N) (sgM g) := hW
                              have hWr : WB g A s.heap H locs (hv J [100, 114, 115, 116, 117, 118, 119, 120, 154] [(13, 31), (13, 45), (13, 56), (13, 57), (13, 58), (13, 59), (13, 60)] (hv J [100] [] u118), L, I, P, E, N) (sgM g) := by
                                rw [← ag_hvE (J := J) (R := [100, 114, 115, 116, 117, 118, 119, 120, 154]) (F := [(13, 31), (13, 45), (13, 56), (13, 57), (13, 58), (13, 59), (13, 60)]) (ag_hv rfl rfl ag_rf)]
                                exact hW
                              have hwmr : WM (hv J [100] [] u118) := by exact hwm
                              have hwmr : WM (hv J [100, 114, 115, 116, 117, 118, 119, 120, 154] [(13, 31), (13, 45), (13, 56), (13, 57), (13, 58), (13, 59), (13, 60)] (hv J [100] [] u118)) := by
                                rw [← ag_hvE (J := J) (R := [100, 114, 115, 116, 117, 118, 119, 120, 154]) (F := [(13, 31), (13, 45), (13, 56), (13, 57), (13, 58), (13, 59), (13, 60)]) (ag_hv rfl rfl ag_rf)]; exact hwmr
                              subst hQ9
                              exact end_i C hr hlocks (hv J [100] [] u118) hWr ⟨hwmr, by first | exact Or.inr (Or.inr (Or.inr (Or.inr (Or.inl ⟨by omega, by omega, show (a0.toInt = 2 → (∃ v : Int32, WVM (J 121) (J 122) (J 123) (J 124) (SCL 2 (hrw (J 13 31).toInt) (J 113 a1.toNatClampNeg) 0 0 (J 13 33) 0 (J 13 35)) (J 13 40).toInt 3 (J 13 31).toInt 1 v ∧ 0 < v.toInt)) from by first | rfl | (intro h9; exfalso; omega) | (intro h9; exact ⟨_, hWV, by omega⟩) | exact ⟨_, hWV, by omega⟩, show J 13 31 = J 13 31 from by first | rfl | (intro h9; exfalso; omega) | (intro h9; exact ⟨_, hWV, by omega⟩) | exact ⟨_, hWV, by omega⟩, show J 114 = J 114 from by first | rfl | (intro h9; exfalso; omega) | (intro h9; exact ⟨_, hWV, by omega⟩) | exact ⟨_, hWV, by omega⟩, show J 115 = J 115 from by first | rfl | (intro h9; exfalso; omega) | (intro h9; exact ⟨_, hWV, by omega⟩) | exact ⟨_, hWV, by omega⟩, show J 116 = J 116 from by first | rfl | (intro h9; exfalso; omega) | (intro h9; exact ⟨_, hWV, by omega⟩) | exact ⟨_, hWV, by omega⟩, show J 117 = J 117 from by first | rfl | (intro h9; exfalso; omega) | (intro h9; exact ⟨_, hWV, by omega⟩) | exact ⟨_, hWV, by omega⟩, show J 118 = J 118 from by first | rfl | (intro h9; exfalso; omega) | (intro h9; exact ⟨_, hWV, by omega⟩) | exact ⟨_, hWV, by omega⟩, show J 119 = J 119 from by first | rfl | (intro h9; exfalso; omega) | (intro h9; exact ⟨_, hWV, by omega⟩) | exact ⟨_, hWV, by omega⟩, show J 120 = J 120 from by first | rfl | (intro h9; exfalso; omega) | (intro h9; exact ⟨_, hWV, by omega⟩) | exact ⟨_, hWV, by omega⟩⟩))))⟩ dX12_say_263
                          · have c114 : a0.toInt = 2 := teq rfl kp2 c114
                            exfalso; omega
                        · have c113 : a0.toInt = 1 := teq rfl kp1 c113
                          exfalso; omega
                  · have c108 : r107.toInt = 0 := teq rfl kp0 c108
                    refine lv_aload_n hx hb dX12_say_96 rfl (lv_at hl 1 rfl) ?_
                    refine lv_bipush (v := (-3)) hx hb dX12_say_97 (by decide) ?_
                    refine ci_ C hW (runV (x := (g.2.2.1 13)) (As := [.int (-3)]) (rest := []) (T := ((J, L, I, P, E, N), sgM g)) C hW (c_X12_refuse l g J L I P E N H.size (-3) (show -6 ≤ (-3 : Int32).toInt ∧ (-3 : Int32).toInt ≤ -1 from by (try simp only [kn3]); omega)) mi_X12_refuse tw_1239 (recv_ (T := ((J, L, I, P, E, N), sgM g)) C hW (mm_ rfl) rfl rfl) ⟨rfl, rfl, Nat.le_of_ble_eq_true rfl, Nat.le_of_ble_eq_true rfl⟩ rfl hl.1 rfl (Nat.le_of_ble_eq_true rfl) dX12_say_99 ⟨Nat.le_of_ble_eq_true rfl, Nat.le_of_ble_eq_true rfl⟩) (fun r119 u119 H locs hp119 hW => ?_)
                    have hc119 : ((r119 = (-3))) := hp119
                    clear hp119
                    have hr119 : r119.toInt = (-3) := by rw [hc119]; exact kn3
                    have hW : WB g A s.heap H locs ((hv J [100] [] u119), L, I, P, E, N) (sgM g) := hW
                    have hWr : WB g A s.heap H locs (hv J [100, 114, 115, 116, 117, 118, 119, 120, 154] [(13, 31), (13, 45), (13, 56), (13, 57), (13, 58), (13, 59), (13, 60)] (hv J [100] [] u119), L, I, P, E, N) (sgM g) := by
                      rw [← ag_hvE (J := J) (R := [100, 114, 115, 116, 117, 118, 119, 120, 154]) (F := [(13, 31), (13, 45), (13, 56), (13, 57), (13, 58), (13, 59), (13, 60)]) (ag_hv rfl rfl ag_rf)]
                      exact hW
                    have hwmr : WM (hv J [100] [] u119) := by exact hwm
                    have hwmr : WM (hv J [100, 114, 115, 116, 117, 118, 119, 120, 154] [(13, 31), (13, 45), (13, 56), (13, 57), (13, 58), (13, 59), (13, 60)] (hv J [100] [] u119)) := by
                      rw [← ag_hvE (J := J) (R := [100, 114, 115, 116, 117, 118, 119, 120, 154]) (F := [(13, 31), (13, 45), (13, 56), (13, 57), (13, 58), (13, 59), (13, 60)]) (ag_hv rfl rfl ag_rf)]; exact hwmr
                    subst hQ9
                    exact end_i C hr hlocks (hv J [100] [] u119) hWr ⟨hwmr, by first | exact Or.inr (Or.inr (Or.inl ⟨by omega, by omega, show J 13 31 = J 13 31 from by first | rfl | assumption, show J 114 = J 114 from by first | rfl | assumption, show J 115 = J 115 from by first | rfl | assumption, show J 116 = J 116 from by first | rfl | assumption, show J 117 = J 117 from by first | rfl | assumption, show J 118 = J 118 from by first | rfl | assumption, show J 119 = J 119 from by first | rfl | assumption, show J 120 = J 120 from by first | rfl | assumption⟩))⟩ dX12_say_102
                · have c106 : a0.toInt = 0 := teq rfl kp0 c106
                  exfalso; omega
    · have c4 : a0.toInt = 3 := teq rfl kp3 c4
      refine lv_aload_n hx hb dX12_say_14 rfl (lv_at hl 0 rfl) ?_
      refine lv_bipush (v := (-2)) hx hb dX12_say_15 (by decide) ?_
      refine ci_ C hW (runV (x := (g.2.2.1 13)) (As := [.int (-2)]) (rest := []) (T := ((J, L, I, P, E, N), sgM g)) C hW (c_X12_refuse l g J L I P E N H.size (-2) (show -6 ≤ (-2 : Int32).toInt ∧ (-2 : Int32).toInt ≤ -1 from by (try simp only [kn2]); omega)) mi_X12_refuse tw_1239 (recv_ (T := ((J, L, I, P, E, N), sgM g)) C hW (mm_ rfl) rfl rfl) ⟨rfl, rfl, Nat.le_of_ble_eq_true rfl, Nat.le_of_ble_eq_true rfl⟩ rfl hl.1 rfl (Nat.le_of_ble_eq_true rfl) dX12_say_17 ⟨Nat.le_of_ble_eq_true rfl, Nat.le_of_ble_eq_true rfl⟩) (fun r120 u120 H locs hp120 hW => ?_)
      have hc120 : ((r120 = (-2))) := hp120
      clear hp120
      have hr120 : r120.toInt = (-2) := by rw [hc120]; exact kn2
      have hW : WB g A s.heap H locs ((hv J [100] [] u120), L, I, P, E, N) (sgM g) := hW
      have hWr : WB g A s.heap H locs (hv J [100, 114, 115, 116, 117, 118, 119, 120, 154] [(13, 31), (13, 45), (13, 56), (13, 57), (13, 58), (13, 59), (13, 60)] (hv J [100] [] u120), L, I, P, E, N) (sgM g) := by
        rw [← ag_hvE (J := J) (R := [100, 114, 115, 116, 117, 118, 119, 120, 154]) (F := [(13, 31), (13, 45), (13, 56), (13, 57), (13, 58), (13, 59), (13, 60)]) (ag_hv rfl rfl ag_rf)]
        exact hW
      have hwmr : WM (hv J [100] [] u120) := by exact hwm
      have hwmr : WM (hv J [100, 114, 115, 116, 117, 118, 119, 120, 154] [(13, 31), (13, 45), (13, 56), (13, 57), (13, 58), (13, 59), (13, 60)] (hv J [100] [] u120)) := by
        rw [← ag_hvE (J := J) (R := [100, 114, 115, 116, 117, 118, 119, 120, 154]) (F := [(13, 31), (13, 45), (13, 56), (13, 57), (13, 58), (13, 59), (13, 60)]) (ag_hv rfl rfl ag_rf)]; exact hwmr
      subst hQ9
      exact end_i C hr hlocks (hv J [100] [] u120) hWr ⟨hwmr, by first | exact Or.inl ⟨by omega, by omega, show J 13 31 = J 13 31 from by first | rfl | assumption, show J 114 = J 114 from by first | rfl | assumption, show J 115 = J 115 from by first | rfl | assumption, show J 116 = J 116 from by first | rfl | assumption, show J 117 = J 117 from by first | rfl | assumption, show J 118 = J 118 from by first | rfl | assumption, show J 119 = J 119 from by first | rfl | assumption, show J 120 = J 120 from by first | rfl | assumption⟩⟩ dX12_say_20
