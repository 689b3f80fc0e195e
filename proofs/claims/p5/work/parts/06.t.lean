
theorem start_ {p : Program} {l : Launch} {e : Env} {R : Room} {s : State} {m : MethodId} {args : Array Value} {below : List Frame} {meth : Method} {c : Code} {H : Heap} {locs : List Loc} {cells slots : Nat} {Q : State → Prop} {f : JFrame} (hH : H = s.heap) (hl : locs = []) (k : W p l e R s m args below meth c H locs cells slots Q f) : W p l e R s m args below meth c s.heap [] cells slots Q f := by
  subst hH hl; exact k
theorem tdiv {x y z : Int32} {a b : Int} (e : z = x / y) (hx : x.toInt = a) (hy : y.toInt = b) (hb : 0 < b) : z.toInt = a.tdiv b := by
  subst hx hy e
  rw [Int32.toInt_div_of_ne_right]
  intro q; rw [q] at hb; exact absurd hb (by decide)
theorem b01 {x : Int32} (h : x.toInt = 0 ∨ x.toInt = 1) : x = 0 ∨ x = 1 := h.imp (fun q => ext_i q) (fun q => ext_i q)
theorem vnb {x : Int32} (h : x = 0 ∨ x = 1) : vp_nar .boolean x = x := by rcases h with rfl | rfl <;> decide

def WN (J : Nat → Nat → Int32) : Prop := 1 ≤ (J 13 32).toInt ∧ (J 13 32).toInt ≤ 20 ∧ (∀ k : Nat, 1 ≤ k → (k : Int) < (J 13 32).toInt → 0 ≤ (J 101 k).toInt ∧ (J 101 k).toInt < k) ∧ 0 ≤ (J 13 35).toInt ∧ (J 13 35).toInt ≤ 40 ∧ (∀ k : Nat, (k : Int) < (J 13 35).toInt → 0 ≤ (J 108 k).toInt ∧ (J 108 k).toInt < (J 13 32).toInt ∧ 1 ≤ (J 109 k).toInt ∧ (J 109 k).toInt ≤ 9) ∧ 0 ≤ (J 13 34).toInt ∧ (J 13 34).toInt ≤ 40 ∧ 0 ≤ (J 13 41).toInt ∧ (J 13 41).toInt ≤ 9 ∧ (∀ k : Nat, (k : Int) < (J 13 41).toInt → 0 ≤ (J 125 k).toInt ∧ (J 125 k).toInt < (J 13 32).toInt)
def WRd (J : Nat → Nat → Int32) : Prop := 0 ≤ (J 13 37).toInt ∧ (J 13 37).toInt ≤ 8
def WT (J : Nat → Nat → Int32) : Prop := 0 ≤ (J 13 31).toInt ∧ (J 13 31).toInt ≤ 9999 ∧ 0 ≤ (J 13 42).toInt ∧ (J 13 42).toInt ≤ 40 ∧ (∀ k : Nat, (k : Int) < (J 13 31).toInt → (J 116 k).toInt = 0 → (J 119 k).toInt < 40)
def WX (J : Nat → Nat → Int32) : Prop := 0 ≤ (J 13 40).toInt ∧ (J 13 40).toInt ≤ 30 ∧ (∀ k : Nat, (k : Int) < (J 13 40).toInt → 0 ≤ (J 121 k).toInt ∧ (J 121 k).toInt ≤ 60)
def WAd (J : Nat → Nat → Int32) : Prop := 0 ≤ (J 13 43).toInt ∧ (J 13 43).toInt ≤ 200 ∧ 0 ≤ (J 13 44).toInt ∧ (J 13 44).toInt ≤ 60 ∧ 0 ≤ (J 13 55).toInt ∧ (J 13 55).toInt ≤ 60
def WM (J : Nat → Nat → Int32) : Prop := WN J ∧ WRd J ∧ WT J ∧ WX J ∧ WAd J
theorem kp0 : (0 : Int32).toInt = 0 := by decide
theorem kp1 : (1 : Int32).toInt = 1 := by decide
theorem dX12_isIn_0 : decode cX12_isIn 0 = .ok (.iload_n 0, 1) := by decide +kernel
theorem dX12_isIn_1 : decode cX12_isIn 1 = .ok (.ifCond .lt 12, 3) := by decide +kernel
theorem dX12_isIn_4 : decode cX12_isIn 4 = .ok (.iload_n 0, 1) := by decide +kernel
theorem dX12_isIn_5 : decode cX12_isIn 5 = .ok (.iload_n 1, 1) := by decide +kernel
theorem dX12_isIn_6 : decode cX12_isIn 6 = .ok (.if_icmp .ge 7, 3) := by decide +kernel
theorem dX12_isIn_9 : decode cX12_isIn 9 = .ok (.iconst 1, 1) := by decide +kernel
theorem dX12_isIn_10 : decode cX12_isIn 10 = .ok (.goto 4, 3) := by decide +kernel
theorem dX12_isIn_13 : decode cX12_isIn 13 = .ok (.iconst 0, 1) := by decide +kernel
theorem dX12_isIn_14 : decode cX12_isIn 14 = .ok (.ireturn, 1) := by decide +kernel
theorem dX12_within_0 : decode cX12_within 0 = .ok (.iload_n 0, 1) := by decide +kernel
theorem dX12_within_1 : decode cX12_within 1 = .ok (.iload_n 1, 1) := by decide +kernel
theorem dX12_within_2 : decode cX12_within 2 = .ok (.if_icmp .ge 8, 3) := by decide +kernel
theorem dX12_within_5 : decode cX12_within 5 = .ok (.bipush (-4), 2) := by decide +kernel
theorem dX12_within_7 : decode cX12_within 7 = .ok (.goto 14, 3) := by decide +kernel
theorem dX12_within_10 : decode cX12_within 10 = .ok (.iload_n 0, 1) := by decide +kernel
theorem dX12_within_11 : decode cX12_within 11 = .ok (.iload_n 2, 1) := by decide +kernel
theorem dX12_within_12 : decode cX12_within 12 = .ok (.if_icmp .le 8, 3) := by decide +kernel
theorem dX12_within_15 : decode cX12_within 15 = .ok (.bipush (-6), 2) := by decide +kernel
theorem dX12_within_17 : decode cX12_within 17 = .ok (.goto 4, 3) := by decide +kernel
theorem dX12_within_20 : decode cX12_within 20 = .ok (.iconst 0, 1) := by decide +kernel
theorem dX12_within_21 : decode cX12_within 21 = .ok (.ireturn, 1) := by decide +kernel
theorem dX12_refuse_0 : decode cX12_refuse 0 = .ok (.aload_n 0, 1) := by decide +kernel
theorem dX12_refuse_1 : decode cX12_refuse 1 = .ok (.getfield 7, 3) := by decide +kernel
theorem dX12_refuse_4 : decode cX12_refuse 4 = .ok (.iload_n 1, 1) := by decide +kernel
theorem dX12_refuse_5 : decode cX12_refuse 5 = .ok (.ineg, 1) := by decide +kernel
theorem dX12_refuse_6 : decode cX12_refuse 6 = .ok (.dup2, 1) := by decide +kernel
theorem dX12_refuse_7 : decode cX12_refuse 7 = .ok (.iaload, 1) := by decide +kernel
theorem dX12_refuse_8 : decode cX12_refuse 8 = .ok (.iconst 1, 1) := by decide +kernel
theorem dX12_refuse_9 : decode cX12_refuse 9 = .ok (.iadd, 1) := by decide +kernel
theorem dX12_refuse_10 : decode cX12_refuse 10 = .ok (.iastore, 1) := by decide +kernel
theorem dX12_refuse_11 : decode cX12_refuse 11 = .ok (.iload_n 1, 1) := by decide +kernel
theorem dX12_refuse_12 : decode cX12_refuse 12 = .ok (.ireturn, 1) := by decide +kernel
theorem dX12_isNode_0 : decode cX12_isNode 0 = .ok (.iload_n 1, 1) := by decide +kernel
theorem dX12_isNode_1 : decode cX12_isNode 1 = .ok (.aload_n 0, 1) := by decide +kernel
theorem dX12_isNode_2 : decode cX12_isNode 2 = .ok (.getfield 104, 3) := by decide +kernel
theorem dX12_isNode_5 : decode cX12_isNode 5 = .ok (.invokestatic 162, 3) := by decide +kernel
theorem dX12_isNode_8 : decode cX12_isNode 8 = .ok (.ireturn, 1) := by decide +kernel
theorem dX12_isHome_0 : decode cX12_isHome 0 = .ok (.iload_n 1, 1) := by decide +kernel
theorem dX12_isHome_1 : decode cX12_isHome 1 = .ok (.aload_n 0, 1) := by decide +kernel
theorem dX12_isHome_2 : decode cX12_isHome 2 = .ok (.getfield 166, 3) := by decide +kernel
theorem dX12_isHome_5 : decode cX12_isHome 5 = .ok (.invokestatic 162, 3) := by decide +kernel
theorem dX12_isHome_8 : decode cX12_isHome 8 = .ok (.ireturn, 1) := by decide +kernel
theorem dX12_isPast_0 : decode cX12_isPast 0 = .ok (.iload_n 1, 1) := by decide +kernel
theorem dX12_isPast_1 : decode cX12_isPast 1 = .ok (.aload_n 0, 1) := by decide +kernel
theorem dX12_isPast_2 : decode cX12_isPast 2 = .ok (.getfield 169, 3) := by decide +kernel
theorem dX12_isPast_5 : decode cX12_isPast 5 = .ok (.invokestatic 162, 3) := by decide +kernel
theorem dX12_isPast_8 : decode cX12_isPast 8 = .ok (.ireturn, 1) := by decide +kernel
theorem dX12_weather_0 : decode cX12_weather 0 = .ok (.iload_n 1, 1) := by decide +kernel
theorem dX12_weather_1 : decode cX12_weather 1 = .ok (.iconst 0, 1) := by decide +kernel
theorem dX12_weather_2 : decode cX12_weather 2 = .ok (.bipush 20, 2) := by decide +kernel
theorem dX12_weather_4 : decode cX12_weather 4 = .ok (.invokestatic 187, 3) := by decide +kernel
theorem dX12_weather_7 : decode cX12_weather 7 = .ok (.istore_n 2, 1) := by decide +kernel
theorem dX12_weather_8 : decode cX12_weather 8 = .ok (.iload_n 2, 1) := by decide +kernel
theorem dX12_weather_9 : decode cX12_weather 9 = .ok (.ifCond .eq 9, 3) := by decide +kernel
theorem dX12_weather_12 : decode cX12_weather 12 = .ok (.aload_n 0, 1) := by decide +kernel
theorem dX12_weather_13 : decode cX12_weather 13 = .ok (.iload_n 2, 1) := by decide +kernel
theorem dX12_weather_14 : decode cX12_weather 14 = .ok (.invokevirtual 175, 3) := by decide +kernel
theorem dX12_weather_17 : decode cX12_weather 17 = .ok (.ireturn, 1) := by decide +kernel
theorem dX12_weather_18 : decode cX12_weather 18 = .ok (.aload_n 0, 1) := by decide +kernel
theorem dX12_weather_19 : decode cX12_weather 19 = .ok (.getfield 172, 3) := by decide +kernel
theorem dX12_weather_22 : decode cX12_weather 22 = .ok (.istore_n 3, 1) := by decide +kernel
theorem dX12_weather_23 : decode cX12_weather 23 = .ok (.aload_n 0, 1) := by decide +kernel
theorem dX12_weather_24 : decode cX12_weather 24 = .ok (.iload_n 1, 1) := by decide +kernel
theorem dX12_weather_25 : decode cX12_weather 25 = .ok (.putfield 172, 3) := by decide +kernel
theorem dX12_weather_28 : decode cX12_weather 28 = .ok (.iload_n 3, 1) := by decide +kernel
theorem dX12_weather_29 : decode cX12_weather 29 = .ok (.ireturn, 1) := by decide +kernel
set_option maxHeartbeats 4000000 in
set_option maxRecDepth 100000 in
theorem c_X12_isIn (l : Launch) (g : gG) (J : Nat → Nat → Int32) (L : Nat → Nat → Int64) (I : Nat → Nat → Nat → Int32) (P : Nat → Nat → Nat → Option Nat) (E : Nat → Option Nat) (N : Nat → Nat) (sz : Nat) (a0 : Int32) (a1 : Int32)  : Met l yX12_isIn (WS yX12_isIn cX12_isIn 2 (some .boolean)) (RM 1 0 0) (PC g [.int a0, .int a1] ((J, L, I, P, E, N), sgM g) sz) (va_Qi (fun (r : Int32) (u : Unit) => ((r.toInt = 1 ∧ 0 ≤ a0.toInt ∧ a0.toInt < a1.toInt) ∨ (r.toInt = 0 ∧ ¬ (0 ≤ a0.toInt ∧ a0.toInt < a1.toInt)))) (fun u t => at_ g (FR g ((J, L, I, P, E, N), sgM g) sz) ((J, L, I, P, E, N), sgM g) t) (FR g ((J, L, I, P, E, N), sgM g) sz)) 0 0 (FR g ((J, L, I, P, E, N), sgM g) sz) := by
  refine ent (by decide +kernel) (Nat.le_of_ble_eq_true rfl) ?_
  intro p e s m below meth c ls hsz C hW hr hlocks hname hl
  generalize FR g ((J, L, I, P, E, N), sgM g) sz = A at C hW ⊢
  have hx := C.1.1
  have hb := C.1.2.1
  have hts := C.1.2.2.2.2
  have hW : WB g A s.heap s.heap [] (J, L, I, P, E, N) (sgM g) := hW
  have hl : lv_has ls 2 [(0, .int a0), (1, .int a1)] := hl
  obtain ⟨H, hH⟩ : ∃ H : Heap, H = s.heap := ⟨_, rfl⟩
  obtain ⟨locs, hlocs⟩ : ∃ q : List Loc, q = [] := ⟨_, rfl⟩
  have hW : WB g A s.heap H locs (J, L, I, P, E, N) (sgM g) := by rw [hH, hlocs]; exact hW
  refine start_ hH hlocs ?_
  refine lv_iload_n hx hb dX12_isIn_0 rfl (lv_at hl 0 rfl) ?_
  refine lv_if_lt (tgt := 13) hx hb dX12_isIn_1 (by decide) (fun c1 => ?_) (fun c1 => ?_)
  · have c1 : a0.toInt < 0 := tlt rfl kp0 c1
    refine lv_iconst (v := 0) hx hb dX12_isIn_13 (by decide) ?_
    exact end_z C hr hlocks (by decide) () hW (by first | exact Or.inr (⟨by decide, by omega⟩)) dX12_isIn_14
  · have c1 : 0 ≤ a0.toInt := tnlt rfl kp0 c1
    refine lv_iload_n hx hb dX12_isIn_4 rfl (lv_at hl 0 rfl) ?_
    refine lv_iload_n hx hb dX12_isIn_5 rfl (lv_at hl 1 rfl) ?_
    refine lv_icmp_ge (tgt := 13) hx hb dX12_isIn_6 (by decide) (fun c2 => ?_) (fun c2 => ?_)
    · have c2 : a1.toInt ≤ a0.toInt := tle rfl rfl c2
      refine lv_iconst (v := 0) hx hb dX12_isIn_13 (by decide) ?_
      exact end_z C hr hlocks (by decide) () hW (by first | exact Or.inr (⟨by decide, by omega⟩)) dX12_isIn_14
    · have c2 : a0.toInt < a1.toInt := tnle rfl rfl c2
      refine lv_iconst (v := 1) hx hb dX12_isIn_9 (by decide) ?_
      refine lv_goto (tgt := 14) hx hb dX12_isIn_10 (by decide) ?_
      exact end_z C hr hlocks (by decide) () hW (by first | exact Or.inl ⟨by decide, by omega⟩) dX12_isIn_14

set_option maxHeartbeats 4000000 in
set_option maxRecDepth 100000 in
theorem c_X12_within (l : Launch) (g : gG) (J : Nat → Nat → Int32) (L : Nat → Nat → Int64) (I : Nat → Nat → Nat → Int32) (P : Nat → Nat → Nat → Option Nat) (E : Nat → Option Nat) (N : Nat → Nat) (sz : Nat) (a0 : Int32) (a1 : Int32) (a2 : Int32)  : Met l yX12_within (WS yX12_within cX12_within 3 (some .int)) (RM 1 0 0) (PC g [.int a0, .int a1, .int a2] ((J, L, I, P, E, N), sgM g) sz) (va_Qi (fun (r : Int32) (u : Unit) => ((r.toInt = (-4) ∧ a0.toInt < a1.toInt) ∨ (r.toInt = (-6) ∧ a1.toInt ≤ a0.toInt ∧ a2.toInt < a0.toInt) ∨ (r.toInt = 0 ∧ a1.toInt ≤ a0.toInt ∧ a0.toInt ≤ a2.toInt))) (fun u t => at_ g (FR g ((J, L, I, P, E, N), sgM g) sz) ((J, L, I, P, E, N), sgM g) t) (FR g ((J, L, I, P, E, N), sgM g) sz)) 0 0 (FR g ((J, L, I, P, E, N), sgM g) sz) := by
  refine ent (by decide +kernel) (Nat.le_of_ble_eq_true rfl) ?_
  intro p e s m below meth c ls hsz C hW hr hlocks hname hl
  generalize FR g ((J, L, I, P, E, N), sgM g) sz = A at C hW ⊢
  have hx := C.1.1
  have hb := C.1.2.1
  have hts := C.1.2.2.2.2
  have hW : WB g A s.heap s.heap [] (J, L, I, P, E, N) (sgM g) := hW
  have hl : lv_has ls 3 [(0, .int a0), (1, .int a1), (2, .int a2)] := hl
  obtain ⟨H, hH⟩ : ∃ H : Heap, H = s.heap := ⟨_, rfl⟩
  obtain ⟨locs, hlocs⟩ : ∃ q : List Loc, q = [] := ⟨_, rfl⟩
  have hW : WB g A s.heap H locs (J, L, I, P, E, N) (sgM g) := by rw [hH, hlocs]; exact hW
  refine start_ hH hlocs ?_
  refine lv_iload_n hx hb dX12_within_0 rfl (lv_at hl 0 rfl) ?_
  refine lv_iload_n hx hb dX12_within_1 rfl (lv_at hl 1 rfl) ?_
  refine lv_icmp_ge (tgt := 10) hx hb dX12_within_2 (by decide) (fun c1 => ?_) (fun c1 => ?_)
  · have c1 : a1.toInt ≤ a0.toInt := tle rfl rfl c1
    refine lv_iload_n hx hb dX12_within_10 rfl (lv_at hl 0 rfl) ?_
    refine lv_iload_n hx hb dX12_within_11 rfl (lv_at hl 2 rfl) ?_
    refine lv_icmp_le (tgt := 20) hx hb dX12_within_12 (by decide) (fun c2 => ?_) (fun c2 => ?_)
    · have c2 : a0.toInt ≤ a2.toInt := tle rfl rfl c2
      refine lv_iconst (v := 0) hx hb dX12_within_20 (by decide) ?_
      exact end_i C hr hlocks () hW (by first | exact Or.inr (Or.inr (⟨by decide, by omega⟩))) dX12_within_21
    · have c2 : a2.toInt < a0.toInt := tnle rfl rfl c2
      refine lv_bipush (v := (-6)) hx hb dX12_within_15 (by decide) ?_
      refine lv_goto (tgt := 21) hx hb dX12_within_17 (by decide) ?_
      exact end_i C hr hlocks () hW (by first | exact Or.inr (Or.inl ⟨by decide, by omega⟩)) dX12_within_21
  · have c1 : a0.toInt < a1.toInt := tnle rfl rfl c1
    refine lv_bipush (v := (-4)) hx hb dX12_within_5 (by decide) ?_
    refine lv_goto (tgt := 21) hx hb dX12_within_7 (by decide) ?_
    exact end_i C hr hlocks () hW (by first | exact Or.inl ⟨by decide, by omega⟩) dX12_within_21

set_option maxHeartbeats 4000000 in
set_option maxRecDepth 100000 in
theorem c_X12_refuse (l : Launch) (g : gG) (J : Nat → Nat → Int32) (L : Nat → Nat → Int64) (I : Nat → Nat → Nat → Int32) (P : Nat → Nat → Nat → Option Nat) (E : Nat → Option Nat) (N : Nat → Nat) (sz : Nat) (a0 : Int32) (hcode : -6 ≤ a0.toInt ∧ a0.toInt ≤ -1) : Met l yX12_refuse (WS yX12_refuse cX12_refuse 2 (some .int)) (RM 1 0 0) (PC g [.ref (g.2.2.1 13), .int a0] ((J, L, I, P, E, N), sgM g) sz) (va_Qi (fun (r : Int32) (u : (Nat → Nat → Int32)) => ((r = a0))) (fun u t => at_ g (FR g ((J, L, I, P, E, N), sgM g) sz) ((hv J [100] [] u, L, I, P, E, N), sgM g) t) (FR g ((J, L, I, P, E, N), sgM g) sz)) 0 0 (FR g ((J, L, I, P, E, N), sgM g) sz) := by
  refine ent (by decide +kernel) (Nat.le_of_ble_eq_true rfl) ?_
  intro p e s m below meth c ls hsz C hW hr hlocks hname hl
  generalize FR g ((J, L, I, P, E, N), sgM g) sz = A at C hW ⊢
  have hx := C.1.1
  have hb := C.1.2.1
  have hts := C.1.2.2.2.2
  have hW : WB g A s.heap s.heap [] (J, L, I, P, E, N) (sgM g) := hW
  have hl : lv_has ls 2 [(0, .ref (g.2.2.1 13)), (1, .int a0)] := hl
  obtain ⟨H, hH⟩ : ∃ H : Heap, H = s.heap := ⟨_, rfl⟩
  obtain ⟨locs, hlocs⟩ : ∃ q : List Loc, q = [] := ⟨_, rfl⟩
  have hW : WB g A s.heap H locs (J, L, I, P, E, N) (sgM g) := by rw [hH, hlocs]; exact hW
  have hcode := hcode
  refine start_ hH hlocs ?_
  refine lv_aload_n hx hb dX12_refuse_0 rfl (lv_at hl 0 rfl) ?_
  refine rg_13_0 C hW (mm_ rfl) tw_1023 dX12_refuse_1 ?_
  refine lv_iload_n hx hb dX12_refuse_4 rfl (lv_at hl 1 rfl) ?_
  refine lv_ineg hx hb dX12_refuse_5 ?_
  refine lv_topi (fun x1 (e1 : x1 = -a0) => ?_)
  try have t1 : x1.toInt = -a0.toInt := tneg e1 rfl (by omega)
  refine lv_dup2_11 hx hb dX12_refuse_6 rfl rfl ?_
  have hin : vp_in x1 7 := tin rfl (by omega)
  refine ra_100 C hW (mm_ rfl) hin dX12_refuse_7 ?_
  refine lv_topi (fun x2 (e2 : x2 = J 100 x1.toNatClampNeg) => ?_)
  refine lv_iconst (v := 1) hx hb dX12_refuse_8 (by decide) ?_
  refine lv_iadd hx hb dX12_refuse_9 ?_
  refine lv_topi (fun x3 (e3 : x3 = x2 + 1) => ?_)
  try have t3 : x3.toInt = x2.toInt + 1 := tadd e3 rfl kp1 (by omega)
  have hin : vp_in x1 7 := tin rfl (by omega)
  refine rs_100 C hW (mm_ rfl) hin dX12_refuse_10 (fun H locs hW => ?_)
  refine lv_iload_n hx hb dX12_refuse_11 rfl (lv_at hl 1 rfl) ?_
  have hWr : WB g A s.heap H locs (hv J [100] [] (up2 J 100 x1.toNatClampNeg x3), L, I, P, E, N) (sgM g) := by
    rw [← ag_hvE (J := J) (R := [100]) (F := []) (ag_up (Or.inl rfl) ag_rf)]
    exact hW
  exact end_i C hr hlocks (up2 J 100 x1.toNatClampNeg x3) hWr (by first | exact (by first | rfl | assumption)) dX12_refuse_12

set_option maxHeartbeats 4000000 in
set_option maxRecDepth 100000 in
theorem c_X12_isNode (l : Launch) (g : gG) (J : Nat → Nat → Int32) (L : Nat → Nat → Int64) (I : Nat → Nat → Nat → Int32) (P : Nat → Nat → Nat → Option Nat) (E : Nat → Option Nat) (N : Nat → Nat) (sz : Nat) (a0 : Int32) (hwm : WM J) : Met l yX12_isNode (WS yX12_isNode cX12_isNode 2 (some .boolean)) (RM 2 0 0) (PC g [.ref (g.2.2.1 13), .int a0] ((J, L, I, P, E, N), sgM g) sz) (va_Qi (fun (r : Int32) (u : Unit) => ((r.toInt = 1 ∧ 0 ≤ a0.toInt ∧ a0.toInt < (J 13 32).toInt) ∨ (r.toInt = 0 ∧ ¬ (0 ≤ a0.toInt ∧ a0.toInt < (J 13 32).toInt)))) (fun u t => at_ g (FR g ((J, L, I, P, E, N), sgM g) sz) ((J, L, I, P, E, N), sgM g) t) (FR g ((J, L, I, P, E, N), sgM g) sz)) 0 0 (FR g ((J, L, I, P, E, N), sgM g) sz) := by
  refine ent (by decide +kernel) (Nat.le_of_ble_eq_true rfl) ?_
  intro p e s m below meth c ls hsz C hW hr hlocks hname hl
  generalize FR g ((J, L, I, P, E, N), sgM g) sz = A at C hW ⊢
  have hx := C.1.1
  have hb := C.1.2.1
  have hts := C.1.2.2.2.2
  have hW : WB g A s.heap s.heap [] (J, L, I, P, E, N) (sgM g) := hW
  have hl : lv_has ls 2 [(0, .ref (g.2.2.1 13)), (1, .int a0)] := hl
  obtain ⟨H, hH⟩ : ∃ H : Heap, H = s.heap := ⟨_, rfl⟩
  obtain ⟨locs, hlocs⟩ : ∃ q : List Loc, q = [] := ⟨_, rfl⟩
  have hW : WB g A s.heap H locs (J, L, I, P, E, N) (sgM g) := by rw [hH, hlocs]; exact hW
  obtain ⟨⟨hnd1, hnd2, hon, hhm1, hhm2, hhN, hcu1, hcu2, hco1, hco2, hcN⟩, ⟨hrd1, hrd2⟩, ⟨hnw1, hnw2, hns1, hns2, hof⟩, ⟨htm1, htm2, hts_⟩, ⟨had1, had2, hrw1, hrw2, htp1, htp2⟩⟩ := id hwm
  refine start_ hH hlocs ?_
  refine lv_iload_n hx hb dX12_isNode_0 rfl (lv_at hl 1 rfl) ?_
  refine lv_aload_n hx hb dX12_isNode_1 rfl (lv_at hl 0 rfl) ?_
  refine rg_13_32 C hW (mm_ rfl) tw_1055 dX12_isNode_2 ?_
  refine ci_ C hW (runS (As := [.int a0, .int (J 13 32)]) (rest := []) (T := ((J, L, I, P, E, N), sgM g)) C hW (c_X12_isIn l g J L I P E N H.size a0 (J 13 32) ) mi_X12_isIn tw_1255 ⟨rfl, rfl, Nat.le_of_ble_eq_true rfl, Nat.le_of_ble_eq_true rfl⟩ rfl hl.1 rfl (Nat.le_of_ble_eq_true rfl) dX12_isNode_5 ⟨Nat.le_of_ble_eq_true rfl, Nat.le_of_ble_eq_true rfl⟩) (fun r1 u1 H locs hp1 hW => ?_)
  have hc1 : ((r1.toInt = 1 ∧ 0 ≤ a0.toInt ∧ a0.toInt < (J 13 32).toInt) ∨ (r1.toInt = 0 ∧ ¬ (0 ≤ a0.toInt ∧ a0.toInt < (J 13 32).toInt))) := hp1
  have hW : WB g A s.heap H locs (J, L, I, P, E, N) (sgM g) := hW
  exact end_z C hr hlocks (b01 (by omega)) () hW (by first | omega | exact Or.inl ⟨by omega, by omega⟩ | exact Or.inr (⟨by omega, by omega⟩) | (rcases hc1 with qhc1 | qhc1 <;> first | omega | exact Or.inl ⟨by omega, by omega⟩ | exact Or.inr (⟨by omega, by omega⟩) | (exfalso; omega))) dX12_isNode_8

set_option maxHeartbeats 4000000 in
set_option maxRecDepth 100000 in
theorem c_X12_isHome (l : Launch) (g : gG) (J : Nat → Nat → Int32) (L : Nat → Nat → Int64) (I : Nat → Nat → Nat → Int32) (P : Nat → Nat → Nat → Option Nat) (E : Nat → Option Nat) (N : Nat → Nat) (sz : Nat) (a0 : Int32) (hwm : WM J) : Met l yX12_isHome (WS yX12_isHome cX12_isHome 2 (some .boolean)) (RM 2 0 0) (PC g [.ref (g.2.2.1 13), .int a0] ((J, L, I, P, E, N), sgM g) sz) (va_Qi (fun (r : Int32) (u : Unit) => ((r.toInt = 1 ∧ 0 ≤ a0.toInt ∧ a0.toInt < (J 13 35).toInt) ∨ (r.toInt = 0 ∧ ¬ (0 ≤ a0.toInt ∧ a0.toInt < (J 13 35).toInt)))) (fun u t => at_ g (FR g ((J, L, I, P, E, N), sgM g) sz) ((J, L, I, P, E, N), sgM g) t) (FR g ((J, L, I, P, E, N), sgM g) sz)) 0 0 (FR g ((J, L, I, P, E, N), sgM g) sz) := by
  refine ent (by decide +kernel) (Nat.le_of_ble_eq_true rfl) ?_
  intro p e s m below meth c ls hsz C hW hr hlocks hname hl
  generalize FR g ((J, L, I, P, E, N), sgM g) sz = A at C hW ⊢
  have hx := C.1.1
  have hb := C.1.2.1
  have hts := C.1.2.2.2.2
  have hW : WB g A s.heap s.heap [] (J, L, I, P, E, N) (sgM g) := hW
  have hl : lv_has ls 2 [(0, .ref (g.2.2.1 13)), (1, .int a0)] := hl
  obtain ⟨H, hH⟩ : ∃ H : Heap, H = s.heap := ⟨_, rfl⟩
  obtain ⟨locs, hlocs⟩ : ∃ q : List Loc, q = [] := ⟨_, rfl⟩
  have hW : WB g A s.heap H locs (J, L, I, P, E, N) (sgM g) := by rw [hH, hlocs]; exact hW
  obtain ⟨⟨hnd1, hnd2, hon, hhm1, hhm2, hhN, hcu1, hcu2, hco1, hco2, hcN⟩, ⟨hrd1, hrd2⟩, ⟨hnw1, hnw2, hns1, hns2, hof⟩, ⟨htm1, htm2, hts_⟩, ⟨had1, had2, hrw1, hrw2, htp1, htp2⟩⟩ := id hwm
  refine start_ hH hlocs ?_
  refine lv_iload_n hx hb dX12_isHome_0 rfl (lv_at hl 1 rfl) ?_
  refine lv_aload_n hx hb dX12_isHome_1 rfl (lv_at hl 0 rfl) ?_
  refine rg_13_35 C hW (mm_ rfl) tw_1058 dX12_isHome_2 ?_
  refine ci_ C hW (runS (As := [.int a0, .int (J 13 35)]) (rest := []) (T := ((J, L, I, P, E, N), sgM g)) C hW (c_X12_isIn l g J L I P E N H.size a0 (J 13 35) ) mi_X12_isIn tw_1255 ⟨rfl, rfl, Nat.le_of_ble_eq_true rfl, Nat.le_of_ble_eq_true rfl⟩ rfl hl.1 rfl (Nat.le_of_ble_eq_true rfl) dX12_isHome_5 ⟨Nat.le_of_ble_eq_true rfl, Nat.le_of_ble_eq_true rfl⟩) (fun r1 u1 H locs hp1 hW => ?_)
  have hc1 : ((r1.toInt = 1 ∧ 0 ≤ a0.toInt ∧ a0.toInt < (J 13 35).toInt) ∨ (r1.toInt = 0 ∧ ¬ (0 ≤ a0.toInt ∧ a0.toInt < (J 13 35).toInt))) := hp1
  have hW : WB g A s.heap H locs (J, L, I, P, E, N) (sgM g) := hW
  exact end_z C hr hlocks (b01 (by omega)) () hW (by first | omega | exact Or.inl ⟨by omega, by omega⟩ | exact Or.inr (⟨by omega, by omega⟩) | (rcases hc1 with qhc1 | qhc1 <;> first | omega | exact Or.inl ⟨by omega, by omega⟩ | exact Or.inr (⟨by omega, by omega⟩) | (exfalso; omega))) dX12_isHome_8

set_option maxHeartbeats 4000000 in
set_option maxRecDepth 100000 in
theorem c_X12_isPast (l : Launch) (g : gG) (J : Nat → Nat → Int32) (L : Nat → Nat → Int64) (I : Nat → Nat → Nat → Int32) (P : Nat → Nat → Nat → Option Nat) (E : Nat → Option Nat) (N : Nat → Nat) (sz : Nat) (a0 : Int32) (hwm : WM J) : Met l yX12_isPast (WS yX12_isPast cX12_isPast 2 (some .boolean)) (RM 2 0 0) (PC g [.ref (g.2.2.1 13), .int a0] ((J, L, I, P, E, N), sgM g) sz) (va_Qi (fun (r : Int32) (u : Unit) => ((r.toInt = 1 ∧ 0 ≤ a0.toInt ∧ a0.toInt < (J 13 31).toInt) ∨ (r.toInt = 0 ∧ ¬ (0 ≤ a0.toInt ∧ a0.toInt < (J 13 31).toInt)))) (fun u t => at_ g (FR g ((J, L, I, P, E, N), sgM g) sz) ((J, L, I, P, E, N), sgM g) t) (FR g ((J, L, I, P, E, N), sgM g) sz)) 0 0 (FR g ((J, L, I, P, E, N), sgM g) sz) := by
  refine ent (by decide +kernel) (Nat.le_of_ble_eq_true rfl) ?_
  intro p e s m below meth c ls hsz C hW hr hlocks hname hl
  generalize FR g ((J, L, I, P, E, N), sgM g) sz = A at C hW ⊢
  have hx := C.1.1
  have hb := C.1.2.1
  have hts := C.1.2.2.2.2
  have hW : WB g A s.heap s.heap [] (J, L, I, P, E, N) (sgM g) := hW
  have hl : lv_has ls 2 [(0, .ref (g.2.2.1 13)), (1, .int a0)] := hl
  obtain ⟨H, hH⟩ : ∃ H : Heap, H = s.heap := ⟨_, rfl⟩
  obtain ⟨locs, hlocs⟩ : ∃ q : List Loc, q = [] := ⟨_, rfl⟩
  have hW : WB g A s.heap H locs (J, L, I, P, E, N) (sgM g) := by rw [hH, hlocs]; exact hW
  obtain ⟨⟨hnd1, hnd2, hon, hhm1, hhm2, hhN, hcu1, hcu2, hco1, hco2, hcN⟩, ⟨hrd1, hrd2⟩, ⟨hnw1, hnw2, hns1, hns2, hof⟩, ⟨htm1, htm2, hts_⟩, ⟨had1, had2, hrw1, hrw2, htp1, htp2⟩⟩ := id hwm
  refine start_ hH hlocs ?_
  refine lv_iload_n hx hb dX12_isPast_0 rfl (lv_at hl 1 rfl) ?_
  refine lv_aload_n hx hb dX12_isPast_1 rfl (lv_at hl 0 rfl) ?_
  refine rg_13_31 C hW (mm_ rfl) tw_1054 dX12_isPast_2 ?_
  refine ci_ C hW (runS (As := [.int a0, .int (J 13 31)]) (rest := []) (T := ((J, L, I, P, E, N), sgM g)) C hW (c_X12_isIn l g J L I P E N H.size a0 (J 13 31) ) mi_X12_isIn tw_1255 ⟨rfl, rfl, Nat.le_of_ble_eq_true rfl, Nat.le_of_ble_eq_true rfl⟩ rfl hl.1 rfl (Nat.le_of_ble_eq_true rfl) dX12_isPast_5 ⟨Nat.le_of_ble_eq_true rfl, Nat.le_of_ble_eq_true rfl⟩) (fun r1 u1 H locs hp1 hW => ?_)
  have hc1 : ((r1.toInt = 1 ∧ 0 ≤ a0.toInt ∧ a0.toInt < (J 13 31).toInt) ∨ (r1.toInt = 0 ∧ ¬ (0 ≤ a0.toInt ∧ a0.toInt < (J 13 31).toInt))) := hp1
  have hW : WB g A s.heap H locs (J, L, I, P, E, N) (sgM g) := hW
  exact end_z C hr hlocks (b01 (by omega)) () hW (by first | omega | exact Or.inl ⟨by omega, by omega⟩ | exact Or.inr (⟨by omega, by omega⟩) | (rcases hc1 with qhc1 | qhc1 <;> first | omega | exact Or.inl ⟨by omega, by omega⟩ | exact Or.inr (⟨by omega, by omega⟩) | (exfalso; omega))) dX12_isPast_8

set_option maxHeartbeats 4000000 in
set_option maxRecDepth 100000 in
theorem c_X12_weather (l : Launch) (g : gG) (J : Nat → Nat → Int32) (L : Nat → Nat → Int64) (I : Nat → Nat → Nat → Int32) (P : Nat → Nat → Nat → Option Nat) (E : Nat → Option Nat) (N : Nat → Nat) (sz : Nat) (a0 : Int32) (hwm : WM J) : Met l yX12_weather (WS yX12_weather cX12_weather 4 (some .int)) (RM 3 0 0) (PC g [.ref (g.2.2.1 13), .int a0] ((J, L, I, P, E, N), sgM g) sz) (va_Qi (fun (r : Int32) (u : (Nat → Nat → Int32)) => ((r.toInt = (-4) ∧ a0.toInt < 0 ∧ u 13 33 = J 13 33) ∨ (r.toInt = (-6) ∧ 20 < a0.toInt ∧ u 13 33 = J 13 33) ∨ (r = J 13 33 ∧ 0 ≤ a0.toInt ∧ a0.toInt ≤ 20 ∧ u 13 33 = a0))) (fun u t => at_ g (FR g ((J, L, I, P, E, N), sgM g) sz) ((hv J [100] [(13, 33)] u, L, I, P, E, N), sgM g) t) (FR g ((J, L, I, P, E, N), sgM g) sz)) 0 0 (FR g ((J, L, I, P, E, N), sgM g) sz) := by
  refine ent (by decide +kernel) (Nat.le_of_ble_eq_true rfl) ?_
  intro p e s m below meth c ls hsz C hW hr hlocks hname hl
  generalize FR g ((J, L, I, P, E, N), sgM g) sz = A at C hW ⊢
  have hx := C.1.1
  have hb := C.1.2.1
  have hts := C.1.2.2.2.2
  have hW : WB g A s.heap s.heap [] (J, L, I, P, E, N) (sgM g) := hW
  have hl : lv_has ls 4 [(0, .ref (g.2.2.1 13)), (1, .int a0)] := hl
  obtain ⟨H, hH⟩ : ∃ H : Heap, H = s.heap := ⟨_, rfl⟩
  obtain ⟨locs, hlocs⟩ : ∃ q : List Loc, q = [] := ⟨_, rfl⟩
  have hW : WB g A s.heap H locs (J, L, I, P, E, N) (sgM g) := by rw [hH, hlocs]; exact hW
  obtain ⟨⟨hnd1, hnd2, hon, hhm1, hhm2, hhN, hcu1, hcu2, hco1, hco2, hcN⟩, ⟨hrd1, hrd2⟩, ⟨hnw1, hnw2, hns1, hns2, hof⟩, ⟨htm1, htm2, hts_⟩, ⟨had1, had2, hrw1, hrw2, htp1, htp2⟩⟩ := id hwm
  refine start_ hH hlocs ?_
  refine lv_iload_n hx hb dX12_weather_0 rfl (lv_at hl 1 rfl) ?_
  refine lv_iconst (v := 0) hx hb dX12_weather_1 (by decide) ?_
  refine lv_bipush (v := 20) hx hb dX12_weather_2 (by decide) ?_
  refine ci_ C hW (runS (As := [.int a0, .int 0, .int 20]) (rest := []) (T := ((J, L, I, P, E, N), sgM g)) C hW (c_X12_within l g J L I P E N H.size a0 0 20 ) mi_X12_within tw_1258 ⟨rfl, rfl, Nat.le_of_ble_eq_true rfl, Nat.le_of_ble_eq_true rfl⟩ rfl hl.1 rfl (Nat.le_of_ble_eq_true rfl) dX12_weather_4 ⟨Nat.le_of_ble_eq_true rfl, Nat.le_of_ble_eq_true rfl⟩) (fun r1 u1 H locs hp1 hW => ?_)
  have hc1 : ((r1.toInt = (-4) ∧ a0.toInt < 0) ∨ (r1.toInt = (-6) ∧ 0 ≤ a0.toInt ∧ 20 < a0.toInt) ∨ (r1.toInt = 0 ∧ 0 ≤ a0.toInt ∧ a0.toInt ≤ 20)) := hp1
  have hW : WB g A s.heap H locs (J, L, I, P, E, N) (sgM g) := hW
  refine lv_istore_n (lv' := [(2, .int r1), (0, .ref (g.2.2.1 13)), (1, .int a0)]) hx hb dX12_weather_7 rfl hl (by decide) rfl (fun ls hl => ?_)
  refine lv_iload_n hx hb dX12_weather_8 rfl (lv_at hl 0 rfl) ?_
  refine lv_if_eq (tgt := 18) hx hb dX12_weather_9 (by decide) (fun c2 => ?_) (fun c2 => ?_)
  · have c2 : r1.toInt = 0 := teq rfl kp0 c2
    refine lv_aload_n hx hb dX12_weather_18 rfl (lv_at hl 1 rfl) ?_
    refine rg_13_33 C hW (mm_ rfl) tw_1056 dX12_weather_19 ?_
    refine lv_istore_n (lv' := [(3, .int (J 13 33)), (2, .int r1), (0, .ref (g.2.2.1 13)), (1, .int a0)]) hx hb dX12_weather_22 rfl hl (by decide) rfl (fun ls hl => ?_)
    refine lv_aload_n hx hb dX12_weather_23 rfl (lv_at hl 2 rfl) ?_
    refine lv_iload_n hx hb dX12_weather_24 rfl (lv_at hl 3 rfl) ?_
    refine rp_13_33 C hW (mm_ rfl) tw_1056 dX12_weather_25 (fun H locs hW => ?_)
    refine lv_iload_n hx hb dX12_weather_28 rfl (lv_at hl 0 rfl) ?_
    have hWr : WB g A s.heap H locs (hv J [100] [(13, 33)] (up2 J 13 33 a0), L, I, P, E, N) (sgM g) := by
      rw [← ag_hvE (J := J) (R := [100]) (F := [(13, 33)]) (ag_up (Or.inr rfl) ag_rf)]
      exact hW
    exact end_i C hr hlocks (up2 J 13 33 a0) hWr (by first | exact Or.inl ⟨by omega, ⟨by omega, rfl⟩⟩ | exact Or.inr (Or.inl ⟨by omega, ⟨by omega, rfl⟩⟩) | exact Or.inr (Or.inr (⟨by first | rfl | assumption, ⟨by omega, by omega, rfl⟩⟩)) | (rcases hc1 with qhc1 | qhc1 | qhc1 <;> first | exact Or.inl ⟨by omega, ⟨by omega, rfl⟩⟩ | exact Or.inr (Or.inl ⟨by omega, ⟨by omega, rfl⟩⟩) | exact Or.inr (Or.inr (⟨by first | rfl | assumption, ⟨by omega, by omega, rfl⟩⟩)) | (exfalso; omega))) dX12_weather_29
  · have c2 : ¬ r1.toInt = 0 := tne rfl kp0 c2
    refine lv_aload_n hx hb dX12_weather_12 rfl (lv_at hl 1 rfl) ?_
    refine lv_iload_n hx hb dX12_weather_13 rfl (lv_at hl 0 rfl) ?_
    refine ci_ C hW (runV (x := (g.2.2.1 13)) (As := [.int r1]) (rest := []) (T := ((J, L, I, P, E, N), sgM g)) C hW (c_X12_refuse l g J L I P E N H.size r1 (by omega)) mi_X12_refuse tw_1239 (recv_ (T := ((J, L, I, P, E, N), sgM g)) C hW (mm_ rfl) rfl rfl) ⟨rfl, rfl, Nat.le_of_ble_eq_true rfl, Nat.le_of_ble_eq_true rfl⟩ rfl hl.1 rfl (Nat.le_of_ble_eq_true rfl) dX12_weather_14 ⟨Nat.le_of_ble_eq_true rfl, Nat.le_of_ble_eq_true rfl⟩) (fun r3 u3 H locs hp3 hW => ?_)
    have hc3 : ((r3 = r1)) := hp3
    have hr3 : r3.toInt = (r1).toInt := by rw [hc3]
    have hW : WB g A s.heap H locs ((hv J [100] [] u3), L, I, P, E, N) (sgM g) := hW
    have hWr : WB g A s.heap H locs (hv J [100] [(13, 33)] (hv J [100] [] u3), L, I, P, E, N) (sgM g) := by
      rw [← ag_hvE (J := J) (R := [100]) (F := [(13, 33)]) (ag_hv rfl rfl ag_rf)]
      exact hW
    exact end_i C hr hlocks (hv J [100] [] u3) hWr (by first | exact Or.inl ⟨by omega, ⟨by omega, rfl⟩⟩ | exact Or.inr (Or.inl ⟨by omega, ⟨by omega, rfl⟩⟩) | exact Or.inr (Or.inr (⟨by first | rfl | assumption, ⟨by omega, by omega, rfl⟩⟩)) | (rcases hc1 with qhc1 | qhc1 | qhc1 <;> first | exact Or.inl ⟨by omega, ⟨by omega, rfl⟩⟩ | exact Or.inr (Or.inl ⟨by omega, ⟨by omega, rfl⟩⟩) | exact Or.inr (Or.inr (⟨by first | rfl | assumption, ⟨by omega, by omega, rfl⟩⟩)) | (exfalso; omega))) dX12_weather_17
