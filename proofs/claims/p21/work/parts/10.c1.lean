set_option maxHeartbeats 40000000 in
set_option maxRecDepth 100000 in
theorem law_loop {p : Program} {l : Launch} {e : Env} {s : State} {m : MethodId} {below : List Frame} {meth : Method} {c : Code} {b Lx : Nat} {xs : Nat → Int32} (hL : Lx ≤ 320) (C0 : lw_At p s m meth c b Lx xs) {g : gG} {A : Nat → Prop} (hA : ∀ q, A q → s.heap.size ≤ q) (C : CC g A p m c code 4 s (#[Value.ref b]) "EarPaperLaw") : ∀ (n k : Nat) (i : Int32) (J : Nat → Nat → Int32) (L : Nat → Nat → Int64) (I : Nat → Nat → Nat → Int32) (P : Nat → Nat → Nat → Option Nat) (E : Nat → Option Nat) (N : Nat → Nat) (dy : List (Nat × Nat)) (H : Heap) (locs : List Loc) (ls : Array Slot), 5 * k ≤ Lx → Lx < 5 * k + n → i.toInt = 5 * (k : Int) → WXF g J P E N dy → WM J → (0 ≤ (J 3 1).toInt ∧ (J 3 1).toInt ≤ 9999 ∧ (J 27 2).toInt ≤ (J 3 1).toInt) → 0 ≤ (J 12 11).toInt → 0 ≤ (J 12 10).toInt → ((J 3 1).toInt = (J 13 31).toInt) → (J 4 4 = J 13 33) → (J 12 12 = J 13 38) → (J 12 13 = J 13 39) → (1 ≤ (J 12 12).toInt ∧ 0 ≤ (J 12 13).toInt ∧ (J 12 13).toInt ≤ 240) → ((J 24 2).toInt = (J 13 37).toInt) → (RDR I E P (J 113) (J 114) (J 115) (J 24 2).toInt) → (ZR (J 115) (J 24 2).toInt) → (INJ E P 24 (J 24 2).toInt) → (SPR I E P (J 27 2).toInt (J 3 1).toInt (J 116) (J 117) (J 118) (J 119) (J 120)) → ((J 26 2).toInt = (J 13 42).toInt) → ((J 20 2).toInt = (J 13 32).toInt) → ((J 22 2).toInt = (J 13 35).toInt) → ((J 11 2).toInt = (J 13 55).toInt) → (∀ k : Nat, (k : Int) < (J 11 2).toInt → J 43 k = J 153 k) → ((J 25 2).toInt = (J 13 40).toInt) → (TMR I P E N (J 25 2).toInt (J 121) (J 122) (J 123) (J 124)) → ((J 12 11).toInt = (J 13 44).toInt) → (∀ k : Nat, (k : Int) < (J 12 11).toInt → J 41 k = J 130 k) → ((J 21 2).toInt = (J 13 34).toInt) → (INJ E P 20 (J 20 2).toInt) → (NTR (P 6 0) (elt E P 20) (J 101) (J 20 2).toInt) → (FLD I E P (J 102) 20 6 1 (J 20 2).toInt) → (FLD I E P (J 103) 20 6 3 (J 20 2).toInt) → (ZR (J 103) (J 20 2).toInt) → (∀ k : Nat, (k : Int) < (J 20 2).toInt → (I 6 5 (elt E P 20 k)).toInt = 0) → (∀ k : Nat, J 104 k = 0) → (CUR (P 1 0) (I 1 1) (I 1 2) (elt E P 21) (elt E P 20) (J 105) (J 106) (J 107) (J 21 2).toInt (J 20 2).toInt) → (HMR (P 2 0) (I 2 1) (I 2 2) (I 2 3) (elt E P 22) (elt E P 20) (J 108) (J 109) (J 110) (J 111) (J 22 2).toInt (J 20 2).toInt) → (J 4 5 = J 13 36) → (1 ≤ (J 4 5).toInt ∧ (J 4 5).toInt ≤ 99) → (1 ≤ (J 13 49).toInt ∧ (J 13 49).toInt ≤ (k : Int) + 1) → (CAC J) → (ASK I P E N (J 25 2).toInt) → (SPK I E P (J 27 2).toInt) → WB g A s.heap H locs (J, L, I, P, E, N) ((sgX g ++ dy) ++ sgM g) → lv_has ls 4 [(3, .int i), (0, .ref b), (1, .ref (g.2.2.1 12)), (2, .ref (g.2.2.1 13))] → W p l e room_1 s m #[Value.ref b] below meth c H locs (1000 + 10 * k) (200000 + 20100 * k) (lw_Z below #[Value.ref b] s) (F0 m 18 ls []) := by
  obtain ⟨hx, hb, hr, hml, hown, hts0, hX, hbl, hlocks, hgv⟩ := C0
  have hts := C.1.2.2.2.2
  have hbA : ¬ A b := fun q => by have := hA b q; omega
  intro n
  induction n with
  | zero => intro k i J L I P E N dy H locs ls h1 h2; exact absurd h2 (by omega)
  | succ n ih =>
    intro k i J L I P E N dy H locs ls hk5 hkn hi hwf hwm hnow hrl hac hrel0 hrel1 hrel2 hrel3 hrel4 hrel5 hrel6 hrel7 hrel8 hrel9 hrel10 hrel11 hrel12 hrel13 hrel14 hrel15 hrel16 hrel17 hrel18 hrel19 hrel20 hrel21 hrel22 hrel23 hrel24 hrel25 hrel26 hrel27 hrel28 hrel29 hrel30 hrel31 hrel32 hrel33 hrel34 hW hl
    have htp0 := hwm.2.2.2.2.2.2.2.2
    have hrw9 := hwm.2.2.2.2.2.2
    have hnd9 := hwm.1.1
    have hk64 : k ≤ 64 := by omega
    have hwf0 := hwf
    have hwm0 := hwm
    have hnow0 := hnow
    have hrl0 := hrl
    have hac0 := hac
    refine lv_iload_n hx hb dL_law_18 rfl (lv_at hl 0 rfl) ?_
    refine lv_aload_n hx hb dL_law_19 rfl (lv_at hl 1 rfl) ?_
    obtain ⟨x1, e1⟩ : ∃ y : Int32, y = Int32.ofNat Lx := ⟨_, rfl⟩
    have t1 : x1.toInt = (Lx : Int) := by rw [e1]; exact Int32.toInt_ofNat_of_lt (by omega)
    refine va_slen hx hb hX hbl hbA hW.2.2.1 dL_law_20 ?_
    refine lv_as x1 e1.symm ?_
    refine lv_iconst (v := 5) hx hb dL_law_21 (by decide) ?_
    refine lv_isub hx hb dL_law_22 ?_
    refine lv_topi (fun x2 (e2 : x2 = x1 - 5) => ?_)
    try have t2 : x2.toInt = x1.toInt - 5 := tsub e2 rfl kp5 (by omega)
    refine lv_icmp_gt (tgt := 1396) hx hb dL_law_23 (by decide) (fun c3 => ?_) (fun c3 => ?_)
    · have c3 : x2.toInt < i.toInt := tlt rfl rfl c3
      refine lv_iconst (v := 1) hx hb dL_law_1396 (by decide) ?_
      refine va_forget (fun q hq => hA _ (hW.2.2.1.2.2 q hq)) ?_
      refine W.widen (k := 600000) (n := 7302250) (by omega) (by omega) ?_
      exact lw_ret hx hb hr hlocks dL_law_1397
    · have c3 : i.toInt ≤ x2.toInt := tnlt rfl rfl c3
      refine lv_aload_n hx hb dL_law_26 rfl (lv_at hl 1 rfl) ?_
      refine lv_iload_n hx hb dL_law_27 rfl (lv_at hl 0 rfl) ?_
      have hin : vp_in i Lx := tin rfl (by omega)
      refine va_sld hx hb hX hbl hbA hW.2.2.1 hin dL_law_28 ?_
      refine lv_topi (fun x4 (e4 : x4 = xs i.toNatClampNeg) => ?_)
      refine lv_bipush (v := 63) hx hb dL_law_29 (by decide) ?_
      refine lv_iand hx hb dL_law_31 ?_
      refine lv_topi (fun x5 (e5 : x5 = x4 &&& 63) => ?_)
      rcases Int.lt_or_le x5.toInt 0 with c6 | c6
      · refine lv_tableOut (tgt := 1390) hx hb dL_law_32 (Or.inl c6) (by decide) ?_
        obtain ⟨x7, e7⟩ : ∃ y : Int32, y = i + 5 := ⟨_, rfl⟩
        refine lv_iinc (v := x7) (lv' := [(3, .int x7), (0, .ref b), (1, .ref (g.2.2.1 12)), (2, .ref (g.2.2.1 13))]) hx hb dL_law_1390 hl (k := 0) rfl (by rw [e7]; rfl) (by decide) rfl (fun ls hl => ?_)
        try have t7 : x7.toInt = i.toInt + 5 := tadd e7 rfl kp5 (by omega)
        refine lv_goto (tgt := 18) hx hb dL_law_1393 (by decide) ?_
        refine W.widen (k := 1000 + 10 * (k + 1)) (n := 200000 + 20100 * (k + 1)) (by omega) (by omega) ?_
        exact ih (k + 1) x7 J L I P E N dy H locs ls (by omega) (by omega) (by omega) hwf hwm hnow hrl hac hrel0 hrel1 hrel2 hrel3 hrel4 hrel5 hrel6 hrel7 hrel8 hrel9 hrel10 hrel11 hrel12 hrel13 hrel14 hrel15 hrel16 hrel17 hrel18 hrel19 hrel20 hrel21 hrel22 hrel23 hrel24 hrel25 hrel26 hrel27 hrel28 hrel29 hrel30 (tol_s (a := J 13 49) (k := k) hk64 (Or.inl rfl) hrel31) hrel32 hrel33 hrel34 hW (lv_sub hl [0, 1, 2, 3] rfl)
      · rcases Int.lt_or_le 36 x5.toInt with c6b | c6b
        · refine lv_tableOut (tgt := 1390) hx hb dL_law_32 (Or.inr c6b) (by decide) ?_
          obtain ⟨x8, e8⟩ : ∃ y : Int32, y = i + 5 := ⟨_, rfl⟩
          refine lv_iinc (v := x8) (lv' := [(3, .int x8), (0, .ref b), (1, .ref (g.2.2.1 12)), (2, .ref (g.2.2.1 13))]) hx hb dL_law_1390 hl (k := 0) rfl (by rw [e8]; rfl) (by decide) rfl (fun ls hl => ?_)
          try have t8 : x8.toInt = i.toInt + 5 := tadd e8 rfl kp5 (by omega)
          refine lv_goto (tgt := 18) hx hb dL_law_1393 (by decide) ?_
          refine W.widen (k := 1000 + 10 * (k + 1)) (n := 200000 + 20100 * (k + 1)) (by omega) (by omega) ?_
          exact ih (k + 1) x8 J L I P E N dy H locs ls (by omega) (by omega) (by omega) hwf hwm hnow hrl hac hrel0 hrel1 hrel2 hrel3 hrel4 hrel5 hrel6 hrel7 hrel8 hrel9 hrel10 hrel11 hrel12 hrel13 hrel14 hrel15 hrel16 hrel17 hrel18 hrel19 hrel20 hrel21 hrel22 hrel23 hrel24 hrel25 hrel26 hrel27 hrel28 hrel29 hrel30 (tol_s (a := J 13 49) (k := k) hk64 (Or.inl rfl) hrel31) hrel32 hrel33 hrel34 hW (lv_sub hl [0, 1, 2, 3] rfl)
        · rcases (show x5.toInt = 0 ∨ x5.toInt = 1 ∨ x5.toInt = 2 ∨ x5.toInt = 3 ∨ x5.toInt = 4 ∨ x5.toInt = 5 ∨ x5.toInt = 6 ∨ x5.toInt = 7 ∨ x5.toInt = 8 ∨ x5.toInt = 9 ∨ x5.toInt = 10 ∨ x5.toInt = 11 ∨ x5.toInt = 12 ∨ x5.toInt = 13 ∨ x5.toInt = 14 ∨ x5.toInt = 15 ∨ x5.toInt = 16 ∨ x5.toInt = 17 ∨ x5.toInt = 18 ∨ x5.toInt = 19 ∨ x5.toInt = 20 ∨ x5.toInt = 21 ∨ x5.toInt = 22 ∨ x5.toInt = 23 ∨ x5.toInt = 24 ∨ x5.toInt = 25 ∨ x5.toInt = 26 ∨ x5.toInt = 27 ∨ x5.toInt = 28 ∨ x5.toInt = 29 ∨ x5.toInt = 30 ∨ x5.toInt = 31 ∨ x5.toInt = 32 ∨ x5.toInt = 33 ∨ x5.toInt = 34 ∨ x5.toInt = 35 ∨ x5.toInt = 36 by omega) with c6k | c6k | c6k | c6k | c6k | c6k | c6k | c6k | c6k | c6k | c6k | c6k | c6k | c6k | c6k | c6k | c6k | c6k | c6k | c6k | c6k | c6k | c6k | c6k | c6k | c6k | c6k | c6k | c6k | c6k | c6k | c6k | c6k | c6k | c6k | c6k | c6k
          · refine lv_tableIn (off := 164) (tgt := 196) hx hb dL_law_32 (Int.not_lt.mpr c6) (Int.not_lt.mpr c6b) (by rw [c6k]; rfl) (by decide) ?_
            refine lv_aload_n hx hb dL_law_196 rfl (lv_at hl 2 rfl) ?_
            refine lv_aload_n hx hb dL_law_197 rfl (lv_at hl 1 rfl) ?_
            refine lv_iload_n hx hb dL_law_198 rfl (lv_at hl 0 rfl) ?_
            refine lv_iconst (v := 1) hx hb dL_law_199 (by decide) ?_
            refine lv_iadd hx hb dL_law_200 ?_
            refine lv_topi (fun x9 (e9 : x9 = i + 1) => ?_)
            try have t9 : x9.toInt = i.toInt + 1 := tadd e9 rfl kp1 (by omega)
            have hin : vp_in x9 Lx := tin rfl (by omega)
            refine va_sld hx hb hX hbl hbA hW.2.2.1 hin dL_law_201 ?_
            refine lv_topi (fun x10 (e10 : x10 = xs x9.toNatClampNeg) => ?_)
            refine ci2_ C (WB_L hW) (runV (x := g.2.2.1 12) (As := [.int x10]) (rest := []) (T := ((J, L, I, P, E, N), sgX g ++ dy)) C (WB_L hW) (c_X11_pass_e l g J L I P E N dy H.size x10 hwf ⟨hnow.1, hnow.2.1⟩ hnow.2.2) mi_X11_pass tw_407 (recv_ (T := ((J, L, I, P, E, N), sgX g ++ dy)) C (WB_L hW) (mx_ rfl) rfl rfl) ⟨rfl, rfl, Nat.le_of_ble_eq_true rfl, Nat.le_of_ble_eq_true rfl⟩ rfl hl.1 rfl (Nat.le_of_ble_eq_true rfl) dL_law_202 ⟨by show 1000 + 10 * k + 10 ≤ 600000; omega, by show 200000 + 20100 * k + 20100 ≤ 7302250; omega⟩) (fun r11 u11 H locs hp11 hB hk hS => ?_)
            have hW : WB g A s.heap H locs ((hv J [42] [(3, 1), (3, 2), (3, 3), (27, 0), (27, 2)] u11.1), L, (hv I [9] [] u11.2.1), (hv P [9, 37] [] u11.2.2.1), (hv1 E [27] u11.2.2.2.1), u11.2.2.2.2.1) ((sgX g ++ u11.2.2.2.2.2) ++ sgM g) := joinL hW hB hk hS (frsub C (WB_L hW)) (okM hW (fun r h => hv_m (J := J) (R := [42]) (F := [(3, 1), (3, 2), (3, 3), (27, 0), (27, 2)]) rfl rfl h) (fun r h => rfl))
            obtain ⟨hc11, hwf, hdd11, hf11_0, hf11_1⟩ := hp11
            have hnow := hf11_0
            refine lv_pop hx hb dL_law_205 rfl ?_
            refine lv_aload_n hx hb dL_law_206 rfl (lv_at hl 3 rfl) ?_
            refine lv_aload_n hx hb dL_law_207 rfl (lv_at hl 1 rfl) ?_
            refine lv_iload_n hx hb dL_law_208 rfl (lv_at hl 0 rfl) ?_
            refine lv_iconst (v := 1) hx hb dL_law_209 (by decide) ?_
            refine lv_iadd hx hb dL_law_210 ?_
            refine lv_topi (fun x12 (e12 : x12 = i + 1) => ?_)
            try have t12 : x12.toInt = i.toInt + 1 := tadd e12 rfl kp1 (by omega)
            have hin : vp_in x12 Lx := tin rfl (by omega)
            refine va_sld hx hb hX hbl hbA hW.2.2.1 hin dL_law_211 ?_
            refine lv_as x10 (by rw [e10, e9, e12]) ?_
            refine ci2_ C (WB_R hW) (runV (x := g.2.2.1 13) (As := [.int x10]) (rest := []) (T := (((hv J [42] [(3, 1), (3, 2), (3, 3), (27, 0), (27, 2)] u11.1), L, (hv I [9] [] u11.2.1), (hv P [9, 37] [] u11.2.2.1), (hv1 E [27] u11.2.2.2.1), u11.2.2.2.2.1), sgM g)) C (WB_R hW) (c_X12_pass_e l g (hv J [42] [(3, 1), (3, 2), (3, 3), (27, 0), (27, 2)] u11.1) L (hv I [9] [] u11.2.1) (hv P [9, 37] [] u11.2.2.1) (hv1 E [27] u11.2.2.2.1) u11.2.2.2.2.1 H.size x10 hwm) mi_X12_pass tw_1235 (recv_ (T := (((hv J [42] [(3, 1), (3, 2), (3, 3), (27, 0), (27, 2)] u11.1), L, (hv I [9] [] u11.2.1), (hv P [9, 37] [] u11.2.2.1), (hv1 E [27] u11.2.2.2.1), u11.2.2.2.2.1), sgM g)) C (WB_R hW) (mm_ rfl) rfl rfl) ⟨rfl, rfl, Nat.le_of_ble_eq_true rfl, Nat.le_of_ble_eq_true rfl⟩ rfl hl.1 rfl (Nat.le_of_ble_eq_true rfl) dL_law_212 ⟨by show 1000 + 10 * k + 10 + 0 ≤ 600000; omega, by show 200000 + 20100 * k + 20100 + 0 ≤ 7302250; omega⟩) (fun r13 u13 H locs hp13 hB hk hS => ?_)
            have hW : WB g A s.heap H locs ((hv (hv J [42] [(3, 1), (3, 2), (3, 3), (27, 0), (27, 2)] u11.1) [100, 116, 117, 118, 119, 120] [(13, 31)] u13), L, (hv I [9] [] u11.2.1), (hv P [9, 37] [] u11.2.2.1), (hv1 E [27] u11.2.2.2.1), u11.2.2.2.2.1) ((sgX g ++ u11.2.2.2.2.2) ++ sgM g) := joinR hW hB hk hS (frsub C (WB_R hW)) (fun x hx => cel_x (hv_x rfl rfl (notm hW x hx)))
            obtain ⟨hwm, hc13⟩ : WM (hv (hv J [42] [(3, 1), (3, 2), (3, 3), (27, 0), (27, 2)] u11.1) [100, 116, 117, 118, 119, 120] [(13, 31)] u13) ∧ ((r13.toInt = (-4) ∧ (x10.toInt < 1) ∧ u13 13 31 = J 13 31 ∧ u13 116 = J 116 ∧ u13 117 = J 117 ∧ u13 118 = J 118 ∧ u13 119 = J 119 ∧ u13 120 = J 120) ∨ (r13.toInt = (-6) ∧ (1 ≤ x10.toInt ∧ 9999 - (J 13 31).toInt < x10.toInt) ∧ u13 13 31 = J 13 31 ∧ u13 116 = J 116 ∧ u13 117 = J 117 ∧ u13 118 = J 118 ∧ u13 119 = J 119 ∧ u13 120 = J 120) ∨ (r13.toInt = (J 13 31).toInt + x10.toInt ∧ (1 ≤ x10.toInt ∧ x10.toInt ≤ 9999 - (J 13 31).toInt) ∧ (u13 13 31).toInt = (J 13 31).toInt + x10.toInt ∧ FILL (J 116) (u13 116) (J 13 31).toInt ((J 13 31).toInt + x10.toInt) 6 ∧ FILL (J 117) (u13 117) (J 13 31).toInt ((J 13 31).toInt + x10.toInt) (-9) ∧ FILL (J 118) (u13 118) (J 13 31).toInt ((J 13 31).toInt + x10.toInt) 0 ∧ FILL (J 119) (u13 119) (J 13 31).toInt ((J 13 31).toInt + x10.toInt) (-9) ∧ FILL (J 120) (u13 120) (J 13 31).toInt ((J 13 31).toInt + x10.toInt) (J 13 33))) := hp13
            refine lv_pop hx hb dL_law_215 rfl ?_
            refine lv_goto (tgt := 1390) hx hb dL_law_216 (by decide) ?_
            obtain ⟨x14, e14⟩ : ∃ y : Int32, y = i + 5 := ⟨_, rfl⟩
            refine lv_iinc (v := x14) (lv' := [(3, .int x14), (0, .ref b), (1, .ref (g.2.2.1 12)), (2, .ref (g.2.2.1 13))]) hx hb dL_law_1390 hl (k := 0) rfl (by rw [e14]; rfl) (by decide) rfl (fun ls hl => ?_)
            try have t14 : x14.toInt = i.toInt + 5 := tadd e14 rfl kp5 (by omega)
            refine lv_goto (tgt := 18) hx hb dL_law_1393 (by decide) ?_
            refine W.widen (k := 1000 + 10 * (k + 1)) (n := 200000 + 20100 * (k + 1)) (by omega) (by omega) ?_
            obtain ⟨hnew0, hnew9, hnew16, hnew32, hnew33, hnew34⟩ := rel_pass k g J I P E N dy r11 x10 u11 r13 u13 hk64 hwf0 hwm0 hnow0 hrl0 hac0 hrel0 hrel1 hrel2 hrel3 hrel4 hrel5 hrel6 hrel7 hrel8 hrel9 hrel10 hrel11 hrel12 hrel13 hrel14 hrel15 hrel16 hrel17 hrel18 hrel19 hrel20 hrel21 hrel22 hrel23 hrel24 hrel25 hrel26 hrel27 hrel28 hrel29 hrel30 hrel31 hrel32 hrel33 hrel34 hc11 hf11_0 hf11_1 hc13
            exact ih (k + 1) x14 (hv (hv J [42] [(3, 1), (3, 2), (3, 3), (27, 0), (27, 2)] u11.1) [100, 116, 117, 118, 119, 120] [(13, 31)] u13) L (hv I [9] [] u11.2.1) (hv P [9, 37] [] u11.2.2.1) (hv1 E [27] u11.2.2.2.1) u11.2.2.2.2.1 u11.2.2.2.2.2 H locs ls (by omega) (by omega) (by omega) hwf hwm hnow hrl hac hnew0 hrel1 hrel2 hrel3 hrel4 hrel5 hrel6 hrel7 hrel8 hnew9 hrel10 hrel11 hrel12 hrel13 hrel14 hrel15 hnew16 hrel17 hrel18 hrel19 hrel20 hrel21 hrel22 hrel23 hrel24 hrel25 hrel26 hrel27 hrel28 hrel29 hrel30 (tol_s (a := J 13 49) (k := k) hk64 (Or.inl rfl) hrel31) hnew32 hnew33 hnew34 hW (lv_sub hl [0, 1, 2, 3] rfl)
          · refine lv_tableIn (off := 187) (tgt := 219) hx hb dL_law_32 (Int.not_lt.mpr c6) (Int.not_lt.mpr c6b) (by rw [c6k]; rfl) (by decide) ?_
            refine lv_aload_n hx hb dL_law_219 rfl (lv_at hl 2 rfl) ?_
            refine lv_aload_n hx hb dL_law_220 rfl (lv_at hl 1 rfl) ?_
            refine lv_iload_n hx hb dL_law_221 rfl (lv_at hl 0 rfl) ?_
            refine lv_iconst (v := 1) hx hb dL_law_222 (by decide) ?_
            refine lv_iadd hx hb dL_law_223 ?_
            refine lv_topi (fun x15 (e15 : x15 = i + 1) => ?_)
            try have t15 : x15.toInt = i.toInt + 1 := tadd e15 rfl kp1 (by omega)
            have hin : vp_in x15 Lx := tin rfl (by omega)
            refine va_sld hx hb hX hbl hbA hW.2.2.1 hin dL_law_224 ?_
            refine lv_topi (fun x16 (e16 : x16 = xs x15.toNatClampNeg) => ?_)
            refine lv_aload_n hx hb dL_law_225 rfl (lv_at hl 1 rfl) ?_
            refine lv_iload_n hx hb dL_law_226 rfl (lv_at hl 0 rfl) ?_
            refine lv_iconst (v := 2) hx hb dL_law_227 (by decide) ?_
            refine lv_iadd hx hb dL_law_228 ?_
            refine lv_topi (fun x17 (e17 : x17 = i + 2) => ?_)
            try have t17 : x17.toInt = i.toInt + 2 := tadd e17 rfl kp2 (by omega)
            have hin : vp_in x17 Lx := tin rfl (by omega)
            refine va_sld hx hb hX hbl hbA hW.2.2.1 hin dL_law_229 ?_
            refine lv_topi (fun x18 (e18 : x18 = xs x17.toNatClampNeg) => ?_)
            refine ci2_ C (WB_L hW) (runV (x := g.2.2.1 12) (As := [.int x16, .int x18]) (rest := []) (T := ((J, L, I, P, E, N), sgX g ++ dy)) C (WB_L hW) (c_X11_node_p_p l g J L I P E N dy H.size x16 x18 hwf) mi_X11_node tw_459 (recv_ (T := ((J, L, I, P, E, N), sgX g ++ dy)) C (WB_L hW) (mx_ rfl) rfl rfl) ⟨rfl, rfl, Nat.le_of_ble_eq_true rfl, Nat.le_of_ble_eq_true rfl⟩ rfl hl.1 rfl (Nat.le_of_ble_eq_true rfl) dL_law_230 ⟨by show 1000 + 10 * k + 10 ≤ 600000; omega, by show 200000 + 20100 * k + 20100 ≤ 7302250; omega⟩) (fun r19 u19 H locs hp19 hB hk hS => ?_)
            have hW : WB g A s.heap H locs ((hv J [42] [(20, 0), (20, 2)] u19.1), L, (hv I [6] [] u19.2.1), (hv P [6, 30] [] u19.2.2.1), (hv1 E [20] u19.2.2.2.1), u19.2.2.2.2.1) ((sgX g ++ u19.2.2.2.2.2) ++ sgM g) := joinL hW hB hk hS (frsub C (WB_L hW)) (okM hW (fun r h => hv_m (J := J) (R := [42]) (F := [(20, 0), (20, 2)]) rfl rfl h) (fun r h => rfl))
            obtain ⟨hc19, hwf, hdd19, hf19_0⟩ := hp19
            refine lv_pop hx hb dL_law_233 rfl ?_
            refine lv_aload_n hx hb dL_law_234 rfl (lv_at hl 3 rfl) ?_
            refine lv_aload_n hx hb dL_law_235 rfl (lv_at hl 1 rfl) ?_
            refine lv_iload_n hx hb dL_law_236 rfl (lv_at hl 0 rfl) ?_
            refine lv_iconst (v := 1) hx hb dL_law_237 (by decide) ?_
            refine lv_iadd hx hb dL_law_238 ?_
            refine lv_topi (fun x20 (e20 : x20 = i + 1) => ?_)
            try have t20 : x20.toInt = i.toInt + 1 := tadd e20 rfl kp1 (by omega)
            have hin : vp_in x20 Lx := tin rfl (by omega)
            refine va_sld hx hb hX hbl hbA hW.2.2.1 hin dL_law_239 ?_
            refine lv_as x16 (by rw [e16, e15, e20]) ?_
            refine lv_aload_n hx hb dL_law_240 rfl (lv_at hl 1 rfl) ?_
            refine lv_iload_n hx hb dL_law_241 rfl (lv_at hl 0 rfl) ?_
            refine lv_iconst (v := 2) hx hb dL_law_242 (by decide) ?_
            refine lv_iadd hx hb dL_law_243 ?_
            refine lv_topi (fun x21 (e21 : x21 = i + 2) => ?_)
            try have t21 : x21.toInt = i.toInt + 2 := tadd e21 rfl kp2 (by omega)
            have hin : vp_in x21 Lx := tin rfl (by omega)
            refine va_sld hx hb hX hbl hbA hW.2.2.1 hin dL_law_244 ?_
            refine lv_as x18 (by rw [e18, e17, e21]) ?_
            refine ci2_ C (WB_R hW) (runV (x := g.2.2.1 13) (As := [.int x16, .int x18]) (rest := []) (T := (((hv J [42] [(20, 0), (20, 2)] u19.1), L, (hv I [6] [] u19.2.1), (hv P [6, 30] [] u19.2.2.1), (hv1 E [20] u19.2.2.2.1), u19.2.2.2.2.1), sgM g)) C (WB_R hW) (c_X12_node_t l g (hv J [42] [(20, 0), (20, 2)] u19.1) L (hv I [6] [] u19.2.1) (hv P [6, 30] [] u19.2.2.1) (hv1 E [20] u19.2.2.2.1) u19.2.2.2.2.1 H.size x16 x18 hwm) mi_X12_node tw_1247 (recv_ (T := (((hv J [42] [(20, 0), (20, 2)] u19.1), L, (hv I [6] [] u19.2.1), (hv P [6, 30] [] u19.2.2.1), (hv1 E [20] u19.2.2.2.1), u19.2.2.2.2.1), sgM g)) C (WB_R hW) (mm_ rfl) rfl rfl) ⟨rfl, rfl, Nat.le_of_ble_eq_true rfl, Nat.le_of_ble_eq_true rfl⟩ rfl hl.1 rfl (Nat.le_of_ble_eq_true rfl) dL_law_245 ⟨by show 1000 + 10 * k + 10 + 0 ≤ 600000; omega, by show 200000 + 20100 * k + 20100 + 0 ≤ 7302250; omega⟩) (fun r22 u22 H locs hp22 hB hk hS => ?_)
            have hW : WB g A s.heap H locs ((hv (hv J [42] [(20, 0), (20, 2)] u19.1) [100, 101, 102] [(13, 32), (13, 49)] u22), L, (hv I [6] [] u19.2.1), (hv P [6, 30] [] u19.2.2.1), (hv1 E [20] u19.2.2.2.1), u19.2.2.2.2.1) ((sgX g ++ u19.2.2.2.2.2) ++ sgM g) := joinR hW hB hk hS (frsub C (WB_R hW)) (fun x hx => cel_x (hv_x rfl rfl (notm hW x hx)))
            obtain ⟨hwm, hc22, hf22_0⟩ : WM (hv (hv J [42] [(20, 0), (20, 2)] u19.1) [100, 101, 102] [(13, 32), (13, 49)] u22) ∧ ((r22.toInt = (-1) ∧ (¬ (0 ≤ x16.toInt ∧ x16.toInt < (J 13 32).toInt)) ∧ u22 13 32 = J 13 32 ∧ u22 101 = J 101 ∧ u22 102 = J 102) ∨ (r22.toInt = (-4) ∧ (0 ≤ x16.toInt ∧ x16.toInt < (J 13 32).toInt ∧ x18.toInt < 1) ∧ u22 13 32 = J 13 32 ∧ u22 101 = J 101 ∧ u22 102 = J 102) ∨ (r22.toInt = (-6) ∧ (0 ≤ x16.toInt ∧ x16.toInt < (J 13 32).toInt ∧ 1 ≤ x18.toInt ∧ (99 < x18.toInt ∨ (J 13 32).toInt = 20)) ∧ u22 13 32 = J 13 32 ∧ u22 101 = J 101 ∧ u22 102 = J 102) ∨ (r22.toInt = (J 13 32).toInt ∧ (0 ≤ x16.toInt ∧ x16.toInt < (J 13 32).toInt ∧ 1 ≤ x18.toInt ∧ x18.toInt ≤ 99 ∧ (J 13 32).toInt ≤ 19) ∧ (u22 13 32).toInt = (J 13 32).toInt + 1 ∧ u22 101 = up2 J 101 (J 13 32).toNatClampNeg x16 101 ∧ u22 102 = up2 J 102 (J 13 32).toNatClampNeg x18 102)) ∧ ((u22 13 49 = J 13 49 ∧ u22 13 32 = J 13 32 ∧ u22 101 = J 101 ∧ u22 102 = J 102) ∨ u22 13 49 = J 13 49 + 1) := hp22
            refine lv_pop hx hb dL_law_248 rfl ?_
            refine lv_goto (tgt := 1390) hx hb dL_law_249 (by decide) ?_
            obtain ⟨x23, e23⟩ : ∃ y : Int32, y = i + 5 := ⟨_, rfl⟩
            refine lv_iinc (v := x23) (lv' := [(3, .int x23), (0, .ref b), (1, .ref (g.2.2.1 12)), (2, .ref (g.2.2.1 13))]) hx hb dL_law_1390 hl (k := 0) rfl (by rw [e23]; rfl) (by decide) rfl (fun ls hl => ?_)
            try have t23 : x23.toInt = i.toInt + 5 := tadd e23 rfl kp5 (by omega)
            refine lv_goto (tgt := 18) hx hb dL_law_1393 (by decide) ?_
            refine W.widen (k := 1000 + 10 * (k + 1)) (n := 200000 + 20100 * (k + 1)) (by omega) (by omega) ?_
            obtain ⟨hnew11, hnew16, hnew20, hnew21, hnew22, hnew23, hnew24, hnew25, hnew27, hnew28, hnew32, hnew33⟩ := rel_node k g J I P E N dy r19 x16 u19 x18 r22 u22 hk64 hwf0 hwm0 hnow0 hrl0 hac0 hrel0 hrel1 hrel2 hrel3 hrel4 hrel5 hrel6 hrel7 hrel8 hrel9 hrel10 hrel11 hrel12 hrel13 hrel14 hrel15 hrel16 hrel17 hrel18 hrel19 hrel20 hrel21 hrel22 hrel23 hrel24 hrel25 hrel26 hrel27 hrel28 hrel29 hrel30 hrel31 hrel32 hrel33 hrel34 hc19 hf19_0 hc22 hf22_0
            exact ih (k + 1) x23 (hv (hv J [42] [(20, 0), (20, 2)] u19.1) [100, 101, 102] [(13, 32), (13, 49)] u22) L (hv I [6] [] u19.2.1) (hv P [6, 30] [] u19.2.2.1) (hv1 E [20] u19.2.2.2.1) u19.2.2.2.2.1 u19.2.2.2.2.2 H locs ls (by omega) (by omega) (by omega) hwf hwm hnow hrl hac hrel0 hrel1 hrel2 hrel3 hrel4 hrel5 hrel6 hrel7 hrel8 hrel9 hrel10 hnew11 hrel12 hrel13 hrel14 hrel15 hnew16 hrel17 hrel18 hrel19 hnew20 hnew21 hnew22 hnew23 hnew24 hnew25 hrel26 hnew27 hnew28 hrel29 hrel30 (tol_s (a := J 13 49) (k := k) hk64 (hf22_0.imp (fun q => q.1) id) hrel31) hnew32 hnew33 hrel34 hW (lv_sub hl [0, 1, 2, 3] rfl)
          · refine lv_tableIn (off := 220) (tgt := 252) hx hb dL_law_32 (Int.not_lt.mpr c6) (Int.not_lt.mpr c6b) (by rw [c6k]; rfl) (by decide) ?_
            refine lv_aload_n hx hb dL_law_252 rfl (lv_at hl 2 rfl) ?_
            refine lv_aload_n hx hb dL_law_253 rfl (lv_at hl 1 rfl) ?_
            refine lv_iload_n hx hb dL_law_254 rfl (lv_at hl 0 rfl) ?_
            refine lv_iconst (v := 1) hx hb dL_law_255 (by decide) ?_
            refine lv_iadd hx hb dL_law_256 ?_
            refine lv_topi (fun x24 (e24 : x24 = i + 1) => ?_)
            try have t24 : x24.toInt = i.toInt + 1 := tadd e24 rfl kp1 (by omega)
            have hin : vp_in x24 Lx := tin rfl (by omega)
            refine va_sld hx hb hX hbl hbA hW.2.2.1 hin dL_law_257 ?_
            refine lv_topi (fun x25 (e25 : x25 = xs x24.toNatClampNeg) => ?_)
            refine lv_aload_n hx hb dL_law_258 rfl (lv_at hl 1 rfl) ?_
            refine lv_iload_n hx hb dL_law_259 rfl (lv_at hl 0 rfl) ?_
            refine lv_iconst (v := 2) hx hb dL_law_260 (by decide) ?_
            refine lv_iadd hx hb dL_law_261 ?_
            refine lv_topi (fun x26 (e26 : x26 = i + 2) => ?_)
            try have t26 : x26.toInt = i.toInt + 2 := tadd e26 rfl kp2 (by omega)
            have hin : vp_in x26 Lx := tin rfl (by omega)
            refine va_sld hx hb hX hbl hbA hW.2.2.1 hin dL_law_262 ?_
            refine lv_topi (fun x27 (e27 : x27 = xs x26.toNatClampNeg) => ?_)
            refine ci2_ C (WB_L hW) (runV (x := g.2.2.1 12) (As := [.int x25, .int x27]) (rest := []) (T := ((J, L, I, P, E, N), sgX g ++ dy)) C (WB_L hW) (c_X11_boost_e l g J L I P E N dy H.size x25 x27 hwf) mi_X11_boost tw_489 (recv_ (T := ((J, L, I, P, E, N), sgX g ++ dy)) C (WB_L hW) (mx_ rfl) rfl rfl) ⟨rfl, rfl, Nat.le_of_ble_eq_true rfl, Nat.le_of_ble_eq_true rfl⟩ rfl hl.1 rfl (Nat.le_of_ble_eq_true rfl) dL_law_263 ⟨by show 1000 + 10 * k + 0 ≤ 600000; omega, by show 200000 + 20100 * k + 0 ≤ 7302250; omega⟩) (fun r28 u28 H locs hp28 hB hk hS => ?_)
            have hW : WB g A s.heap H locs ((hv J [42] [] u28.1), L, (hv I [] [(6, 3)] u28.2), P, E, N) ((sgX g ++ dy) ++ sgM g) := joinL hW hB hk hS (frsub C (WB_L hW)) (okM hW (fun r h => hv_m (J := J) (R := [42]) (F := []) rfl rfl h) (fun r h => rfl))
            have hc28 : ((r28.toInt = (-1) ∧ (¬ (0 ≤ x25.toInt ∧ x25.toInt < (J 20 2).toInt)) ∧ u28.2 6 3 = I 6 3) ∨ (r28.toInt = (-4) ∧ (0 ≤ x25.toInt ∧ x25.toInt < (J 20 2).toInt ∧ x27.toInt < 0) ∧ u28.2 6 3 = I 6 3) ∨ (r28.toInt = (-6) ∧ (0 ≤ x25.toInt ∧ x25.toInt < (J 20 2).toInt ∧ 99 < x27.toInt) ∧ u28.2 6 3 = I 6 3) ∨ (r28 = I 6 3 (elt E P 20 x25.toNatClampNeg) ∧ (0 ≤ x25.toInt ∧ x25.toInt < (J 20 2).toInt ∧ 0 ≤ x27.toInt ∧ x27.toInt ≤ 99) ∧ (∀ b : Nat, b ≠ elt E P 20 x25.toNatClampNeg → u28.2 6 3 b = I 6 3 b) ∧ u28.2 6 3 (elt E P 20 x25.toNatClampNeg) = x27)) := hp28
            refine lv_pop hx hb dL_law_266 rfl ?_
            refine lv_aload_n hx hb dL_law_267 rfl (lv_at hl 3 rfl) ?_
            refine lv_aload_n hx hb dL_law_268 rfl (lv_at hl 1 rfl) ?_
            refine lv_iload_n hx hb dL_law_269 rfl (lv_at hl 0 rfl) ?_
            refine lv_iconst (v := 1) hx hb dL_law_270 (by decide) ?_
            refine lv_iadd hx hb dL_law_271 ?_
            refine lv_topi (fun x29 (e29 : x29 = i + 1) => ?_)
            try have t29 : x29.toInt = i.toInt + 1 := tadd e29 rfl kp1 (by omega)
            have hin : vp_in x29 Lx := tin rfl (by omega)
            refine va_sld hx hb hX hbl hbA hW.2.2.1 hin dL_law_272 ?_
            refine lv_as x25 (by rw [e25, e24, e29]) ?_
            refine lv_aload_n hx hb dL_law_273 rfl (lv_at hl 1 rfl) ?_
            refine lv_iload_n hx hb dL_law_274 rfl (lv_at hl 0 rfl) ?_
            refine lv_iconst (v := 2) hx hb dL_law_275 (by decide) ?_
            refine lv_iadd hx hb dL_law_276 ?_
            refine lv_topi (fun x30 (e30 : x30 = i + 2) => ?_)
            try have t30 : x30.toInt = i.toInt + 2 := tadd e30 rfl kp2 (by omega)
            have hin : vp_in x30 Lx := tin rfl (by omega)
            refine va_sld hx hb hX hbl hbA hW.2.2.1 hin dL_law_277 ?_
            refine lv_as x27 (by rw [e27, e26, e30]) ?_
            refine ci2_ C (WB_R hW) (runV (x := g.2.2.1 13) (As := [.int x25, .int x27]) (rest := []) (T := (((hv J [42] [] u28.1), L, (hv I [] [(6, 3)] u28.2), P, E, N), sgM g)) C (WB_R hW) (c_X12_boost_t l g (hv J [42] [] u28.1) L (hv I [] [(6, 3)] u28.2) P E N H.size x25 x27 hwm) mi_X12_boost tw_1261 (recv_ (T := (((hv J [42] [] u28.1), L, (hv I [] [(6, 3)] u28.2), P, E, N), sgM g)) C (WB_R hW) (mm_ rfl) rfl rfl) ⟨rfl, rfl, Nat.le_of_ble_eq_true rfl, Nat.le_of_ble_eq_true rfl⟩ rfl hl.1 rfl (Nat.le_of_ble_eq_true rfl) dL_law_278 ⟨by show 1000 + 10 * k + 0 + 0 ≤ 600000; omega, by show 200000 + 20100 * k + 0 + 0 ≤ 7302250; omega⟩) (fun r31 u31 H locs hp31 hB hk hS => ?_)
            have hW : WB g A s.heap H locs ((hv (hv J [42] [] u28.1) [100, 103] [(13, 49)] u31), L, (hv I [] [(6, 3)] u28.2), P, E, N) ((sgX g ++ dy) ++ sgM g) := joinR hW hB hk hS (frsub C (WB_R hW)) (fun x hx => cel_x (hv_x rfl rfl (notm hW x hx)))
            obtain ⟨hc31, hf31_0⟩ : ((r31.toInt = (-1) ∧ (¬ (0 ≤ x25.toInt ∧ x25.toInt < (J 13 32).toInt)) ∧ u31 103 = J 103) ∨ (r31.toInt = (-4) ∧ (0 ≤ x25.toInt ∧ x25.toInt < (J 13 32).toInt ∧ x27.toInt < 0) ∧ u31 103 = J 103) ∨ (r31.toInt = (-6) ∧ (0 ≤ x25.toInt ∧ x25.toInt < (J 13 32).toInt ∧ 99 < x27.toInt) ∧ u31 103 = J 103) ∨ (r31 = J 103 x25.toNatClampNeg ∧ (0 ≤ x25.toInt ∧ x25.toInt < (J 13 32).toInt ∧ 0 ≤ x27.toInt ∧ x27.toInt ≤ 99) ∧ u31 103 = up2 J 103 x25.toNatClampNeg x27 103)) ∧ ((u31 13 49 = J 13 49 ∧ u31 103 = J 103) ∨ u31 13 49 = J 13 49 + 1) := hp31
            refine lv_pop hx hb dL_law_281 rfl ?_
            refine lv_goto (tgt := 1390) hx hb dL_law_282 (by decide) ?_
            obtain ⟨x32, e32⟩ : ∃ y : Int32, y = i + 5 := ⟨_, rfl⟩
            refine lv_iinc (v := x32) (lv' := [(3, .int x32), (0, .ref b), (1, .ref (g.2.2.1 12)), (2, .ref (g.2.2.1 13))]) hx hb dL_law_1390 hl (k := 0) rfl (by rw [e32]; rfl) (by decide) rfl (fun ls hl => ?_)
            try have t32 : x32.toInt = i.toInt + 5 := tadd e32 rfl kp5 (by omega)
            refine lv_goto (tgt := 18) hx hb dL_law_1393 (by decide) ?_
            refine W.widen (k := 1000 + 10 * (k + 1)) (n := 200000 + 20100 * (k + 1)) (by omega) (by omega) ?_
            obtain ⟨hnew23, hnew24, hnew32⟩ := rel_boost k g J I P E N dy r28 x25 u28 x27 r31 u31 hk64 hwf0 hwm0 hnow0 hrl0 hac0 hrel0 hrel1 hrel2 hrel3 hrel4 hrel5 hrel6 hrel7 hrel8 hrel9 hrel10 hrel11 hrel12 hrel13 hrel14 hrel15 hrel16 hrel17 hrel18 hrel19 hrel20 hrel21 hrel22 hrel23 hrel24 hrel25 hrel26 hrel27 hrel28 hrel29 hrel30 hrel31 hrel32 hrel33 hrel34 hc28 hc31 hf31_0
            exact ih (k + 1) x32 (hv (hv J [42] [] u28.1) [100, 103] [(13, 49)] u31) L (hv I [] [(6, 3)] u28.2) P E N dy H locs ls (by omega) (by omega) (by omega) hwf hwm hnow hrl hac hrel0 hrel1 hrel2 hrel3 hrel4 hrel5 hrel6 hrel7 hrel8 hrel9 hrel10 hrel11 hrel12 hrel13 hrel14 hrel15 hrel16 hrel17 hrel18 hrel19 hrel20 hrel21 hrel22 hnew23 hnew24 hrel25 hrel26 hrel27 hrel28 hrel29 hrel30 (tol_s (a := J 13 49) (k := k) hk64 (hf31_0.imp (fun q => q.1) id) hrel31) hnew32 hrel33 hrel34 hW (lv_sub hl [0, 1, 2, 3] rfl)
          · refine lv_tableIn (off := 253) (tgt := 285) hx hb dL_law_32 (Int.not_lt.mpr c6) (Int.not_lt.mpr c6b) (by rw [c6k]; rfl) (by decide) ?_
            refine lv_aload_n hx hb dL_law_285 rfl (lv_at hl 2 rfl) ?_
            refine lv_aload_n hx hb dL_law_286 rfl (lv_at hl 1 rfl) ?_
            refine lv_iload_n hx hb dL_law_287 rfl (lv_at hl 0 rfl) ?_
            refine lv_iconst (v := 1) hx hb dL_law_288 (by decide) ?_
            refine lv_iadd hx hb dL_law_289 ?_
            refine lv_topi (fun x33 (e33 : x33 = i + 1) => ?_)
            try have t33 : x33.toInt = i.toInt + 1 := tadd e33 rfl kp1 (by omega)
            have hin : vp_in x33 Lx := tin rfl (by omega)
            refine va_sld hx hb hX hbl hbA hW.2.2.1 hin dL_law_290 ?_
            refine lv_topi (fun x34 (e34 : x34 = xs x33.toNatClampNeg) => ?_)
            refine ci2_ C (WB_L hW) (runV (x := g.2.2.1 12) (As := [.int x34]) (rest := []) (T := ((J, L, I, P, E, N), sgX g ++ dy)) C (WB_L hW) (c_X11_weather l g J L I P E N dy H.size x34 hwf) mi_X11_weather tw_493 (recv_ (T := ((J, L, I, P, E, N), sgX g ++ dy)) C (WB_L hW) (mx_ rfl) rfl rfl) ⟨rfl, rfl, Nat.le_of_ble_eq_true rfl, Nat.le_of_ble_eq_true rfl⟩ rfl hl.1 rfl (Nat.le_of_ble_eq_true rfl) dL_law_291 ⟨by show 1000 + 10 * k + 0 ≤ 600000; omega, by show 200000 + 20100 * k + 0 ≤ 7302250; omega⟩) (fun r35 u35 H locs hp35 hB hk hS => ?_)
            have hW : WB g A s.heap H locs ((hv J [42] [(4, 4)] u35), L, I, P, E, N) ((sgX g ++ dy) ++ sgM g) := joinL hW hB hk hS (frsub C (WB_L hW)) (okM hW (fun r h => hv_m (J := J) (R := [42]) (F := [(4, 4)]) rfl rfl h) (fun r h => rfl))
            have hc35 : ((r35.toInt = (-4) ∧ (x34.toInt < 0) ∧ u35 4 4 = J 4 4) ∨ (r35.toInt = (-6) ∧ (20 < x34.toInt) ∧ u35 4 4 = J 4 4) ∨ (r35 = J 4 4 ∧ (0 ≤ x34.toInt ∧ x34.toInt ≤ 20) ∧ u35 4 4 = x34)) := hp35
            refine lv_pop hx hb dL_law_294 rfl ?_
            refine lv_aload_n hx hb dL_law_295 rfl (lv_at hl 3 rfl) ?_
            refine lv_aload_n hx hb dL_law_296 rfl (lv_at hl 1 rfl) ?_
            refine lv_iload_n hx hb dL_law_297 rfl (lv_at hl 0 rfl) ?_
            refine lv_iconst (v := 1) hx hb dL_law_298 (by decide) ?_
            refine lv_iadd hx hb dL_law_299 ?_
            refine lv_topi (fun x36 (e36 : x36 = i + 1) => ?_)
            try have t36 : x36.toInt = i.toInt + 1 := tadd e36 rfl kp1 (by omega)
            have hin : vp_in x36 Lx := tin rfl (by omega)
            refine va_sld hx hb hX hbl hbA hW.2.2.1 hin dL_law_300 ?_
            refine lv_as x34 (by rw [e34, e33, e36]) ?_
            refine ci2_ C (WB_R hW) (runV (x := g.2.2.1 13) (As := [.int x34]) (rest := []) (T := (((hv J [42] [(4, 4)] u35), L, I, P, E, N), sgM g)) C (WB_R hW) (c_X12_weather l g (hv J [42] [(4, 4)] u35) L I P E N H.size x34 hwm) mi_X12_weather tw_1265 (recv_ (T := (((hv J [42] [(4, 4)] u35), L, I, P, E, N), sgM g)) C (WB_R hW) (mm_ rfl) rfl rfl) ⟨rfl, rfl, Nat.le_of_ble_eq_true rfl, Nat.le_of_ble_eq_true rfl⟩ rfl hl.1 rfl (Nat.le_of_ble_eq_true rfl) dL_law_301 ⟨by show 1000 + 10 * k + 0 + 0 ≤ 600000; omega, by show 200000 + 20100 * k + 0 + 0 ≤ 7302250; omega⟩) (fun r37 u37 H locs hp37 hB hk hS => ?_)
            have hW : WB g A s.heap H locs ((hv (hv J [42] [(4, 4)] u35) [100] [(13, 33)] u37), L, I, P, E, N) ((sgX g ++ dy) ++ sgM g) := joinR hW hB hk hS (frsub C (WB_R hW)) (fun x hx => cel_x (hv_x rfl rfl (notm hW x hx)))
            have hc37 : ((r37.toInt = (-4) ∧ (x34.toInt < 0) ∧ u37 13 33 = J 13 33) ∨ (r37.toInt = (-6) ∧ (20 < x34.toInt) ∧ u37 13 33 = J 13 33) ∨ (r37 = J 13 33 ∧ (0 ≤ x34.toInt ∧ x34.toInt ≤ 20) ∧ u37 13 33 = x34)) := hp37
            refine lv_pop hx hb dL_law_304 rfl ?_
            refine lv_goto (tgt := 1390) hx hb dL_law_305 (by decide) ?_
            obtain ⟨x38, e38⟩ : ∃ y : Int32, y = i + 5 := ⟨_, rfl⟩
            refine lv_iinc (v := x38) (lv' := [(3, .int x38), (0, .ref b), (1, .ref (g.2.2.1 12)), (2, .ref (g.2.2.1 13))]) hx hb dL_law_1390 hl (k := 0) rfl (by rw [e38]; rfl) (by decide) rfl (fun ls hl => ?_)
            try have t38 : x38.toInt = i.toInt + 5 := tadd e38 rfl kp5 (by omega)
            refine lv_goto (tgt := 18) hx hb dL_law_1393 (by decide) ?_
            refine W.widen (k := 1000 + 10 * (k + 1)) (n := 200000 + 20100 * (k + 1)) (by omega) (by omega) ?_
            obtain hnew1 := rel_weather k g J I P E N dy r35 x34 u35 r37 u37 hk64 hwf0 hwm0 hnow0 hrl0 hac0 hrel0 hrel1 hrel2 hrel3 hrel4 hrel5 hrel6 hrel7 hrel8 hrel9 hrel10 hrel11 hrel12 hrel13 hrel14 hrel15 hrel16 hrel17 hrel18 hrel19 hrel20 hrel21 hrel22 hrel23 hrel24 hrel25 hrel26 hrel27 hrel28 hrel29 hrel30 hrel31 hrel32 hrel33 hrel34 hc35 hc37
            exact ih (k + 1) x38 (hv (hv J [42] [(4, 4)] u35) [100] [(13, 33)] u37) L I P E N dy H locs ls (by omega) (by omega) (by omega) hwf hwm hnow hrl hac hrel0 hnew1 hrel2 hrel3 hrel4 hrel5 hrel6 hrel7 hrel8 hrel9 hrel10 hrel11 hrel12 hrel13 hrel14 hrel15 hrel16 hrel17 hrel18 hrel19 hrel20 hrel21 hrel22 hrel23 hrel24 hrel25 hrel26 hrel27 hrel28 hrel29 hrel30 (tol_s (a := J 13 49) (k := k) hk64 (Or.inl rfl) hrel31) hrel32 hrel33 hrel34 hW (lv_sub hl [0, 1, 2, 3] rfl)
          · refine lv_tableIn (off := 276) (tgt := 308) hx hb dL_law_32 (Int.not_lt.mpr c6) (Int.not_lt.mpr c6b) (by rw [c6k]; rfl) (by decide) ?_
            refine lv_aload_n hx hb dL_law_308 rfl (lv_at hl 2 rfl) ?_
            refine lv_aload_n hx hb dL_law_309 rfl (lv_at hl 1 rfl) ?_
            refine lv_iload_n hx hb dL_law_310 rfl (lv_at hl 0 rfl) ?_
            refine lv_iconst (v := 1) hx hb dL_law_311 (by decide) ?_
            refine lv_iadd hx hb dL_law_312 ?_
            refine lv_topi (fun x39 (e39 : x39 = i + 1) => ?_)
            try have t39 : x39.toInt = i.toInt + 1 := tadd e39 rfl kp1 (by omega)
            have hin : vp_in x39 Lx := tin rfl (by omega)
            refine va_sld hx hb hX hbl hbA hW.2.2.1 hin dL_law_313 ?_
            refine lv_topi (fun x40 (e40 : x40 = xs x39.toNatClampNeg) => ?_)
            refine lv_aload_n hx hb dL_law_314 rfl (lv_at hl 1 rfl) ?_
            refine lv_iload_n hx hb dL_law_315 rfl (lv_at hl 0 rfl) ?_
            refine lv_iconst (v := 2) hx hb dL_law_316 (by decide) ?_
            refine lv_iadd hx hb dL_law_317 ?_
            refine lv_topi (fun x41 (e41 : x41 = i + 2) => ?_)
            try have t41 : x41.toInt = i.toInt + 2 := tadd e41 rfl kp2 (by omega)
            have hin : vp_in x41 Lx := tin rfl (by omega)
            refine va_sld hx hb hX hbl hbA hW.2.2.1 hin dL_law_318 ?_
            refine lv_topi (fun x42 (e42 : x42 = xs x41.toNatClampNeg) => ?_)
            refine lv_aload_n hx hb dL_law_319 rfl (lv_at hl 1 rfl) ?_
            refine lv_iload_n hx hb dL_law_320 rfl (lv_at hl 0 rfl) ?_
            refine lv_iconst (v := 3) hx hb dL_law_321 (by decide) ?_
            refine lv_iadd hx hb dL_law_322 ?_
            refine lv_topi (fun x43 (e43 : x43 = i + 3) => ?_)
            try have t43 : x43.toInt = i.toInt + 3 := tadd e43 rfl kp3 (by omega)
            have hin : vp_in x43 Lx := tin rfl (by omega)
            refine va_sld hx hb hX hbl hbA hW.2.2.1 hin dL_law_323 ?_
            refine lv_topi (fun x44 (e44 : x44 = xs x43.toNatClampNeg) => ?_)
            refine ci2_ C (WB_L hW) (runV (x := g.2.2.1 12) (As := [.int x40, .int x42, .int x44]) (rest := []) (T := ((J, L, I, P, E, N), sgX g ++ dy)) C (WB_L hW) (c_X11_cut_p_p l g J L I P E N dy H.size x40 x42 x44 hwf hrel21) mi_X11_cut tw_497 (recv_ (T := ((J, L, I, P, E, N), sgX g ++ dy)) C (WB_L hW) (mx_ rfl) rfl rfl) ⟨rfl, rfl, Nat.le_of_ble_eq_true rfl, Nat.le_of_ble_eq_true rfl⟩ rfl hl.1 rfl (Nat.le_of_ble_eq_true rfl) dL_law_324 ⟨by show 1000 + 10 * k + 10 ≤ 600000; omega, by show 200000 + 20100 * k + 20100 ≤ 7302250; omega⟩) (fun r45 u45 H locs hp45 hB hk hS => ?_)
            have hW : WB g A s.heap H locs ((hv J [42] [(21, 0), (21, 2)] u45.1), L, (hv I [1] [] u45.2.1), (hv P [1, 31] [] u45.2.2.1), (hv1 E [21] u45.2.2.2.1), u45.2.2.2.2.1) ((sgX g ++ u45.2.2.2.2.2) ++ sgM g) := joinL hW hB hk hS (frsub C (WB_L hW)) (okM hW (fun r h => hv_m (J := J) (R := [42]) (F := [(21, 0), (21, 2)]) rfl rfl h) (fun r h => rfl))
            obtain ⟨hc45, hwf, hdd45, hf45_0⟩ := hp45
            refine lv_pop hx hb dL_law_327 rfl ?_
            refine lv_aload_n hx hb dL_law_328 rfl (lv_at hl 3 rfl) ?_
            refine lv_aload_n hx hb dL_law_329 rfl (lv_at hl 1 rfl) ?_
            refine lv_iload_n hx hb dL_law_330 rfl (lv_at hl 0 rfl) ?_
            refine lv_iconst (v := 1) hx hb dL_law_331 (by decide) ?_
            refine lv_iadd hx hb dL_law_332 ?_
            refine lv_topi (fun x46 (e46 : x46 = i + 1) => ?_)
            try have t46 : x46.toInt = i.toInt + 1 := tadd e46 rfl kp1 (by omega)
            have hin : vp_in x46 Lx := tin rfl (by omega)
            refine va_sld hx hb hX hbl hbA hW.2.2.1 hin dL_law_333 ?_
            refine lv_as x40 (by rw [e40, e39, e46]) ?_
            refine lv_aload_n hx hb dL_law_334 rfl (lv_at hl 1 rfl) ?_
            refine lv_iload_n hx hb dL_law_335 rfl (lv_at hl 0 rfl) ?_
            refine lv_iconst (v := 2) hx hb dL_law_336 (by decide) ?_
            refine lv_iadd hx hb dL_law_337 ?_
            refine lv_topi (fun x47 (e47 : x47 = i + 2) => ?_)
            try have t47 : x47.toInt = i.toInt + 2 := tadd e47 rfl kp2 (by omega)
            have hin : vp_in x47 Lx := tin rfl (by omega)
            refine va_sld hx hb hX hbl hbA hW.2.2.1 hin dL_law_338 ?_
            refine lv_as x42 (by rw [e42, e41, e47]) ?_
            refine lv_aload_n hx hb dL_law_339 rfl (lv_at hl 1 rfl) ?_
            refine lv_iload_n hx hb dL_law_340 rfl (lv_at hl 0 rfl) ?_
            refine lv_iconst (v := 3) hx hb dL_law_341 (by decide) ?_
            refine lv_iadd hx hb dL_law_342 ?_
            refine lv_topi (fun x48 (e48 : x48 = i + 3) => ?_)
            try have t48 : x48.toInt = i.toInt + 3 := tadd e48 rfl kp3 (by omega)
            have hin : vp_in x48 Lx := tin rfl (by omega)
            refine va_sld hx hb hX hbl hbA hW.2.2.1 hin dL_law_343 ?_
            refine lv_as x44 (by rw [e44, e43, e48]) ?_
            refine ci2_ C (WB_R hW) (runV (x := g.2.2.1 13) (As := [.int x40, .int x42, .int x44]) (rest := []) (T := (((hv J [42] [(21, 0), (21, 2)] u45.1), L, (hv I [1] [] u45.2.1), (hv P [1, 31] [] u45.2.2.1), (hv1 E [21] u45.2.2.2.1), u45.2.2.2.2.1), sgM g)) C (WB_R hW) (c_X12_cut_e l g (hv J [42] [(21, 0), (21, 2)] u45.1) L (hv I [1] [] u45.2.1) (hv P [1, 31] [] u45.2.2.1) (hv1 E [21] u45.2.2.2.1) u45.2.2.2.2.1 H.size x40 x42 x44 hwm) mi_X12_cut tw_1269 (recv_ (T := (((hv J [42] [(21, 0), (21, 2)] u45.1), L, (hv I [1] [] u45.2.1), (hv P [1, 31] [] u45.2.2.1), (hv1 E [21] u45.2.2.2.1), u45.2.2.2.2.1), sgM g)) C (WB_R hW) (mm_ rfl) rfl rfl) ⟨rfl, rfl, Nat.le_of_ble_eq_true rfl, Nat.le_of_ble_eq_true rfl⟩ rfl hl.1 rfl (Nat.le_of_ble_eq_true rfl) dL_law_344 ⟨by show 1000 + 10 * k + 10 + 0 ≤ 600000; omega, by show 200000 + 20100 * k + 20100 + 0 ≤ 7302250; omega⟩) (fun r49 u49 H locs hp49 hB hk hS => ?_)
            have hW : WB g A s.heap H locs ((hv (hv J [42] [(21, 0), (21, 2)] u45.1) [100, 105, 106, 107] [(13, 34)] u49), L, (hv I [1] [] u45.2.1), (hv P [1, 31] [] u45.2.2.1), (hv1 E [21] u45.2.2.2.1), u45.2.2.2.2.1) ((sgX g ++ u45.2.2.2.2.2) ++ sgM g) := joinR hW hB hk hS (frsub C (WB_R hW)) (fun x hx => cel_x (hv_x rfl rfl (notm hW x hx)))
            obtain ⟨hwm, hc49⟩ : WM (hv (hv J [42] [(21, 0), (21, 2)] u45.1) [100, 105, 106, 107] [(13, 34)] u49) ∧ ((r49.toInt = (-1) ∧ (¬ (1 ≤ x40.toInt ∧ x40.toInt < (J 13 32).toInt)) ∧ u49 13 34 = J 13 34 ∧ u49 105 = J 105 ∧ u49 106 = J 106 ∧ u49 107 = J 107) ∨ (r49.toInt = (-4) ∧ (1 ≤ x40.toInt ∧ x40.toInt < (J 13 32).toInt ∧ (x42.toInt < (J 13 31).toInt ∨ x44.toInt < x42.toInt)) ∧ u49 13 34 = J 13 34 ∧ u49 105 = J 105 ∧ u49 106 = J 106 ∧ u49 107 = J 107) ∨ (r49.toInt = (-6) ∧ (1 ≤ x40.toInt ∧ x40.toInt < (J 13 32).toInt ∧ (J 13 31).toInt ≤ x42.toInt ∧ x42.toInt ≤ x44.toInt ∧ (9999 < x44.toInt ∨ (J 13 34).toInt = 40)) ∧ u49 13 34 = J 13 34 ∧ u49 105 = J 105 ∧ u49 106 = J 106 ∧ u49 107 = J 107) ∨ (r49.toInt = (J 13 34).toInt + 1 ∧ (1 ≤ x40.toInt ∧ x40.toInt < (J 13 32).toInt ∧ (J 13 31).toInt ≤ x42.toInt ∧ x42.toInt ≤ x44.toInt ∧ x44.toInt ≤ 9999 ∧ (J 13 34).toInt ≤ 39) ∧ (u49 13 34).toInt = (J 13 34).toInt + 1 ∧ u49 105 = up2 J 105 (J 13 34).toNatClampNeg x40 105 ∧ u49 106 = up2 J 106 (J 13 34).toNatClampNeg x42 106 ∧ u49 107 = up2 J 107 (J 13 34).toNatClampNeg x44 107)) := hp49
            refine lv_pop hx hb dL_law_347 rfl ?_
            refine lv_goto (tgt := 1390) hx hb dL_law_348 (by decide) ?_
            obtain ⟨x50, e50⟩ : ∃ y : Int32, y = i + 5 := ⟨_, rfl⟩
            refine lv_iinc (v := x50) (lv' := [(3, .int x50), (0, .ref b), (1, .ref (g.2.2.1 12)), (2, .ref (g.2.2.1 13))]) hx hb dL_law_1390 hl (k := 0) rfl (by rw [e50]; rfl) (by decide) rfl (fun ls hl => ?_)
            try have t50 : x50.toInt = i.toInt + 5 := tadd e50 rfl kp5 (by omega)
            refine lv_goto (tgt := 18) hx hb dL_law_1393 (by decide) ?_
            refine W.widen (k := 1000 + 10 * (k + 1)) (n := 200000 + 20100 * (k + 1)) (by omega) (by omega) ?_
            obtain ⟨hnew16, hnew19, hnew27, hnew32, hnew33⟩ := rel_cut k g J I P E N dy r45 x40 u45 x42 x44 r49 u49 hk64 hwf0 hwm0 hnow0 hrl0 hac0 hrel0 hrel1 hrel2 hrel3 hrel4 hrel5 hrel6 hrel7 hrel8 hrel9 hrel10 hrel11 hrel12 hrel13 hrel14 hrel15 hrel16 hrel17 hrel18 hrel19 hrel20 hrel21 hrel22 hrel23 hrel24 hrel25 hrel26 hrel27 hrel28 hrel29 hrel30 hrel31 hrel32 hrel33 hrel34 hc45 hf45_0 hc49
            exact ih (k + 1) x50 (hv (hv J [42] [(21, 0), (21, 2)] u45.1) [100, 105, 106, 107] [(13, 34)] u49) L (hv I [1] [] u45.2.1) (hv P [1, 31] [] u45.2.2.1) (hv1 E [21] u45.2.2.2.1) u45.2.2.2.2.1 u45.2.2.2.2.2 H locs ls (by omega) (by omega) (by omega) hwf hwm hnow hrl hac hrel0 hrel1 hrel2 hrel3 hrel4 hrel5 hrel6 hrel7 hrel8 hrel9 hrel10 hrel11 hrel12 hrel13 hrel14 hrel15 hnew16 hrel17 hrel18 hnew19 hrel20 hrel21 hrel22 hrel23 hrel24 hrel25 hrel26 hnew27 hrel28 hrel29 hrel30 (tol_s (a := J 13 49) (k := k) hk64 (Or.inl rfl) hrel31) hnew32 hnew33 hrel34 hW (lv_sub hl [0, 1, 2, 3] rfl)
          · refine lv_tableIn (off := 319) (tgt := 351) hx hb dL_law_32 (Int.not_lt.mpr c6) (Int.not_lt.mpr c6b) (by rw [c6k]; rfl) (by decide) ?_
            refine lv_aload_n hx hb dL_law_351 rfl (lv_at hl 2 rfl) ?_
            refine lv_aload_n hx hb dL_law_352 rfl (lv_at hl 1 rfl) ?_
            refine lv_iload_n hx hb dL_law_353 rfl (lv_at hl 0 rfl) ?_
            refine lv_iconst (v := 1) hx hb dL_law_354 (by decide) ?_
            refine lv_iadd hx hb dL_law_355 ?_
            refine lv_topi (fun x51 (e51 : x51 = i + 1) => ?_)
            try have t51 : x51.toInt = i.toInt + 1 := tadd e51 rfl kp1 (by omega)
            have hin : vp_in x51 Lx := tin rfl (by omega)
            refine va_sld hx hb hX hbl hbA hW.2.2.1 hin dL_law_356 ?_
            refine lv_topi (fun x52 (e52 : x52 = xs x51.toNatClampNeg) => ?_)
            refine lv_aload_n hx hb dL_law_357 rfl (lv_at hl 1 rfl) ?_
            refine lv_iload_n hx hb dL_law_358 rfl (lv_at hl 0 rfl) ?_
            refine lv_iconst (v := 2) hx hb dL_law_359 (by decide) ?_
            refine lv_iadd hx hb dL_law_360 ?_
            refine lv_topi (fun x53 (e53 : x53 = i + 2) => ?_)
            try have t53 : x53.toInt = i.toInt + 2 := tadd e53 rfl kp2 (by omega)
            have hin : vp_in x53 Lx := tin rfl (by omega)
            refine va_sld hx hb hX hbl hbA hW.2.2.1 hin dL_law_361 ?_
            refine lv_topi (fun x54 (e54 : x54 = xs x53.toNatClampNeg) => ?_)
            refine ci2_ C (WB_L hW) (runV (x := g.2.2.1 12) (As := [.int x52, .int x54]) (rest := []) (T := ((J, L, I, P, E, N), sgX g ++ dy)) C (WB_L hW) (c_X11_loud_e l g J L I P E N dy H.size x52 x54 hwf hrel21 hrel20 hrel27) mi_X11_loud tw_520 (recv_ (T := ((J, L, I, P, E, N), sgX g ++ dy)) C (WB_L hW) (mx_ rfl) rfl rfl) ⟨rfl, rfl, Nat.le_of_ble_eq_true rfl, Nat.le_of_ble_eq_true rfl⟩ rfl hl.1 rfl (Nat.le_of_ble_eq_true rfl) dL_law_362 ⟨by show 1000 + 10 * k + 0 ≤ 600000; omega, by show 200000 + 20100 * k + 0 ≤ 7302250; omega⟩) (fun r55 u55 H locs hp55 hB hk hS => ?_)
            have hW : WB g A s.heap H locs ((hv J [42] [] u55.1), L, (hv I [] [(6, 6), (6, 7)] u55.2), P, E, N) ((sgX g ++ dy) ++ sgM g) := joinL hW hB hk hS (frsub C (WB_L hW)) (okM hW (fun r h => hv_m (J := J) (R := [42]) (F := []) rfl rfl h) (fun r h => rfl))
            have hc55 : ((r55.toInt = (-1) ∧ (¬ (0 ≤ x52.toInt ∧ x52.toInt < (J 20 2).toInt))) ∨ (r55.toInt = (-4) ∧ (0 ≤ x52.toInt ∧ x52.toInt < (J 20 2).toInt ∧ x54.toInt < 1)) ∨ (r55.toInt = (-6) ∧ (0 ≤ x52.toInt ∧ x52.toInt < (J 20 2).toInt ∧ 1 ≤ x54.toInt ∧ 999 < x54.toInt)) ∨ (r55 = r55 ∧ (0 ≤ x52.toInt ∧ x52.toInt < (J 20 2).toInt ∧ 1 ≤ x54.toInt ∧ x54.toInt ≤ 999) ∧ (∃ x : Nat → Int32, SND x (J 101) (fun k => I 6 1 (elt E P 20 k)) (fun k => I 6 3 (elt E P 20 k)) (fun k => I 6 5 (elt E P 20 k)) (CUTP (J 105) (J 106) (J 107) (J 21 2).toInt (J 3 1).toInt) x54 (J 4 4) (J 20 2).toInt ∧ r55 = x x52.toNatClampNeg))) := hp55
            refine lv_pop hx hb dL_law_365 rfl ?_
            refine lv_aload_n hx hb dL_law_366 rfl (lv_at hl 3 rfl) ?_
            refine lv_aload_n hx hb dL_law_367 rfl (lv_at hl 1 rfl) ?_
            refine lv_iload_n hx hb dL_law_368 rfl (lv_at hl 0 rfl) ?_
            refine lv_iconst (v := 1) hx hb dL_law_369 (by decide) ?_
            refine lv_iadd hx hb dL_law_370 ?_
            refine lv_topi (fun x56 (e56 : x56 = i + 1) => ?_)
            try have t56 : x56.toInt = i.toInt + 1 := tadd e56 rfl kp1 (by omega)
            have hin : vp_in x56 Lx := tin rfl (by omega)
            refine va_sld hx hb hX hbl hbA hW.2.2.1 hin dL_law_371 ?_
            refine lv_as x52 (by rw [e52, e51, e56]) ?_
            refine lv_aload_n hx hb dL_law_372 rfl (lv_at hl 1 rfl) ?_
            refine lv_iload_n hx hb dL_law_373 rfl (lv_at hl 0 rfl) ?_
            refine lv_iconst (v := 2) hx hb dL_law_374 (by decide) ?_
            refine lv_iadd hx hb dL_law_375 ?_
            refine lv_topi (fun x57 (e57 : x57 = i + 2) => ?_)
            try have t57 : x57.toInt = i.toInt + 2 := tadd e57 rfl kp2 (by omega)
            have hin : vp_in x57 Lx := tin rfl (by omega)
            refine va_sld hx hb hX hbl hbA hW.2.2.1 hin dL_law_376 ?_
            refine lv_as x54 (by rw [e54, e53, e57]) ?_
            refine ci2_ C (WB_R hW) (runV (x := g.2.2.1 13) (As := [.int x52, .int x54]) (rest := []) (T := (((hv J [42] [] u55.1), L, (hv I [] [(6, 6), (6, 7)] u55.2), P, E, N), sgM g)) C (WB_R hW) (c_X12_loud_e l g (hv J [42] [] u55.1) L (hv I [] [(6, 6), (6, 7)] u55.2) P E N H.size x52 x54 hwm) mi_X12_loud tw_1273 (recv_ (T := (((hv J [42] [] u55.1), L, (hv I [] [(6, 6), (6, 7)] u55.2), P, E, N), sgM g)) C (WB_R hW) (mm_ rfl) rfl rfl) ⟨rfl, rfl, Nat.le_of_ble_eq_true rfl, Nat.le_of_ble_eq_true rfl⟩ rfl hl.1 rfl (Nat.le_of_ble_eq_true rfl) dL_law_377 ⟨by show 1000 + 10 * k + 0 + 0 ≤ 600000; omega, by show 200000 + 20100 * k + 0 + 0 ≤ 7302250; omega⟩) (fun r58 u58 H locs hp58 hB hk hS => ?_)
            have hW : WB g A s.heap H locs ((hv (hv J [42] [] u55.1) [100, 146] [] u58), L, (hv I [] [(6, 6), (6, 7)] u55.2), P, E, N) ((sgX g ++ dy) ++ sgM g) := joinR hW hB hk hS (frsub C (WB_R hW)) (fun x hx => cel_x (hv_x rfl rfl (notm hW x hx)))
            refine lv_pop hx hb dL_law_380 rfl ?_
            refine lv_goto (tgt := 1390) hx hb dL_law_381 (by decide) ?_
            obtain ⟨x59, e59⟩ : ∃ y : Int32, y = i + 5 := ⟨_, rfl⟩
            refine lv_iinc (v := x59) (lv' := [(3, .int x59), (0, .ref b), (1, .ref (g.2.2.1 12)), (2, .ref (g.2.2.1 13))]) hx hb dL_law_1390 hl (k := 0) rfl (by rw [e59]; rfl) (by decide) rfl (fun ls hl => ?_)
            try have t59 : x59.toInt = i.toInt + 5 := tadd e59 rfl kp5 (by omega)
            refine lv_goto (tgt := 18) hx hb dL_law_1393 (by decide) ?_
            refine W.widen (k := 1000 + 10 * (k + 1)) (n := 200000 + 20100 * (k + 1)) (by omega) (by omega) ?_
            exact ih (k + 1) x59 (hv (hv J [42] [] u55.1) [100, 146] [] u58) L (hv I [] [(6, 6), (6, 7)] u55.2) P E N dy H locs ls (by omega) (by omega) (by omega) hwf hwm hnow hrl hac hrel0 hrel1 hrel2 hrel3 hrel4 hrel5 hrel6 hrel7 hrel8 hrel9 hrel10 hrel11 hrel12 hrel13 hrel14 hrel15 hrel16 hrel17 hrel18 hrel19 hrel20 hrel21 hrel22 hrel23 hrel24 hrel25 hrel26 hrel27 hrel28 hrel29 hrel30 (tol_s (a := J 13 49) (k := k) hk64 (Or.inl rfl) hrel31) hrel32 hrel33 hrel34 hW (lv_sub hl [0, 1, 2, 3] rfl)
          · refine lv_tableIn (off := 352) (tgt := 384) hx hb dL_law_32 (Int.not_lt.mpr c6) (Int.not_lt.mpr c6b) (by rw [c6k]; rfl) (by decide) ?_
            refine lv_aload_n hx hb dL_law_384 rfl (lv_at hl 2 rfl) ?_
            refine lv_aload_n hx hb dL_law_385 rfl (lv_at hl 1 rfl) ?_
            refine lv_iload_n hx hb dL_law_386 rfl (lv_at hl 0 rfl) ?_
            refine lv_iconst (v := 1) hx hb dL_law_387 (by decide) ?_
            refine lv_iadd hx hb dL_law_388 ?_
            refine lv_topi (fun x60 (e60 : x60 = i + 1) => ?_)
            try have t60 : x60.toInt = i.toInt + 1 := tadd e60 rfl kp1 (by omega)
            have hin : vp_in x60 Lx := tin rfl (by omega)
            refine va_sld hx hb hX hbl hbA hW.2.2.1 hin dL_law_389 ?_
            refine lv_topi (fun x61 (e61 : x61 = xs x60.toNatClampNeg) => ?_)
            refine lv_aload_n hx hb dL_law_390 rfl (lv_at hl 1 rfl) ?_
            refine lv_iload_n hx hb dL_law_391 rfl (lv_at hl 0 rfl) ?_
            refine lv_iconst (v := 2) hx hb dL_law_392 (by decide) ?_
            refine lv_iadd hx hb dL_law_393 ?_
            refine lv_topi (fun x62 (e62 : x62 = i + 2) => ?_)
            try have t62 : x62.toInt = i.toInt + 2 := tadd e62 rfl kp2 (by omega)
            have hin : vp_in x62 Lx := tin rfl (by omega)
            refine va_sld hx hb hX hbl hbA hW.2.2.1 hin dL_law_394 ?_
            refine lv_topi (fun x63 (e63 : x63 = xs x62.toNatClampNeg) => ?_)
            refine lv_aload_n hx hb dL_law_395 rfl (lv_at hl 1 rfl) ?_
            refine lv_iload_n hx hb dL_law_396 rfl (lv_at hl 0 rfl) ?_
            refine lv_iconst (v := 3) hx hb dL_law_397 (by decide) ?_
            refine lv_iadd hx hb dL_law_398 ?_
            refine lv_topi (fun x64 (e64 : x64 = i + 3) => ?_)
            try have t64 : x64.toInt = i.toInt + 3 := tadd e64 rfl kp3 (by omega)
            have hin : vp_in x64 Lx := tin rfl (by omega)
            refine va_sld hx hb hX hbl hbA hW.2.2.1 hin dL_law_399 ?_
            refine lv_topi (fun x65 (e65 : x65 = xs x64.toNatClampNeg) => ?_)
            refine lv_aload_n hx hb dL_law_400 rfl (lv_at hl 1 rfl) ?_
            refine lv_iload_n hx hb dL_law_401 rfl (lv_at hl 0 rfl) ?_
            refine lv_iconst (v := 4) hx hb dL_law_402 (by decide) ?_
            refine lv_iadd hx hb dL_law_403 ?_
            refine lv_topi (fun x66 (e66 : x66 = i + 4) => ?_)
            try have t66 : x66.toInt = i.toInt + 4 := tadd e66 rfl kp4 (by omega)
            have hin : vp_in x66 Lx := tin rfl (by omega)
            refine va_sld hx hb hX hbl hbA hW.2.2.1 hin dL_law_404 ?_
            refine lv_topi (fun x67 (e67 : x67 = xs x66.toNatClampNeg) => ?_)
            refine ci2_ C (WB_L hW) (runV (x := g.2.2.1 12) (As := [.int x61, .int x63, .int x65, .int x67]) (rest := []) (T := ((J, L, I, P, E, N), sgX g ++ dy)) C (WB_L hW) (c_X11_home_p_p l g J L I P E N dy H.size x61 x63 x65 x67 hwf) mi_X11_home tw_537 (recv_ (T := ((J, L, I, P, E, N), sgX g ++ dy)) C (WB_L hW) (mx_ rfl) rfl rfl) ⟨rfl, rfl, Nat.le_of_ble_eq_true rfl, Nat.le_of_ble_eq_true rfl⟩ rfl hl.1 rfl (Nat.le_of_ble_eq_true rfl) dL_law_405 ⟨by show 1000 + 10 * k + 10 ≤ 600000; omega, by show 200000 + 20100 * k + 20100 ≤ 7302250; omega⟩) (fun r68 u68 H locs hp68 hB hk hS => ?_)
            have hW : WB g A s.heap H locs ((hv J [42] [(22, 0), (22, 2)] u68.1), L, (hv I [2] [] u68.2.1), (hv P [2, 32] [] u68.2.2.1), (hv1 E [22] u68.2.2.2.1), u68.2.2.2.2.1) ((sgX g ++ u68.2.2.2.2.2) ++ sgM g) := joinL hW hB hk hS (frsub C (WB_L hW)) (okM hW (fun r h => hv_m (J := J) (R := [42]) (F := [(22, 0), (22, 2)]) rfl rfl h) (fun r h => rfl))
            obtain ⟨hc68, hwf, hdd68, hf68_0⟩ := hp68
            refine lv_pop hx hb dL_law_408 rfl ?_
            refine lv_aload_n hx hb dL_law_409 rfl (lv_at hl 3 rfl) ?_
            refine lv_aload_n hx hb dL_law_410 rfl (lv_at hl 1 rfl) ?_
            refine lv_iload_n hx hb dL_law_411 rfl (lv_at hl 0 rfl) ?_
            refine lv_iconst (v := 1) hx hb dL_law_412 (by decide) ?_
            refine lv_iadd hx hb dL_law_413 ?_
            refine lv_topi (fun x69 (e69 : x69 = i + 1) => ?_)
            try have t69 : x69.toInt = i.toInt + 1 := tadd e69 rfl kp1 (by omega)
            have hin : vp_in x69 Lx := tin rfl (by omega)
            refine va_sld hx hb hX hbl hbA hW.2.2.1 hin dL_law_414 ?_
            refine lv_as x61 (by rw [e61, e60, e69]) ?_
            refine lv_aload_n hx hb dL_law_415 rfl (lv_at hl 1 rfl) ?_
            refine lv_iload_n hx hb dL_law_416 rfl (lv_at hl 0 rfl) ?_
            refine lv_iconst (v := 2) hx hb dL_law_417 (by decide) ?_
            refine lv_iadd hx hb dL_law_418 ?_
            refine lv_topi (fun x70 (e70 : x70 = i + 2) => ?_)
            try have t70 : x70.toInt = i.toInt + 2 := tadd e70 rfl kp2 (by omega)
            have hin : vp_in x70 Lx := tin rfl (by omega)
            refine va_sld hx hb hX hbl hbA hW.2.2.1 hin dL_law_419 ?_
            refine lv_as x63 (by rw [e63, e62, e70]) ?_
            refine lv_aload_n hx hb dL_law_420 rfl (lv_at hl 1 rfl) ?_
            refine lv_iload_n hx hb dL_law_421 rfl (lv_at hl 0 rfl) ?_
            refine lv_iconst (v := 3) hx hb dL_law_422 (by decide) ?_
            refine lv_iadd hx hb dL_law_423 ?_
            refine lv_topi (fun x71 (e71 : x71 = i + 3) => ?_)
            try have t71 : x71.toInt = i.toInt + 3 := tadd e71 rfl kp3 (by omega)
            have hin : vp_in x71 Lx := tin rfl (by omega)
            refine va_sld hx hb hX hbl hbA hW.2.2.1 hin dL_law_424 ?_
            refine lv_as x65 (by rw [e65, e64, e71]) ?_
            refine lv_aload_n hx hb dL_law_425 rfl (lv_at hl 1 rfl) ?_
            refine lv_iload_n hx hb dL_law_426 rfl (lv_at hl 0 rfl) ?_
            refine lv_iconst (v := 4) hx hb dL_law_427 (by decide) ?_
            refine lv_iadd hx hb dL_law_428 ?_
            refine lv_topi (fun x72 (e72 : x72 = i + 4) => ?_)
            try have t72 : x72.toInt = i.toInt + 4 := tadd e72 rfl kp4 (by omega)
            have hin : vp_in x72 Lx := tin rfl (by omega)
            refine va_sld hx hb hX hbl hbA hW.2.2.1 hin dL_law_429 ?_
            refine lv_as x67 (by rw [e67, e66, e72]) ?_
            refine ci2_ C (WB_R hW) (runV (x := g.2.2.1 13) (As := [.int x61, .int x63, .int x65, .int x67]) (rest := []) (T := (((hv J [42] [(22, 0), (22, 2)] u68.1), L, (hv I [2] [] u68.2.1), (hv P [2, 32] [] u68.2.2.1), (hv1 E [22] u68.2.2.2.1), u68.2.2.2.2.1), sgM g)) C (WB_R hW) (c_X12_home_t l g (hv J [42] [(22, 0), (22, 2)] u68.1) L (hv I [2] [] u68.2.1) (hv P [2, 32] [] u68.2.2.1) (hv1 E [22] u68.2.2.2.1) u68.2.2.2.2.1 H.size x61 x63 x65 x67 hwm) mi_X12_home tw_1285 (recv_ (T := (((hv J [42] [(22, 0), (22, 2)] u68.1), L, (hv I [2] [] u68.2.1), (hv P [2, 32] [] u68.2.2.1), (hv1 E [22] u68.2.2.2.1), u68.2.2.2.2.1), sgM g)) C (WB_R hW) (mm_ rfl) rfl rfl) ⟨rfl, rfl, Nat.le_of_ble_eq_true rfl, Nat.le_of_ble_eq_true rfl⟩ rfl hl.1 rfl (Nat.le_of_ble_eq_true rfl) dL_law_430 ⟨by show 1000 + 10 * k + 10 + 0 ≤ 600000; omega, by show 200000 + 20100 * k + 20100 + 0 ≤ 7302250; omega⟩) (fun r73 u73 H locs hp73 hB hk hS => ?_)
            have hW : WB g A s.heap H locs ((hv (hv J [42] [(22, 0), (22, 2)] u68.1) [100, 108, 109, 110, 111] [(13, 35), (13, 49)] u73), L, (hv I [2] [] u68.2.1), (hv P [2, 32] [] u68.2.2.1), (hv1 E [22] u68.2.2.2.1), u68.2.2.2.2.1) ((sgX g ++ u68.2.2.2.2.2) ++ sgM g) := joinR hW hB hk hS (frsub C (WB_R hW)) (fun x hx => cel_x (hv_x rfl rfl (notm hW x hx)))
            obtain ⟨hwm, hc73, hf73_0⟩ : WM (hv (hv J [42] [(22, 0), (22, 2)] u68.1) [100, 108, 109, 110, 111] [(13, 35), (13, 49)] u73) ∧ ((r73.toInt = (-1) ∧ (¬ (0 ≤ x61.toInt ∧ x61.toInt < (J 13 32).toInt)) ∧ u73 13 35 = J 13 35 ∧ u73 108 = J 108 ∧ u73 109 = J 109 ∧ u73 110 = J 110 ∧ u73 111 = J 111) ∨ (r73.toInt = (-4) ∧ (0 ≤ x61.toInt ∧ x61.toInt < (J 13 32).toInt ∧ (x63.toInt < 1 ∨ x65.toInt < 0 ∨ x67.toInt < 0)) ∧ u73 13 35 = J 13 35 ∧ u73 108 = J 108 ∧ u73 109 = J 109 ∧ u73 110 = J 110 ∧ u73 111 = J 111) ∨ (r73.toInt = (-6) ∧ (0 ≤ x61.toInt ∧ x61.toInt < (J 13 32).toInt ∧ 1 ≤ x63.toInt ∧ 0 ≤ x65.toInt ∧ 0 ≤ x67.toInt ∧ (9 < x63.toInt ∨ 16777215 < x65.toInt ∨ 16777215 < x67.toInt ∨ (J 13 35).toInt = 40)) ∧ u73 13 35 = J 13 35 ∧ u73 108 = J 108 ∧ u73 109 = J 109 ∧ u73 110 = J 110 ∧ u73 111 = J 111) ∨ (r73.toInt = (J 13 35).toInt ∧ (0 ≤ x61.toInt ∧ x61.toInt < (J 13 32).toInt ∧ 1 ≤ x63.toInt ∧ 0 ≤ x65.toInt ∧ 0 ≤ x67.toInt ∧ x63.toInt ≤ 9 ∧ x65.toInt ≤ 16777215 ∧ x67.toInt ≤ 16777215 ∧ (J 13 35).toInt ≤ 39) ∧ (u73 13 35).toInt = (J 13 35).toInt + 1 ∧ u73 108 = up2 J 108 (J 13 35).toNatClampNeg x61 108 ∧ u73 109 = up2 J 109 (J 13 35).toNatClampNeg x63 109 ∧ u73 110 = up2 J 110 (J 13 35).toNatClampNeg x65 110 ∧ u73 111 = up2 J 111 (J 13 35).toNatClampNeg x67 111)) ∧ ((u73 13 49 = J 13 49 ∧ u73 13 35 = J 13 35 ∧ u73 108 = J 108 ∧ u73 109 = J 109 ∧ u73 110 = J 110 ∧ u73 111 = J 111) ∨ u73 13 49 = J 13 49 + 1) := hp73
            refine lv_pop hx hb dL_law_433 rfl ?_
            refine lv_goto (tgt := 1390) hx hb dL_law_434 (by decide) ?_
            obtain ⟨x74, e74⟩ : ∃ y : Int32, y = i + 5 := ⟨_, rfl⟩
            refine lv_iinc (v := x74) (lv' := [(3, .int x74), (0, .ref b), (1, .ref (g.2.2.1 12)), (2, .ref (g.2.2.1 13))]) hx hb dL_law_1390 hl (k := 0) rfl (by rw [e74]; rfl) (by decide) rfl (fun ls hl => ?_)
            try have t74 : x74.toInt = i.toInt + 5 := tadd e74 rfl kp5 (by omega)
            refine lv_goto (tgt := 18) hx hb dL_law_1393 (by decide) ?_
            refine W.widen (k := 1000 + 10 * (k + 1)) (n := 200000 + 20100 * (k + 1)) (by omega) (by omega) ?_
            obtain ⟨hnew12, hnew16, hnew28, hnew32, hnew33⟩ := rel_home k g J I P E N dy r68 x61 u68 x63 x65 x67 r73 u73 hk64 hwf0 hwm0 hnow0 hrl0 hac0 hrel0 hrel1 hrel2 hrel3 hrel4 hrel5 hrel6 hrel7 hrel8 hrel9 hrel10 hrel11 hrel12 hrel13 hrel14 hrel15 hrel16 hrel17 hrel18 hrel19 hrel20 hrel21 hrel22 hrel23 hrel24 hrel25 hrel26 hrel27 hrel28 hrel29 hrel30 hrel31 hrel32 hrel33 hrel34 hc68 hf68_0 hc73 hf73_0
            exact ih (k + 1) x74 (hv (hv J [42] [(22, 0), (22, 2)] u68.1) [100, 108, 109, 110, 111] [(13, 35), (13, 49)] u73) L (hv I [2] [] u68.2.1) (hv P [2, 32] [] u68.2.2.1) (hv1 E [22] u68.2.2.2.1) u68.2.2.2.2.1 u68.2.2.2.2.2 H locs ls (by omega) (by omega) (by omega) hwf hwm hnow hrl hac hrel0 hrel1 hrel2 hrel3 hrel4 hrel5 hrel6 hrel7 hrel8 hrel9 hrel10 hrel11 hnew12 hrel13 hrel14 hrel15 hnew16 hrel17 hrel18 hrel19 hrel20 hrel21 hrel22 hrel23 hrel24 hrel25 hrel26 hrel27 hnew28 hrel29 hrel30 (tol_s (a := J 13 49) (k := k) hk64 (hf73_0.imp (fun q => q.1) id) hrel31) hnew32 hnew33 hrel34 hW (lv_sub hl [0, 1, 2, 3] rfl)
          · refine lv_tableIn (off := 405) (tgt := 437) hx hb dL_law_32 (Int.not_lt.mpr c6) (Int.not_lt.mpr c6b) (by rw [c6k]; rfl) (by decide) ?_
            refine lv_aload_n hx hb dL_law_437 rfl (lv_at hl 2 rfl) ?_
            refine lv_aload_n hx hb dL_law_438 rfl (lv_at hl 1 rfl) ?_
            refine lv_iload_n hx hb dL_law_439 rfl (lv_at hl 0 rfl) ?_
            refine lv_iconst (v := 1) hx hb dL_law_440 (by decide) ?_
            refine lv_iadd hx hb dL_law_441 ?_
            refine lv_topi (fun x75 (e75 : x75 = i + 1) => ?_)
            try have t75 : x75.toInt = i.toInt + 1 := tadd e75 rfl kp1 (by omega)
            have hin : vp_in x75 Lx := tin rfl (by omega)
            refine va_sld hx hb hX hbl hbA hW.2.2.1 hin dL_law_442 ?_
            refine lv_topi (fun x76 (e76 : x76 = xs x75.toNatClampNeg) => ?_)
            refine ci2_ C (WB_L hW) (runV (x := g.2.2.1 12) (As := [.int x76]) (rest := []) (T := ((J, L, I, P, E, N), sgX g ++ dy)) C (WB_L hW) (c_X11_least l g J L I P E N dy H.size x76 hwf) mi_X11_least tw_568 (recv_ (T := ((J, L, I, P, E, N), sgX g ++ dy)) C (WB_L hW) (mx_ rfl) rfl rfl) ⟨rfl, rfl, Nat.le_of_ble_eq_true rfl, Nat.le_of_ble_eq_true rfl⟩ rfl hl.1 rfl (Nat.le_of_ble_eq_true rfl) dL_law_443 ⟨by show 1000 + 10 * k + 0 ≤ 600000; omega, by show 200000 + 20100 * k + 0 ≤ 7302250; omega⟩) (fun r77 u77 H locs hp77 hB hk hS => ?_)
            have hW : WB g A s.heap H locs ((hv J [42] [(4, 5)] u77), L, I, P, E, N) ((sgX g ++ dy) ++ sgM g) := joinL hW hB hk hS (frsub C (WB_L hW)) (okM hW (fun r h => hv_m (J := J) (R := [42]) (F := [(4, 5)]) rfl rfl h) (fun r h => rfl))
            have hc77 : ((r77.toInt = (-4) ∧ (x76.toInt < 1) ∧ u77 4 5 = J 4 5) ∨ (r77.toInt = (-6) ∧ (99 < x76.toInt) ∧ u77 4 5 = J 4 5) ∨ (r77 = J 4 5 ∧ (1 ≤ x76.toInt ∧ x76.toInt ≤ 99) ∧ u77 4 5 = x76)) := hp77
            refine lv_pop hx hb dL_law_446 rfl ?_
            refine lv_aload_n hx hb dL_law_447 rfl (lv_at hl 3 rfl) ?_
            refine lv_aload_n hx hb dL_law_448 rfl (lv_at hl 1 rfl) ?_
            refine lv_iload_n hx hb dL_law_449 rfl (lv_at hl 0 rfl) ?_
            refine lv_iconst (v := 1) hx hb dL_law_450 (by decide) ?_
            refine lv_iadd hx hb dL_law_451 ?_
            refine lv_topi (fun x78 (e78 : x78 = i + 1) => ?_)
            try have t78 : x78.toInt = i.toInt + 1 := tadd e78 rfl kp1 (by omega)
            have hin : vp_in x78 Lx := tin rfl (by omega)
            refine va_sld hx hb hX hbl hbA hW.2.2.1 hin dL_law_452 ?_
            refine lv_as x76 (by rw [e76, e75, e78]) ?_
            refine ci2_ C (WB_R hW) (runV (x := g.2.2.1 13) (As := [.int x76]) (rest := []) (T := (((hv J [42] [(4, 5)] u77), L, I, P, E, N), sgM g)) C (WB_R hW) (c_X12_least_t l g (hv J [42] [(4, 5)] u77) L I P E N H.size x76 hwm) mi_X12_least tw_1290 (recv_ (T := (((hv J [42] [(4, 5)] u77), L, I, P, E, N), sgM g)) C (WB_R hW) (mm_ rfl) rfl rfl) ⟨rfl, rfl, Nat.le_of_ble_eq_true rfl, Nat.le_of_ble_eq_true rfl⟩ rfl hl.1 rfl (Nat.le_of_ble_eq_true rfl) dL_law_453 ⟨by show 1000 + 10 * k + 0 + 0 ≤ 600000; omega, by show 200000 + 20100 * k + 0 + 0 ≤ 7302250; omega⟩) (fun r79 u79 H locs hp79 hB hk hS => ?_)
            have hW : WB g A s.heap H locs ((hv (hv J [42] [(4, 5)] u77) [100] [(13, 36), (13, 49)] u79), L, I, P, E, N) ((sgX g ++ dy) ++ sgM g) := joinR hW hB hk hS (frsub C (WB_R hW)) (fun x hx => cel_x (hv_x rfl rfl (notm hW x hx)))
            obtain ⟨hc79, hf79_0⟩ : ((r79.toInt = (-4) ∧ (x76.toInt < 1) ∧ u79 13 36 = J 13 36) ∨ (r79.toInt = (-6) ∧ (99 < x76.toInt) ∧ u79 13 36 = J 13 36) ∨ (r79 = J 13 36 ∧ (1 ≤ x76.toInt ∧ x76.toInt ≤ 99) ∧ u79 13 36 = x76)) ∧ ((u79 13 49 = J 13 49 ∧ u79 13 36 = J 13 36) ∨ u79 13 49 = J 13 49 + 1) := hp79
            refine lv_pop hx hb dL_law_456 rfl ?_
            refine lv_goto (tgt := 1390) hx hb dL_law_457 (by decide) ?_
            obtain ⟨x80, e80⟩ : ∃ y : Int32, y = i + 5 := ⟨_, rfl⟩
            refine lv_iinc (v := x80) (lv' := [(3, .int x80), (0, .ref b), (1, .ref (g.2.2.1 12)), (2, .ref (g.2.2.1 13))]) hx hb dL_law_1390 hl (k := 0) rfl (by rw [e80]; rfl) (by decide) rfl (fun ls hl => ?_)
            try have t80 : x80.toInt = i.toInt + 5 := tadd e80 rfl kp5 (by omega)
            refine lv_goto (tgt := 18) hx hb dL_law_1393 (by decide) ?_
            refine W.widen (k := 1000 + 10 * (k + 1)) (n := 200000 + 20100 * (k + 1)) (by omega) (by omega) ?_
            obtain ⟨hnew29, hnew30, hnew32⟩ := rel_least k g J I P E N dy r77 x76 u77 r79 u79 hk64 hwf0 hwm0 hnow0 hrl0 hac0 hrel0 hrel1 hrel2 hrel3 hrel4 hrel5 hrel6 hrel7 hrel8 hrel9 hrel10 hrel11 hrel12 hrel13 hrel14 hrel15 hrel16 hrel17 hrel18 hrel19 hrel20 hrel21 hrel22 hrel23 hrel24 hrel25 hrel26 hrel27 hrel28 hrel29 hrel30 hrel31 hrel32 hrel33 hrel34 hc77 hc79 hf79_0
            exact ih (k + 1) x80 (hv (hv J [42] [(4, 5)] u77) [100] [(13, 36), (13, 49)] u79) L I P E N dy H locs ls (by omega) (by omega) (by omega) hwf hwm hnow hrl hac hrel0 hrel1 hrel2 hrel3 hrel4 hrel5 hrel6 hrel7 hrel8 hrel9 hrel10 hrel11 hrel12 hrel13 hrel14 hrel15 hrel16 hrel17 hrel18 hrel19 hrel20 hrel21 hrel22 hrel23 hrel24 hrel25 hrel26 hrel27 hrel28 hnew29 hnew30 (tol_s (a := J 13 49) (k := k) hk64 (hf79_0.imp (fun q => q.1) id) hrel31) hnew32 hrel33 hrel34 hW (lv_sub hl [0, 1, 2, 3] rfl)
          · refine lv_tableIn (off := 428) (tgt := 460) hx hb dL_law_32 (Int.not_lt.mpr c6) (Int.not_lt.mpr c6b) (by rw [c6k]; rfl) (by decide) ?_
            refine lv_aload_n hx hb dL_law_460 rfl (lv_at hl 2 rfl) ?_
            refine lv_aload_n hx hb dL_law_461 rfl (lv_at hl 1 rfl) ?_
            refine lv_iload_n hx hb dL_law_462 rfl (lv_at hl 0 rfl) ?_
            refine lv_iconst (v := 1) hx hb dL_law_463 (by decide) ?_
            refine lv_iadd hx hb dL_law_464 ?_
            refine lv_topi (fun x81 (e81 : x81 = i + 1) => ?_)
            try have t81 : x81.toInt = i.toInt + 1 := tadd e81 rfl kp1 (by omega)
            have hin : vp_in x81 Lx := tin rfl (by omega)
            refine va_sld hx hb hX hbl hbA hW.2.2.1 hin dL_law_465 ?_
            refine lv_topi (fun x82 (e82 : x82 = xs x81.toNatClampNeg) => ?_)
            refine lv_aload_n hx hb dL_law_466 rfl (lv_at hl 1 rfl) ?_
            refine lv_iload_n hx hb dL_law_467 rfl (lv_at hl 0 rfl) ?_
            refine lv_iconst (v := 2) hx hb dL_law_468 (by decide) ?_
            refine lv_iadd hx hb dL_law_469 ?_
            refine lv_topi (fun x83 (e83 : x83 = i + 2) => ?_)
            try have t83 : x83.toInt = i.toInt + 2 := tadd e83 rfl kp2 (by omega)
            have hin : vp_in x83 Lx := tin rfl (by omega)
            refine va_sld hx hb hX hbl hbA hW.2.2.1 hin dL_law_470 ?_
            refine lv_topi (fun x84 (e84 : x84 = xs x83.toNatClampNeg) => ?_)
            refine ci2_ C (WB_L hW) (runV (x := g.2.2.1 12) (As := [.int x82, .int x84]) (rest := []) (T := ((J, L, I, P, E, N), sgX g ++ dy)) C (WB_L hW) (c_X11_hears_e l g J L I P E N dy H.size x82 x84 hwf hrel21 hrel20 hrel27 hrel28) mi_X11_hears tw_572 (recv_ (T := ((J, L, I, P, E, N), sgX g ++ dy)) C (WB_L hW) (mx_ rfl) rfl rfl) ⟨rfl, rfl, Nat.le_of_ble_eq_true rfl, Nat.le_of_ble_eq_true rfl⟩ rfl hl.1 rfl (Nat.le_of_ble_eq_true rfl) dL_law_471 ⟨by show 1000 + 10 * k + 0 ≤ 600000; omega, by show 200000 + 20100 * k + 0 ≤ 7302250; omega⟩) (fun r85 u85 H locs hp85 hB hk hS => ?_)
            have hW : WB g A s.heap H locs ((hv J [42] [] u85.1), L, (hv I [] [(6, 6), (6, 7)] u85.2), P, E, N) ((sgX g ++ dy) ++ sgM g) := joinL hW hB hk hS (frsub C (WB_L hW)) (okM hW (fun r h => hv_m (J := J) (R := [42]) (F := []) rfl rfl h) (fun r h => rfl))
            have hc85 : ((r85.toInt = (-1) ∧ (¬ (0 ≤ x82.toInt ∧ x82.toInt < (J 22 2).toInt))) ∨ (r85.toInt = (-4) ∧ (0 ≤ x82.toInt ∧ x82.toInt < (J 22 2).toInt ∧ x84.toInt < 1)) ∨ (r85.toInt = (-6) ∧ (0 ≤ x82.toInt ∧ x82.toInt < (J 22 2).toInt ∧ 1 ≤ x84.toInt ∧ 999 < x84.toInt)) ∨ (r85.toInt = 1 ∧ (0 ≤ x82.toInt ∧ x82.toInt < (J 22 2).toInt ∧ 1 ≤ x84.toInt ∧ x84.toInt ≤ 999) ∧ (∃ x : Nat → Int32, SND x (J 101) (fun k => I 6 1 (elt E P 20 k)) (fun k => I 6 3 (elt E P 20 k)) (fun k => I 6 5 (elt E P 20 k)) (CUTP (J 105) (J 106) (J 107) (J 21 2).toInt (J 3 1).toInt) x84 (J 4 4) (J 20 2).toInt ∧ (J 4 5 * J 109 x82.toNatClampNeg).toInt ≤ (x (J 108 x82.toNatClampNeg).toNatClampNeg).toInt)) ∨ (r85.toInt = 0 ∧ (0 ≤ x82.toInt ∧ x82.toInt < (J 22 2).toInt ∧ 1 ≤ x84.toInt ∧ x84.toInt ≤ 999) ∧ (∃ x : Nat → Int32, SND x (J 101) (fun k => I 6 1 (elt E P 20 k)) (fun k => I 6 3 (elt E P 20 k)) (fun k => I 6 5 (elt E P 20 k)) (CUTP (J 105) (J 106) (J 107) (J 21 2).toInt (J 3 1).toInt) x84 (J 4 4) (J 20 2).toInt ∧ ¬ (J 4 5 * J 109 x82.toNatClampNeg).toInt ≤ (x (J 108 x82.toNatClampNeg).toNatClampNeg).toInt))) := hp85
            refine lv_pop hx hb dL_law_474 rfl ?_
            refine lv_aload_n hx hb dL_law_475 rfl (lv_at hl 3 rfl) ?_
            refine lv_aload_n hx hb dL_law_476 rfl (lv_at hl 1 rfl) ?_
            refine lv_iload_n hx hb dL_law_477 rfl (lv_at hl 0 rfl) ?_
            refine lv_iconst (v := 1) hx hb dL_law_478 (by decide) ?_
            refine lv_iadd hx hb dL_law_479 ?_
            refine lv_topi (fun x86 (e86 : x86 = i + 1) => ?_)
            try have t86 : x86.toInt = i.toInt + 1 := tadd e86 rfl kp1 (by omega)
            have hin : vp_in x86 Lx := tin rfl (by omega)
            refine va_sld hx hb hX hbl hbA hW.2.2.1 hin dL_law_480 ?_
            refine lv_as x82 (by rw [e82, e81, e86]) ?_
            refine lv_aload_n hx hb dL_law_481 rfl (lv_at hl 1 rfl) ?_
            refine lv_iload_n hx hb dL_law_482 rfl (lv_at hl 0 rfl) ?_
            refine lv_iconst (v := 2) hx hb dL_law_483 (by decide) ?_
            refine lv_iadd hx hb dL_law_484 ?_
            refine lv_topi (fun x87 (e87 : x87 = i + 2) => ?_)
            try have t87 : x87.toInt = i.toInt + 2 := tadd e87 rfl kp2 (by omega)
            have hin : vp_in x87 Lx := tin rfl (by omega)
            refine va_sld hx hb hX hbl hbA hW.2.2.1 hin dL_law_485 ?_
            refine lv_as x84 (by rw [e84, e83, e87]) ?_
            refine ci2_ C (WB_R hW) (runV (x := g.2.2.1 13) (As := [.int x82, .int x84]) (rest := []) (T := (((hv J [42] [] u85.1), L, (hv I [] [(6, 6), (6, 7)] u85.2), P, E, N), sgM g)) C (WB_R hW) (c_X12_hears_e l g (hv J [42] [] u85.1) L (hv I [] [(6, 6), (6, 7)] u85.2) P E N H.size x82 x84 hwm) mi_X12_hears tw_1294 (recv_ (T := (((hv J [42] [] u85.1), L, (hv I [] [(6, 6), (6, 7)] u85.2), P, E, N), sgM g)) C (WB_R hW) (mm_ rfl) rfl rfl) ⟨rfl, rfl, Nat.le_of_ble_eq_true rfl, Nat.le_of_ble_eq_true rfl⟩ rfl hl.1 rfl (Nat.le_of_ble_eq_true rfl) dL_law_486 ⟨by show 1000 + 10 * k + 0 + 0 ≤ 600000; omega, by show 200000 + 20100 * k + 0 + 0 ≤ 7302250; omega⟩) (fun r88 u88 H locs hp88 hB hk hS => ?_)
            have hW : WB g A s.heap H locs ((hv (hv J [42] [] u85.1) [100, 146] [] u88), L, (hv I [] [(6, 6), (6, 7)] u85.2), P, E, N) ((sgX g ++ dy) ++ sgM g) := joinR hW hB hk hS (frsub C (WB_R hW)) (fun x hx => cel_x (hv_x rfl rfl (notm hW x hx)))
            refine lv_pop hx hb dL_law_489 rfl ?_
            refine lv_goto (tgt := 1390) hx hb dL_law_490 (by decide) ?_
            obtain ⟨x89, e89⟩ : ∃ y : Int32, y = i + 5 := ⟨_, rfl⟩
            refine lv_iinc (v := x89) (lv' := [(3, .int x89), (0, .ref b), (1, .ref (g.2.2.1 12)), (2, .ref (g.2.2.1 13))]) hx hb dL_law_1390 hl (k := 0) rfl (by rw [e89]; rfl) (by decide) rfl (fun ls hl => ?_)
            try have t89 : x89.toInt = i.toInt + 5 := tadd e89 rfl kp5 (by omega)
            refine lv_goto (tgt := 18) hx hb dL_law_1393 (by decide) ?_
            refine W.widen (k := 1000 + 10 * (k + 1)) (n := 200000 + 20100 * (k + 1)) (by omega) (by omega) ?_
            exact ih (k + 1) x89 (hv (hv J [42] [] u85.1) [100, 146] [] u88) L (hv I [] [(6, 6), (6, 7)] u85.2) P E N dy H locs ls (by omega) (by omega) (by omega) hwf hwm hnow hrl hac hrel0 hrel1 hrel2 hrel3 hrel4 hrel5 hrel6 hrel7 hrel8 hrel9 hrel10 hrel11 hrel12 hrel13 hrel14 hrel15 hrel16 hrel17 hrel18 hrel19 hrel20 hrel21 hrel22 hrel23 hrel24 hrel25 hrel26 hrel27 hrel28 hrel29 hrel30 (tol_s (a := J 13 49) (k := k) hk64 (Or.inl rfl) hrel31) hrel32 hrel33 hrel34 hW (lv_sub hl [0, 1, 2, 3] rfl)
          · refine lv_tableIn (off := 461) (tgt := 493) hx hb dL_law_32 (Int.not_lt.mpr c6) (Int.not_lt.mpr c6b) (by rw [c6k]; rfl) (by decide) ?_
            refine lv_aload_n hx hb dL_law_493 rfl (lv_at hl 2 rfl) ?_
            refine lv_aload_n hx hb dL_law_494 rfl (lv_at hl 1 rfl) ?_
            refine lv_iload_n hx hb dL_law_495 rfl (lv_at hl 0 rfl) ?_
            refine lv_iconst (v := 1) hx hb dL_law_496 (by decide) ?_
            refine lv_iadd hx hb dL_law_497 ?_
            refine lv_topi (fun x90 (e90 : x90 = i + 1) => ?_)
            try have t90 : x90.toInt = i.toInt + 1 := tadd e90 rfl kp1 (by omega)
            have hin : vp_in x90 Lx := tin rfl (by omega)
            refine va_sld hx hb hX hbl hbA hW.2.2.1 hin dL_law_498 ?_
            refine lv_topi (fun x91 (e91 : x91 = xs x90.toNatClampNeg) => ?_)
            refine ci2_ C (WB_L hW) (runV (x := g.2.2.1 12) (As := [.int x91]) (rest := []) (T := ((J, L, I, P, E, N), sgX g ++ dy)) C (WB_L hW) (c_X11_reader_e l g J L I P E N dy H.size x91 hwf) mi_X11_reader tw_585 (recv_ (T := ((J, L, I, P, E, N), sgX g ++ dy)) C (WB_L hW) (mx_ rfl) rfl rfl) ⟨rfl, rfl, Nat.le_of_ble_eq_true rfl, Nat.le_of_ble_eq_true rfl⟩ rfl hl.1 rfl (Nat.le_of_ble_eq_true rfl) dL_law_499 ⟨by show 1000 + 10 * k + 10 ≤ 600000; omega, by show 200000 + 20100 * k + 20100 ≤ 7302250; omega⟩) (fun r92 u92 H locs hp92 hB hk hS => ?_)
            have hW : WB g A s.heap H locs ((hv J [42] [(24, 0), (24, 2)] u92.1), L, (hv I [7] [] u92.2.1), (hv P [7, 34] [] u92.2.2.1), (hv1 E [24] u92.2.2.2.1), u92.2.2.2.2.1) ((sgX g ++ u92.2.2.2.2.2) ++ sgM g) := joinL hW hB hk hS (frsub C (WB_L hW)) (okM hW (fun r h => hv_m (J := J) (R := [42]) (F := [(24, 0), (24, 2)]) rfl rfl h) (fun r h => rfl))
            obtain ⟨hc92, hwf, hdd92, hf92_0⟩ := hp92
            refine lv_pop hx hb dL_law_502 rfl ?_
            refine lv_aload_n hx hb dL_law_503 rfl (lv_at hl 3 rfl) ?_
            refine lv_aload_n hx hb dL_law_504 rfl (lv_at hl 1 rfl) ?_
            refine lv_iload_n hx hb dL_law_505 rfl (lv_at hl 0 rfl) ?_
            refine lv_iconst (v := 1) hx hb dL_law_506 (by decide) ?_
            refine lv_iadd hx hb dL_law_507 ?_
            refine lv_topi (fun x93 (e93 : x93 = i + 1) => ?_)
            try have t93 : x93.toInt = i.toInt + 1 := tadd e93 rfl kp1 (by omega)
            have hin : vp_in x93 Lx := tin rfl (by omega)
            refine va_sld hx hb hX hbl hbA hW.2.2.1 hin dL_law_508 ?_
            refine lv_as x91 (by rw [e91, e90, e93]) ?_
            refine ci2_ C (WB_R hW) (runV (x := g.2.2.1 13) (As := [.int x91]) (rest := []) (T := (((hv J [42] [(24, 0), (24, 2)] u92.1), L, (hv I [7] [] u92.2.1), (hv P [7, 34] [] u92.2.2.1), (hv1 E [24] u92.2.2.2.1), u92.2.2.2.2.1), sgM g)) C (WB_R hW) (c_X12_reader_e l g (hv J [42] [(24, 0), (24, 2)] u92.1) L (hv I [7] [] u92.2.1) (hv P [7, 34] [] u92.2.2.1) (hv1 E [24] u92.2.2.2.1) u92.2.2.2.2.1 H.size x91 hwm) mi_X12_reader tw_1306 (recv_ (T := (((hv J [42] [(24, 0), (24, 2)] u92.1), L, (hv I [7] [] u92.2.1), (hv P [7, 34] [] u92.2.2.1), (hv1 E [24] u92.2.2.2.1), u92.2.2.2.2.1), sgM g)) C (WB_R hW) (mm_ rfl) rfl rfl) ⟨rfl, rfl, Nat.le_of_ble_eq_true rfl, Nat.le_of_ble_eq_true rfl⟩ rfl hl.1 rfl (Nat.le_of_ble_eq_true rfl) dL_law_509 ⟨by show 1000 + 10 * k + 10 + 0 ≤ 600000; omega, by show 200000 + 20100 * k + 20100 + 0 ≤ 7302250; omega⟩) (fun r94 u94 H locs hp94 hB hk hS => ?_)
            have hW : WB g A s.heap H locs ((hv (hv J [42] [(24, 0), (24, 2)] u92.1) [100, 113, 114] [(13, 37)] u94), L, (hv I [7] [] u92.2.1), (hv P [7, 34] [] u92.2.2.1), (hv1 E [24] u92.2.2.2.1), u92.2.2.2.2.1) ((sgX g ++ u92.2.2.2.2.2) ++ sgM g) := joinR hW hB hk hS (frsub C (WB_R hW)) (fun x hx => cel_x (hv_x rfl rfl (notm hW x hx)))
            obtain ⟨hwm, hc94⟩ : WM (hv (hv J [42] [(24, 0), (24, 2)] u92.1) [100, 113, 114] [(13, 37)] u94) ∧ ((r94.toInt = (-4) ∧ (x91.toInt < 1) ∧ u94 13 37 = J 13 37 ∧ u94 113 = J 113 ∧ u94 114 = J 114) ∨ (r94.toInt = (-6) ∧ (1 ≤ x91.toInt ∧ (999 < x91.toInt ∨ (J 13 37).toInt = 8)) ∧ u94 13 37 = J 13 37 ∧ u94 113 = J 113 ∧ u94 114 = J 114) ∨ (r94.toInt = (J 13 37).toInt ∧ (1 ≤ x91.toInt ∧ x91.toInt ≤ 999 ∧ (J 13 37).toInt ≤ 7) ∧ (u94 13 37).toInt = (J 13 37).toInt + 1 ∧ u94 113 = up2 J 113 (J 13 37).toNatClampNeg x91 113 ∧ u94 114 = up2 J 114 (J 13 37).toNatClampNeg (-9) 114)) := hp94
            refine lv_pop hx hb dL_law_512 rfl ?_
            refine lv_goto (tgt := 1390) hx hb dL_law_513 (by decide) ?_
            obtain ⟨x95, e95⟩ : ∃ y : Int32, y = i + 5 := ⟨_, rfl⟩
            refine lv_iinc (v := x95) (lv' := [(3, .int x95), (0, .ref b), (1, .ref (g.2.2.1 12)), (2, .ref (g.2.2.1 13))]) hx hb dL_law_1390 hl (k := 0) rfl (by rw [e95]; rfl) (by decide) rfl (fun ls hl => ?_)
            try have t95 : x95.toInt = i.toInt + 5 := tadd e95 rfl kp5 (by omega)
            refine lv_goto (tgt := 18) hx hb dL_law_1393 (by decide) ?_
            refine W.widen (k := 1000 + 10 * (k + 1)) (n := 200000 + 20100 * (k + 1)) (by omega) (by omega) ?_
            obtain ⟨hnew5, hnew6, hnew7, hnew8, hnew16, hnew33⟩ := rel_reader k g J I P E N dy r92 x91 u92 r94 u94 hk64 hwf0 hwm0 hnow0 hrl0 hac0 hrel0 hrel1 hrel2 hrel3 hrel4 hrel5 hrel6 hrel7 hrel8 hrel9 hrel10 hrel11 hrel12 hrel13 hrel14 hrel15 hrel16 hrel17 hrel18 hrel19 hrel20 hrel21 hrel22 hrel23 hrel24 hrel25 hrel26 hrel27 hrel28 hrel29 hrel30 hrel31 hrel32 hrel33 hrel34 hc92 hf92_0 hc94
            exact ih (k + 1) x95 (hv (hv J [42] [(24, 0), (24, 2)] u92.1) [100, 113, 114] [(13, 37)] u94) L (hv I [7] [] u92.2.1) (hv P [7, 34] [] u92.2.2.1) (hv1 E [24] u92.2.2.2.1) u92.2.2.2.2.1 u92.2.2.2.2.2 H locs ls (by omega) (by omega) (by omega) hwf hwm hnow hrl hac hrel0 hrel1 hrel2 hrel3 hrel4 hnew5 hnew6 hnew7 hnew8 hrel9 hrel10 hrel11 hrel12 hrel13 hrel14 hrel15 hnew16 hrel17 hrel18 hrel19 hrel20 hrel21 hrel22 hrel23 hrel24 hrel25 hrel26 hrel27 hrel28 hrel29 hrel30 (tol_s (a := J 13 49) (k := k) hk64 (Or.inl rfl) hrel31) hrel32 hnew33 hrel34 hW (lv_sub hl [0, 1, 2, 3] rfl)
          · refine lv_tableIn (off := 484) (tgt := 516) hx hb dL_law_32 (Int.not_lt.mpr c6) (Int.not_lt.mpr c6b) (by rw [c6k]; rfl) (by decide) ?_
            refine lv_aload_n hx hb dL_law_516 rfl (lv_at hl 2 rfl) ?_
            refine lv_aload_n hx hb dL_law_517 rfl (lv_at hl 1 rfl) ?_
            refine lv_iload_n hx hb dL_law_518 rfl (lv_at hl 0 rfl) ?_
            refine lv_iconst (v := 1) hx hb dL_law_519 (by decide) ?_
            refine lv_iadd hx hb dL_law_520 ?_
            refine lv_topi (fun x96 (e96 : x96 = i + 1) => ?_)
            try have t96 : x96.toInt = i.toInt + 1 := tadd e96 rfl kp1 (by omega)
            have hin : vp_in x96 Lx := tin rfl (by omega)
            refine va_sld hx hb hX hbl hbA hW.2.2.1 hin dL_law_521 ?_
            refine lv_topi (fun x97 (e97 : x97 = xs x96.toNatClampNeg) => ?_)
            refine lv_aload_n hx hb dL_law_522 rfl (lv_at hl 1 rfl) ?_
            refine lv_iload_n hx hb dL_law_523 rfl (lv_at hl 0 rfl) ?_
            refine lv_iconst (v := 2) hx hb dL_law_524 (by decide) ?_
            refine lv_iadd hx hb dL_law_525 ?_
            refine lv_topi (fun x98 (e98 : x98 = i + 2) => ?_)
            try have t98 : x98.toInt = i.toInt + 2 := tadd e98 rfl kp2 (by omega)
            have hin : vp_in x98 Lx := tin rfl (by omega)
            refine va_sld hx hb hX hbl hbA hW.2.2.1 hin dL_law_526 ?_
            refine lv_topi (fun x99 (e99 : x99 = xs x98.toNatClampNeg) => ?_)
            refine ci2_ C (WB_L hW) (runV (x := g.2.2.1 12) (As := [.int x97, .int x99]) (rest := []) (T := ((J, L, I, P, E, N), sgX g ++ dy)) C (WB_L hW) (c_X11_rests l g J L I P E N dy H.size x97 x99 hwf) mi_X11_rests tw_606 (recv_ (T := ((J, L, I, P, E, N), sgX g ++ dy)) C (WB_L hW) (mx_ rfl) rfl rfl) ⟨rfl, rfl, Nat.le_of_ble_eq_true rfl, Nat.le_of_ble_eq_true rfl⟩ rfl hl.1 rfl (Nat.le_of_ble_eq_true rfl) dL_law_527 ⟨by show 1000 + 10 * k + 0 ≤ 600000; omega, by show 200000 + 20100 * k + 0 ≤ 7302250; omega⟩) (fun r100 u100 H locs hp100 hB hk hS => ?_)
            have hW : WB g A s.heap H locs ((hv J [42] [(12, 12), (12, 13)] u100), L, I, P, E, N) ((sgX g ++ dy) ++ sgM g) := joinL hW hB hk hS (frsub C (WB_L hW)) (okM hW (fun r h => hv_m (J := J) (R := [42]) (F := [(12, 12), (12, 13)]) rfl rfl h) (fun r h => rfl))
            have hc100 : ((r100.toInt = (-4) ∧ (x97.toInt < 1 ∨ x99.toInt < 0) ∧ u100 12 12 = J 12 12 ∧ u100 12 13 = J 12 13) ∨ (r100.toInt = (-6) ∧ (1 ≤ x97.toInt ∧ 0 ≤ x99.toInt ∧ (240 < x97.toInt ∨ 240 < x99.toInt)) ∧ u100 12 12 = J 12 12 ∧ u100 12 13 = J 12 13) ∨ (r100 = 1000 * J 12 12 + J 12 13 ∧ (1 ≤ x97.toInt ∧ 0 ≤ x99.toInt ∧ x97.toInt ≤ 240 ∧ x99.toInt ≤ 240) ∧ u100 12 12 = x97 ∧ u100 12 13 = x99)) := hp100
            refine lv_pop hx hb dL_law_530 rfl ?_
            refine lv_aload_n hx hb dL_law_531 rfl (lv_at hl 3 rfl) ?_
            refine lv_aload_n hx hb dL_law_532 rfl (lv_at hl 1 rfl) ?_
            refine lv_iload_n hx hb dL_law_533 rfl (lv_at hl 0 rfl) ?_
            refine lv_iconst (v := 1) hx hb dL_law_534 (by decide) ?_
            refine lv_iadd hx hb dL_law_535 ?_
            refine lv_topi (fun x101 (e101 : x101 = i + 1) => ?_)
            try have t101 : x101.toInt = i.toInt + 1 := tadd e101 rfl kp1 (by omega)
            have hin : vp_in x101 Lx := tin rfl (by omega)
            refine va_sld hx hb hX hbl hbA hW.2.2.1 hin dL_law_536 ?_
            refine lv_as x97 (by rw [e97, e96, e101]) ?_
            refine lv_aload_n hx hb dL_law_537 rfl (lv_at hl 1 rfl) ?_
            refine lv_iload_n hx hb dL_law_538 rfl (lv_at hl 0 rfl) ?_
            refine lv_iconst (v := 2) hx hb dL_law_539 (by decide) ?_
            refine lv_iadd hx hb dL_law_540 ?_
            refine lv_topi (fun x102 (e102 : x102 = i + 2) => ?_)
            try have t102 : x102.toInt = i.toInt + 2 := tadd e102 rfl kp2 (by omega)
            have hin : vp_in x102 Lx := tin rfl (by omega)
            refine va_sld hx hb hX hbl hbA hW.2.2.1 hin dL_law_541 ?_
            refine lv_as x99 (by rw [e99, e98, e102]) ?_
            refine ci2_ C (WB_R hW) (runV (x := g.2.2.1 13) (As := [.int x97, .int x99]) (rest := []) (T := (((hv J [42] [(12, 12), (12, 13)] u100), L, I, P, E, N), sgM g)) C (WB_R hW) (c_X12_rests l g (hv J [42] [(12, 12), (12, 13)] u100) L I P E N H.size x97 x99 hwm) mi_X12_rests tw_1310 (recv_ (T := (((hv J [42] [(12, 12), (12, 13)] u100), L, I, P, E, N), sgM g)) C (WB_R hW) (mm_ rfl) rfl rfl) ⟨rfl, rfl, Nat.le_of_ble_eq_true rfl, Nat.le_of_ble_eq_true rfl⟩ rfl hl.1 rfl (Nat.le_of_ble_eq_true rfl) dL_law_542 ⟨by show 1000 + 10 * k + 0 + 0 ≤ 600000; omega, by show 200000 + 20100 * k + 0 + 0 ≤ 7302250; omega⟩) (fun r103 u103 H locs hp103 hB hk hS => ?_)
            have hW : WB g A s.heap H locs ((hv (hv J [42] [(12, 12), (12, 13)] u100) [100] [(13, 38), (13, 39)] u103), L, I, P, E, N) ((sgX g ++ dy) ++ sgM g) := joinR hW hB hk hS (frsub C (WB_R hW)) (fun x hx => cel_x (hv_x rfl rfl (notm hW x hx)))
            have hc103 : ((r103.toInt = (-4) ∧ (x97.toInt < 1 ∨ x99.toInt < 0) ∧ u103 13 38 = J 13 38 ∧ u103 13 39 = J 13 39) ∨ (r103.toInt = (-6) ∧ (1 ≤ x97.toInt ∧ 0 ≤ x99.toInt ∧ (240 < x97.toInt ∨ 240 < x99.toInt)) ∧ u103 13 38 = J 13 38 ∧ u103 13 39 = J 13 39) ∨ (r103 = 1000 * J 13 38 + J 13 39 ∧ (1 ≤ x97.toInt ∧ 0 ≤ x99.toInt ∧ x97.toInt ≤ 240 ∧ x99.toInt ≤ 240) ∧ u103 13 38 = x97 ∧ u103 13 39 = x99)) := hp103
            refine lv_pop hx hb dL_law_545 rfl ?_
            refine lv_goto (tgt := 1390) hx hb dL_law_546 (by decide) ?_
            obtain ⟨x104, e104⟩ : ∃ y : Int32, y = i + 5 := ⟨_, rfl⟩
            refine lv_iinc (v := x104) (lv' := [(3, .int x104), (0, .ref b), (1, .ref (g.2.2.1 12)), (2, .ref (g.2.2.1 13))]) hx hb dL_law_1390 hl (k := 0) rfl (by rw [e104]; rfl) (by decide) rfl (fun ls hl => ?_)
            try have t104 : x104.toInt = i.toInt + 5 := tadd e104 rfl kp5 (by omega)
            refine lv_goto (tgt := 18) hx hb dL_law_1393 (by decide) ?_
            refine W.widen (k := 1000 + 10 * (k + 1)) (n := 200000 + 20100 * (k + 1)) (by omega) (by omega) ?_
            obtain ⟨hnew2, hnew3, hnew4⟩ := rel_rests k g J I P E N dy r100 x97 x99 u100 r103 u103 hk64 hwf0 hwm0 hnow0 hrl0 hac0 hrel0 hrel1 hrel2 hrel3 hrel4 hrel5 hrel6 hrel7 hrel8 hrel9 hrel10 hrel11 hrel12 hrel13 hrel14 hrel15 hrel16 hrel17 hrel18 hrel19 hrel20 hrel21 hrel22 hrel23 hrel24 hrel25 hrel26 hrel27 hrel28 hrel29 hrel30 hrel31 hrel32 hrel33 hrel34 hc100 hc103
            exact ih (k + 1) x104 (hv (hv J [42] [(12, 12), (12, 13)] u100) [100] [(13, 38), (13, 39)] u103) L I P E N dy H locs ls (by omega) (by omega) (by omega) hwf hwm hnow hrl hac hrel0 hrel1 hnew2 hnew3 hnew4 hrel5 hrel6 hrel7 hrel8 hrel9 hrel10 hrel11 hrel12 hrel13 hrel14 hrel15 hrel16 hrel17 hrel18 hrel19 hrel20 hrel21 hrel22 hrel23 hrel24 hrel25 hrel26 hrel27 hrel28 hrel29 hrel30 (tol_s (a := J 13 49) (k := k) hk64 (Or.inl rfl) hrel31) hrel32 hrel33 hrel34 hW (lv_sub hl [0, 1, 2, 3] rfl)
          · refine lv_tableIn (off := 517) (tgt := 549) hx hb dL_law_32 (Int.not_lt.mpr c6) (Int.not_lt.mpr c6b) (by rw [c6k]; rfl) (by decide) ?_
            refine lv_aload_n hx hb dL_law_549 rfl (lv_at hl 2 rfl) ?_
            refine lv_aload_n hx hb dL_law_550 rfl (lv_at hl 1 rfl) ?_
            refine lv_iload_n hx hb dL_law_551 rfl (lv_at hl 0 rfl) ?_
            refine lv_iconst (v := 1) hx hb dL_law_552 (by decide) ?_
            refine lv_iadd hx hb dL_law_553 ?_
            refine lv_topi (fun x105 (e105 : x105 = i + 1) => ?_)
            try have t105 : x105.toInt = i.toInt + 1 := tadd e105 rfl kp1 (by omega)
            have hin : vp_in x105 Lx := tin rfl (by omega)
            refine va_sld hx hb hX hbl hbA hW.2.2.1 hin dL_law_554 ?_
            refine lv_topi (fun x106 (e106 : x106 = xs x105.toNatClampNeg) => ?_)
            refine ci2_ C (WB_L hW) (runV (x := g.2.2.1 12) (As := [.int x106]) (rest := []) (T := ((J, L, I, P, E, N), sgX g ++ dy)) C (WB_L hW) (c_X11_mayRead_e l g J L I P E N dy H.size x106 hwf ⟨hnow.1, hnow.2.1⟩ (rdr_b hrel6) hrel4.2) mi_X11_mayRead tw_610 (recv_ (T := ((J, L, I, P, E, N), sgX g ++ dy)) C (WB_L hW) (mx_ rfl) rfl rfl) ⟨rfl, rfl, Nat.le_of_ble_eq_true rfl, Nat.le_of_ble_eq_true rfl⟩ rfl hl.1 rfl (Nat.le_of_ble_eq_true rfl) dL_law_555 ⟨by show 1000 + 10 * k + 0 ≤ 600000; omega, by show 200000 + 20100 * k + 0 ≤ 7302250; omega⟩) (fun r107 u107 H locs hp107 hB hk hS => ?_)
            have hW : WB g A s.heap H locs ((hv J [42] [] u107), L, I, P, E, N) ((sgX g ++ dy) ++ sgM g) := joinL hW hB hk hS (frsub C (WB_L hW)) (okM hW (fun r h => hv_m (J := J) (R := [42]) (F := []) rfl rfl h) (fun r h => rfl))
            have hc107 : ((r107.toInt = (-1) ∧ (¬ (0 ≤ x106.toInt ∧ x106.toInt < (J 24 2).toInt))) ∨ (r107.toInt = 1 ∧ (0 ≤ x106.toInt ∧ x106.toInt < (J 24 2).toInt ∧ ((I 7 2 (elt E P 24 x106.toNatClampNeg)).toInt < (J 12 12).toInt ∨ (I 7 1 (elt E P 24 x106.toNatClampNeg)).toInt + (J 12 13).toInt < (J 3 1).toInt))) ∨ (r107.toInt = 0 ∧ (0 ≤ x106.toInt ∧ x106.toInt < (J 24 2).toInt ∧ ¬ ((I 7 2 (elt E P 24 x106.toNatClampNeg)).toInt < (J 12 12).toInt ∨ (I 7 1 (elt E P 24 x106.toNatClampNeg)).toInt + (J 12 13).toInt < (J 3 1).toInt)))) := hp107
            refine lv_pop hx hb dL_law_558 rfl ?_
            refine lv_aload_n hx hb dL_law_559 rfl (lv_at hl 3 rfl) ?_
            refine lv_aload_n hx hb dL_law_560 rfl (lv_at hl 1 rfl) ?_
            refine lv_iload_n hx hb dL_law_561 rfl (lv_at hl 0 rfl) ?_
            refine lv_iconst (v := 1) hx hb dL_law_562 (by decide) ?_
            refine lv_iadd hx hb dL_law_563 ?_
            refine lv_topi (fun x108 (e108 : x108 = i + 1) => ?_)
            try have t108 : x108.toInt = i.toInt + 1 := tadd e108 rfl kp1 (by omega)
            have hin : vp_in x108 Lx := tin rfl (by omega)
            refine va_sld hx hb hX hbl hbA hW.2.2.1 hin dL_law_564 ?_
            refine lv_as x106 (by rw [e106, e105, e108]) ?_
            refine ci2_ C (WB_R hW) (runV (x := g.2.2.1 13) (As := [.int x106]) (rest := []) (T := (((hv J [42] [] u107), L, I, P, E, N), sgM g)) C (WB_R hW) (c_X12_mayRead_e l g (hv J [42] [] u107) L I P E N H.size x106 hwm (rdr_m hrel6 hrel5) (show 0 ≤ (J 13 39).toInt ∧ (J 13 39).toInt ≤ 240 from by rw [← hrel3]; exact hrel4.2)) mi_X12_mayRead tw_1314 (recv_ (T := (((hv J [42] [] u107), L, I, P, E, N), sgM g)) C (WB_R hW) (mm_ rfl) rfl rfl) ⟨rfl, rfl, Nat.le_of_ble_eq_true rfl, Nat.le_of_ble_eq_true rfl⟩ rfl hl.1 rfl (Nat.le_of_ble_eq_true rfl) dL_law_565 ⟨by show 1000 + 10 * k + 0 + 0 ≤ 600000; omega, by show 200000 + 20100 * k + 0 + 0 ≤ 7302250; omega⟩) (fun r109 u109 H locs hp109 hB hk hS => ?_)
            have hW : WB g A s.heap H locs ((hv (hv J [42] [] u107) [100] [] u109), L, I, P, E, N) ((sgX g ++ dy) ++ sgM g) := joinR hW hB hk hS (frsub C (WB_R hW)) (fun x hx => cel_x (hv_x rfl rfl (notm hW x hx)))
            refine lv_pop hx hb dL_law_568 rfl ?_
            refine lv_goto (tgt := 1390) hx hb dL_law_569 (by decide) ?_
            obtain ⟨x110, e110⟩ : ∃ y : Int32, y = i + 5 := ⟨_, rfl⟩
            refine lv_iinc (v := x110) (lv' := [(3, .int x110), (0, .ref b), (1, .ref (g.2.2.1 12)), (2, .ref (g.2.2.1 13))]) hx hb dL_law_1390 hl (k := 0) rfl (by rw [e110]; rfl) (by decide) rfl (fun ls hl => ?_)
            try have t110 : x110.toInt = i.toInt + 5 := tadd e110 rfl kp5 (by omega)
            refine lv_goto (tgt := 18) hx hb dL_law_1393 (by decide) ?_
            refine W.widen (k := 1000 + 10 * (k + 1)) (n := 200000 + 20100 * (k + 1)) (by omega) (by omega) ?_
            exact ih (k + 1) x110 (hv (hv J [42] [] u107) [100] [] u109) L I P E N dy H locs ls (by omega) (by omega) (by omega) hwf hwm hnow hrl hac hrel0 hrel1 hrel2 hrel3 hrel4 hrel5 hrel6 hrel7 hrel8 hrel9 hrel10 hrel11 hrel12 hrel13 hrel14 hrel15 hrel16 hrel17 hrel18 hrel19 hrel20 hrel21 hrel22 hrel23 hrel24 hrel25 hrel26 hrel27 hrel28 hrel29 hrel30 (tol_s (a := J 13 49) (k := k) hk64 (Or.inl rfl) hrel31) hrel32 hrel33 hrel34 hW (lv_sub hl [0, 1, 2, 3] rfl)
          · refine lv_tableIn (off := 540) (tgt := 572) hx hb dL_law_32 (Int.not_lt.mpr c6) (Int.not_lt.mpr c6b) (by rw [c6k]; rfl) (by decide) ?_
            refine lv_aload_n hx hb dL_law_572 rfl (lv_at hl 2 rfl) ?_
            refine lv_aload_n hx hb dL_law_573 rfl (lv_at hl 1 rfl) ?_
            refine lv_iload_n hx hb dL_law_574 rfl (lv_at hl 0 rfl) ?_
            refine lv_iconst (v := 1) hx hb dL_law_575 (by decide) ?_
            refine lv_iadd hx hb dL_law_576 ?_
            refine lv_topi (fun x111 (e111 : x111 = i + 1) => ?_)
            try have t111 : x111.toInt = i.toInt + 1 := tadd e111 rfl kp1 (by omega)
            have hin : vp_in x111 Lx := tin rfl (by omega)
            refine va_sld hx hb hX hbl hbA hW.2.2.1 hin dL_law_577 ?_
            refine lv_topi (fun x112 (e112 : x112 = xs x111.toNatClampNeg) => ?_)
            refine lv_aload_n hx hb dL_law_578 rfl (lv_at hl 1 rfl) ?_
            refine lv_iload_n hx hb dL_law_579 rfl (lv_at hl 0 rfl) ?_
            refine lv_iconst (v := 2) hx hb dL_law_580 (by decide) ?_
            refine lv_iadd hx hb dL_law_581 ?_
            refine lv_topi (fun x113 (e113 : x113 = i + 2) => ?_)
            try have t113 : x113.toInt = i.toInt + 2 := tadd e113 rfl kp2 (by omega)
            have hin : vp_in x113 Lx := tin rfl (by omega)
            refine va_sld hx hb hX hbl hbA hW.2.2.1 hin dL_law_582 ?_
            refine lv_topi (fun x114 (e114 : x114 = xs x113.toNatClampNeg) => ?_)
            refine lv_aload_n hx hb dL_law_583 rfl (lv_at hl 1 rfl) ?_
            refine lv_iload_n hx hb dL_law_584 rfl (lv_at hl 0 rfl) ?_
            refine lv_iconst (v := 3) hx hb dL_law_585 (by decide) ?_
            refine lv_iadd hx hb dL_law_586 ?_
            refine lv_topi (fun x115 (e115 : x115 = i + 3) => ?_)
            try have t115 : x115.toInt = i.toInt + 3 := tadd e115 rfl kp3 (by omega)
            have hin : vp_in x115 Lx := tin rfl (by omega)
            refine va_sld hx hb hX hbl hbA hW.2.2.1 hin dL_law_587 ?_
            refine lv_topi (fun x116 (e116 : x116 = xs x115.toNatClampNeg) => ?_)
            refine ci2_ C (WB_L hW) (runV (x := g.2.2.1 12) (As := [.int x112, .int x114, .int x116]) (rest := []) (T := ((J, L, I, P, E, N), sgX g ++ dy)) C (WB_L hW) (c_X11_say_e l g J L I P E N dy H.size x112 x114 x116 hwf ⟨hnow.1, hnow.2.1⟩ hnow.2.2 hrel9 (rdr_b hrel6) hrel4.2 (tmr_cdb hrel16)) mi_X11_say tw_623 (recv_ (T := ((J, L, I, P, E, N), sgX g ++ dy)) C (WB_L hW) (mx_ rfl) rfl rfl) ⟨rfl, rfl, Nat.le_of_ble_eq_true rfl, Nat.le_of_ble_eq_true rfl⟩ rfl hl.1 rfl (Nat.le_of_ble_eq_true rfl) dL_law_588 ⟨by show 1000 + 10 * k + 10 ≤ 600000; omega, by show 200000 + 20100 * k + 20100 ≤ 7302250; omega⟩) (fun r117 u117 H locs hp117 hB hk hS => ?_)
            have hW : WB g A s.heap H locs ((hv J [42, 45] [(3, 1), (3, 2), (3, 3), (8, 1), (8, 2), (8, 3), (8, 4), (8, 5), (8, 6), (8, 7), (8, 8), (8, 9), (27, 0), (27, 2)] u117.1), L, (hv I [9] [(5, 2), (7, 1), (7, 2)] u117.2.1), (hv P [9, 37] [] u117.2.2.1), (hv1 E [27] u117.2.2.2.1), u117.2.2.2.2.1) ((sgX g ++ u117.2.2.2.2.2) ++ sgM g) := joinL hW hB hk hS (frsub C (WB_L hW)) (okM hW (fun r h => hv_m (J := J) (R := [42, 45]) (F := [(3, 1), (3, 2), (3, 3), (8, 1), (8, 2), (8, 3), (8, 4), (8, 5), (8, 6), (8, 7), (8, 8), (8, 9), (27, 0), (27, 2)]) rfl rfl h) (fun r h => rfl))
            obtain ⟨hc117, hwf, hdd117, hf117_0, hf117_1⟩ := hp117
            have hnow := hf117_0
            refine lv_pop hx hb dL_law_591 rfl ?_
            refine lv_aload_n hx hb dL_law_592 rfl (lv_at hl 3 rfl) ?_
            refine lv_aload_n hx hb dL_law_593 rfl (lv_at hl 1 rfl) ?_
            refine lv_iload_n hx hb dL_law_594 rfl (lv_at hl 0 rfl) ?_
            refine lv_iconst (v := 1) hx hb dL_law_595 (by decide) ?_
            refine lv_iadd hx hb dL_law_596 ?_
            refine lv_topi (fun x118 (e118 : x118 = i + 1) => ?_)
            try have t118 : x118.toInt = i.toInt + 1 := tadd e118 rfl kp1 (by omega)
            have hin : vp_in x118 Lx := tin rfl (by omega)
            refine va_sld hx hb hX hbl hbA hW.2.2.1 hin dL_law_597 ?_
            refine lv_as x112 (by rw [e112, e111, e118]) ?_
            refine lv_aload_n hx hb dL_law_598 rfl (lv_at hl 1 rfl) ?_
            refine lv_iload_n hx hb dL_law_599 rfl (lv_at hl 0 rfl) ?_
            refine lv_iconst (v := 2) hx hb dL_law_600 (by decide) ?_
            refine lv_iadd hx hb dL_law_601 ?_
            refine lv_topi (fun x119 (e119 : x119 = i + 2) => ?_)
            try have t119 : x119.toInt = i.toInt + 2 := tadd e119 rfl kp2 (by omega)
            have hin : vp_in x119 Lx := tin rfl (by omega)
            refine va_sld hx hb hX hbl hbA hW.2.2.1 hin dL_law_602 ?_
            refine lv_as x114 (by rw [e114, e113, e119]) ?_
            refine lv_aload_n hx hb dL_law_603 rfl (lv_at hl 1 rfl) ?_
            refine lv_iload_n hx hb dL_law_604 rfl (lv_at hl 0 rfl) ?_
            refine lv_iconst (v := 3) hx hb dL_law_605 (by decide) ?_
            refine lv_iadd hx hb dL_law_606 ?_
            refine lv_topi (fun x120 (e120 : x120 = i + 3) => ?_)
            try have t120 : x120.toInt = i.toInt + 3 := tadd e120 rfl kp3 (by omega)
            have hin : vp_in x120 Lx := tin rfl (by omega)
            refine va_sld hx hb hX hbl hbA hW.2.2.1 hin dL_law_607 ?_
            refine lv_as x116 (by rw [e116, e115, e120]) ?_
            refine ci2_ C (WB_R hW) (runV (x := g.2.2.1 13) (As := [.int x112, .int x114, .int x116]) (rest := []) (T := (((hv J [42, 45] [(3, 1), (3, 2), (3, 3), (8, 1), (8, 2), (8, 3), (8, 4), (8, 5), (8, 6), (8, 7), (8, 8), (8, 9), (27, 0), (27, 2)] u117.1), L, (hv I [9] [(5, 2), (7, 1), (7, 2)] u117.2.1), (hv P [9, 37] [] u117.2.2.1), (hv1 E [27] u117.2.2.2.1), u117.2.2.2.2.1), sgM g)) C (WB_R hW) (c_X12_say_e l g (hv J [42, 45] [(3, 1), (3, 2), (3, 3), (8, 1), (8, 2), (8, 3), (8, 4), (8, 5), (8, 6), (8, 7), (8, 8), (8, 9), (27, 0), (27, 2)] u117.1) L (hv I [9] [(5, 2), (7, 1), (7, 2)] u117.2.1) (hv P [9, 37] [] u117.2.2.1) (hv1 E [27] u117.2.2.2.1) u117.2.2.2.2.1 H.size x112 x114 x116 hwm (rdr_m hrel6 hrel5) (show 0 ≤ (J 13 39).toInt ∧ (J 13 39).toInt ≤ 240 from by rw [← hrel3]; exact hrel4.2)) mi_X12_say tw_1322 (recv_ (T := (((hv J [42, 45] [(3, 1), (3, 2), (3, 3), (8, 1), (8, 2), (8, 3), (8, 4), (8, 5), (8, 6), (8, 7), (8, 8), (8, 9), (27, 0), (27, 2)] u117.1), L, (hv I [9] [(5, 2), (7, 1), (7, 2)] u117.2.1), (hv P [9, 37] [] u117.2.2.1), (hv1 E [27] u117.2.2.2.1), u117.2.2.2.2.1), sgM g)) C (WB_R hW) (mm_ rfl) rfl rfl) ⟨rfl, rfl, Nat.le_of_ble_eq_true rfl, Nat.le_of_ble_eq_true rfl⟩ rfl hl.1 rfl (Nat.le_of_ble_eq_true rfl) dL_law_608 ⟨by show 1000 + 10 * k + 10 + 0 ≤ 600000; omega, by show 200000 + 20100 * k + 20100 + 0 ≤ 7302250; omega⟩) (fun r121 u121 H locs hp121 hB hk hS => ?_)
            have hW : WB g A s.heap H locs ((hv (hv J [42, 45] [(3, 1), (3, 2), (3, 3), (8, 1), (8, 2), (8, 3), (8, 4), (8, 5), (8, 6), (8, 7), (8, 8), (8, 9), (27, 0), (27, 2)] u117.1) [100, 114, 115, 116, 117, 118, 119, 120, 154] [(13, 31), (13, 45), (13, 56), (13, 57), (13, 58), (13, 59), (13, 60)] u121), L, (hv I [9] [(5, 2), (7, 1), (7, 2)] u117.2.1), (hv P [9, 37] [] u117.2.2.1), (hv1 E [27] u117.2.2.2.1), u117.2.2.2.2.1) ((sgX g ++ u117.2.2.2.2.2) ++ sgM g) := joinR hW hB hk hS (frsub C (WB_R hW)) (fun x hx => cel_x (hv_x rfl rfl (notm hW x hx)))
            obtain ⟨hwm, hc121⟩ : WM (hv (hv J [42, 45] [(3, 1), (3, 2), (3, 3), (8, 1), (8, 2), (8, 3), (8, 4), (8, 5), (8, 6), (8, 7), (8, 8), (8, 9), (27, 0), (27, 2)] u117.1) [100, 114, 115, 116, 117, 118, 119, 120, 154] [(13, 31), (13, 45), (13, 56), (13, 57), (13, 58), (13, 59), (13, 60)] u121) ∧ ((r121.toInt = (-2) ∧ (¬ (0 ≤ x112.toInt ∧ x112.toInt ≤ 5 ∧ ¬ x112.toInt = 3)) ∧ u121 13 31 = J 13 31 ∧ u121 114 = J 114 ∧ u121 115 = J 115 ∧ u121 116 = J 116 ∧ u121 117 = J 117 ∧ u121 118 = J 118 ∧ u121 119 = J 119 ∧ u121 120 = J 120) ∨ (r121.toInt = (-1) ∧ (0 ≤ x112.toInt ∧ x112.toInt ≤ 5 ∧ ¬ x112.toInt = 3 ∧ ¬ (0 ≤ x114.toInt ∧ x114.toInt < (J 13 37).toInt ∧ ((x112.toInt = 1 ∨ x112.toInt = 5) → 0 ≤ x116.toInt ∧ x116.toInt < (J 13 31).toInt) ∧ (x112.toInt = 0 → x116.toInt = -1 ∨ (0 ≤ x116.toInt ∧ x116.toInt < (J 13 42).toInt)))) ∧ u121 13 31 = J 13 31 ∧ u121 114 = J 114 ∧ u121 115 = J 115 ∧ u121 116 = J 116 ∧ u121 117 = J 117 ∧ u121 118 = J 118 ∧ u121 119 = J 119 ∧ u121 120 = J 120) ∨ (r121.toInt = (-3) ∧ (0 ≤ x112.toInt ∧ x112.toInt ≤ 5 ∧ ¬ x112.toInt = 3 ∧ (0 ≤ x114.toInt ∧ x114.toInt < (J 13 37).toInt ∧ ((x112.toInt = 1 ∨ x112.toInt = 5) → 0 ≤ x116.toInt ∧ x116.toInt < (J 13 31).toInt) ∧ (x112.toInt = 0 → x116.toInt = -1 ∨ (0 ≤ x116.toInt ∧ x116.toInt < (J 13 42).toInt))) ∧ ¬ (((J 115 x114.toNatClampNeg).toInt < (J 13 38).toInt ∨ (J 114 x114.toNatClampNeg).toInt + (J 13 39).toInt < (J 13 31).toInt) ∧ ((x112.toInt = 5 → (J 116 x116.toNatClampNeg).toInt = 0) ∧ (x112.toInt = 1 → (J 116 x116.toNatClampNeg).toInt = 0 ∨ (J 116 x116.toNatClampNeg).toInt = 3 ∨ (J 116 x116.toNatClampNeg).toInt = 5)))) ∧ u121 13 31 = J 13 31 ∧ u121 114 = J 114 ∧ u121 115 = J 115 ∧ u121 116 = J 116 ∧ u121 117 = J 117 ∧ u121 118 = J 118 ∧ u121 119 = J 119 ∧ u121 120 = J 120) ∨ (r121.toInt = (-3) ∧ (0 ≤ x112.toInt ∧ x112.toInt ≤ 5 ∧ ¬ x112.toInt = 3 ∧ (0 ≤ x114.toInt ∧ x114.toInt < (J 13 37).toInt ∧ ((x112.toInt = 1 ∨ x112.toInt = 5) → 0 ≤ x116.toInt ∧ x116.toInt < (J 13 31).toInt) ∧ (x112.toInt = 0 → x116.toInt = -1 ∨ (0 ≤ x116.toInt ∧ x116.toInt < (J 13 42).toInt))) ∧ ((J 115 x114.toNatClampNeg).toInt < (J 13 38).toInt ∨ (J 114 x114.toNatClampNeg).toInt + (J 13 39).toInt < (J 13 31).toInt) ∧ ((x112.toInt = 5 → (J 116 x116.toNatClampNeg).toInt = 0) ∧ (x112.toInt = 1 → (J 116 x116.toNatClampNeg).toInt = 0 ∨ (J 116 x116.toNatClampNeg).toInt = 3 ∨ (J 116 x116.toNatClampNeg).toInt = 5)) ∧ x112.toInt = 2) ∧ (∃ v : Int32, WVM (J 121) (J 122) (J 123) (J 124) (SCL 2 (hrw (J 13 31).toInt) (J 113 x114.toNatClampNeg) 0 0 (J 13 33) 0 (J 13 35)) (J 13 40).toInt 3 (J 13 31).toInt 1 v ∧ v.toInt ≤ 0) ∧ u121 13 31 = J 13 31 ∧ u121 114 = J 114 ∧ u121 115 = J 115 ∧ u121 116 = J 116 ∧ u121 117 = J 117 ∧ u121 118 = J 118 ∧ u121 119 = J 119 ∧ u121 120 = J 120) ∨ (r121.toInt = (-6) ∧ (0 ≤ x112.toInt ∧ x112.toInt ≤ 5 ∧ ¬ x112.toInt = 3 ∧ (0 ≤ x114.toInt ∧ x114.toInt < (J 13 37).toInt ∧ ((x112.toInt = 1 ∨ x112.toInt = 5) → 0 ≤ x116.toInt ∧ x116.toInt < (J 13 31).toInt) ∧ (x112.toInt = 0 → x116.toInt = -1 ∨ (0 ≤ x116.toInt ∧ x116.toInt < (J 13 42).toInt))) ∧ ((J 115 x114.toNatClampNeg).toInt < (J 13 38).toInt ∨ (J 114 x114.toNatClampNeg).toInt + (J 13 39).toInt < (J 13 31).toInt) ∧ ((x112.toInt = 5 → (J 116 x116.toNatClampNeg).toInt = 0) ∧ (x112.toInt = 1 → (J 116 x116.toNatClampNeg).toInt = 0 ∨ (J 116 x116.toNatClampNeg).toInt = 3 ∨ (J 116 x116.toNatClampNeg).toInt = 5)) ∧ (J 13 31).toInt = 9999) ∧ (x112.toInt = 2 → (∃ v : Int32, WVM (J 121) (J 122) (J 123) (J 124) (SCL 2 (hrw (J 13 31).toInt) (J 113 x114.toNatClampNeg) 0 0 (J 13 33) 0 (J 13 35)) (J 13 40).toInt 3 (J 13 31).toInt 1 v ∧ 0 < v.toInt)) ∧ u121 13 31 = J 13 31 ∧ u121 114 = J 114 ∧ u121 115 = J 115 ∧ u121 116 = J 116 ∧ u121 117 = J 117 ∧ u121 118 = J 118 ∧ u121 119 = J 119 ∧ u121 120 = J 120) ∨ (r121.toInt = (J 13 31).toInt ∧ (0 ≤ x112.toInt ∧ x112.toInt ≤ 5 ∧ ¬ x112.toInt = 3 ∧ (0 ≤ x114.toInt ∧ x114.toInt < (J 13 37).toInt ∧ ((x112.toInt = 1 ∨ x112.toInt = 5) → 0 ≤ x116.toInt ∧ x116.toInt < (J 13 31).toInt) ∧ (x112.toInt = 0 → x116.toInt = -1 ∨ (0 ≤ x116.toInt ∧ x116.toInt < (J 13 42).toInt))) ∧ ((J 115 x114.toNatClampNeg).toInt < (J 13 38).toInt ∨ (J 114 x114.toNatClampNeg).toInt + (J 13 39).toInt < (J 13 31).toInt) ∧ ((x112.toInt = 5 → (J 116 x116.toNatClampNeg).toInt = 0) ∧ (x112.toInt = 1 → (J 116 x116.toNatClampNeg).toInt = 0 ∨ (J 116 x116.toNatClampNeg).toInt = 3 ∨ (J 116 x116.toNatClampNeg).toInt = 5)) ∧ (J 13 31).toInt ≤ 9998) ∧ (x112.toInt = 2 → (∃ v : Int32, WVM (J 121) (J 122) (J 123) (J 124) (SCL 2 (hrw (J 13 31).toInt) (J 113 x114.toNatClampNeg) 0 0 (J 13 33) 0 (J 13 35)) (J 13 40).toInt 3 (J 13 31).toInt 1 v ∧ 0 < v.toInt)) ∧ (u121 13 31).toInt = (J 13 31).toInt + 1 ∧ (∃ v : Int32, v.toInt = (if 0 ≤ (J 114 x114.toNatClampNeg).toInt ∧ (J 114 x114.toNatClampNeg).toInt = (J 13 31).toInt - 1 then (J 115 x114.toNatClampNeg).toInt + 1 else 1) ∧ u121 115 = up2 J 115 x114.toNatClampNeg v 115) ∧ u121 114 = up2 J 114 x114.toNatClampNeg (J 13 31) 114 ∧ u121 116 = up2 J 116 (J 13 31).toNatClampNeg x112 116 ∧ u121 117 = up2 J 117 (J 13 31).toNatClampNeg x114 117 ∧ u121 118 = up2 J 118 (J 13 31).toNatClampNeg (J 113 x114.toNatClampNeg) 118 ∧ u121 119 = up2 J 119 (J 13 31).toNatClampNeg (OFV x112 x116) 119 ∧ u121 120 = up2 J 120 (J 13 31).toNatClampNeg (J 13 33) 120)) := hp121
            refine lv_pop hx hb dL_law_611 rfl ?_
            refine lv_goto (tgt := 1390) hx hb dL_law_612 (by decide) ?_
            obtain ⟨x122, e122⟩ : ∃ y : Int32, y = i + 5 := ⟨_, rfl⟩
            refine lv_iinc (v := x122) (lv' := [(3, .int x122), (0, .ref b), (1, .ref (g.2.2.1 12)), (2, .ref (g.2.2.1 13))]) hx hb dL_law_1390 hl (k := 0) rfl (by rw [e122]; rfl) (by decide) rfl (fun ls hl => ?_)
            try have t122 : x122.toInt = i.toInt + 5 := tadd e122 rfl kp5 (by omega)
            refine lv_goto (tgt := 18) hx hb dL_law_1393 (by decide) ?_
            refine W.widen (k := 1000 + 10 * (k + 1)) (n := 200000 + 20100 * (k + 1)) (by omega) (by omega) ?_
            obtain ⟨hnew0, hnew6, hnew7, hnew9, hnew16, hnew32, hnew33, hnew34⟩ := rel_say k g J I P E N dy r117 x112 u117 x114 x116 r121 u121 hk64 hwf0 hwm0 hnow0 hrl0 hac0 hrel0 hrel1 hrel2 hrel3 hrel4 hrel5 hrel6 hrel7 hrel8 hrel9 hrel10 hrel11 hrel12 hrel13 hrel14 hrel15 hrel16 hrel17 hrel18 hrel19 hrel20 hrel21 hrel22 hrel23 hrel24 hrel25 hrel26 hrel27 hrel28 hrel29 hrel30 hrel31 hrel32 hrel33 hrel34 hc117 hf117_0 hf117_1 hc121
            exact ih (k + 1) x122 (hv (hv J [42, 45] [(3, 1), (3, 2), (3, 3), (8, 1), (8, 2), (8, 3), (8, 4), (8, 5), (8, 6), (8, 7), (8, 8), (8, 9), (27, 0), (27, 2)] u117.1) [100, 114, 115, 116, 117, 118, 119, 120, 154] [(13, 31), (13, 45), (13, 56), (13, 57), (13, 58), (13, 59), (13, 60)] u121) L (hv I [9] [(5, 2), (7, 1), (7, 2)] u117.2.1) (hv P [9, 37] [] u117.2.2.1) (hv1 E [27] u117.2.2.2.1) u117.2.2.2.2.1 u117.2.2.2.2.2 H locs ls (by omega) (by omega) (by omega) hwf hwm hnow hrl hac hnew0 hrel1 hrel2 hrel3 hrel4 hrel5 hnew6 hnew7 hrel8 hnew9 hrel10 hrel11 hrel12 hrel13 hrel14 hrel15 hnew16 hrel17 hrel18 hrel19 hrel20 hrel21 hrel22 hrel23 hrel24 hrel25 hrel26 hrel27 hrel28 hrel29 hrel30 (tol_s (a := J 13 49) (k := k) hk64 (Or.inl rfl) hrel31) hnew32 hnew33 hnew34 hW (lv_sub hl [0, 1, 2, 3] rfl)
          · refine lv_tableIn (off := 583) (tgt := 615) hx hb dL_law_32 (Int.not_lt.mpr c6) (Int.not_lt.mpr c6b) (by rw [c6k]; rfl) (by decide) ?_
            refine lv_aload_n hx hb dL_law_615 rfl (lv_at hl 2 rfl) ?_
            refine lv_aload_n hx hb dL_law_616 rfl (lv_at hl 1 rfl) ?_
            refine lv_iload_n hx hb dL_law_617 rfl (lv_at hl 0 rfl) ?_
            refine lv_iconst (v := 1) hx hb dL_law_618 (by decide) ?_
            refine lv_iadd hx hb dL_law_619 ?_
            refine lv_topi (fun x123 (e123 : x123 = i + 1) => ?_)
            try have t123 : x123.toInt = i.toInt + 1 := tadd e123 rfl kp1 (by omega)
            have hin : vp_in x123 Lx := tin rfl (by omega)
            refine va_sld hx hb hX hbl hbA hW.2.2.1 hin dL_law_620 ?_
            refine lv_topi (fun x124 (e124 : x124 = xs x123.toNatClampNeg) => ?_)
            refine ci2_ C (WB_L hW) (runV (x := g.2.2.1 12) (As := [.int x124]) (rest := []) (T := ((J, L, I, P, E, N), sgX g ++ dy)) C (WB_L hW) (c_X11_stage_e l g J L I P E N dy H.size x124 hwf ⟨hnow.1, hnow.2.1⟩ hnow.2.2) mi_X11_stage tw_704 (recv_ (T := ((J, L, I, P, E, N), sgX g ++ dy)) C (WB_L hW) (mx_ rfl) rfl rfl) ⟨rfl, rfl, Nat.le_of_ble_eq_true rfl, Nat.le_of_ble_eq_true rfl⟩ rfl hl.1 rfl (Nat.le_of_ble_eq_true rfl) dL_law_621 ⟨by show 1000 + 10 * k + 10 ≤ 600000; omega, by show 200000 + 20100 * k + 20100 ≤ 7302250; omega⟩) (fun r125 u125 H locs hp125 hB hk hS => ?_)
            have hW : WB g A s.heap H locs ((hv J [42] [(3, 1), (3, 2), (3, 3), (27, 0), (27, 2)] u125.1), L, (hv I [9] [] u125.2.1), (hv P [9, 37] [] u125.2.2.1), (hv1 E [27] u125.2.2.2.1), u125.2.2.2.2.1) ((sgX g ++ u125.2.2.2.2.2) ++ sgM g) := joinL hW hB hk hS (frsub C (WB_L hW)) (okM hW (fun r h => hv_m (J := J) (R := [42]) (F := [(3, 1), (3, 2), (3, 3), (27, 0), (27, 2)]) rfl rfl h) (fun r h => rfl))
            obtain ⟨hc125, hwf, hdd125, hf125_0, hf125_1⟩ := hp125
            have hnow := hf125_0
            refine lv_pop hx hb dL_law_624 rfl ?_
            refine lv_aload_n hx hb dL_law_625 rfl (lv_at hl 3 rfl) ?_
            refine lv_aload_n hx hb dL_law_626 rfl (lv_at hl 1 rfl) ?_
            refine lv_iload_n hx hb dL_law_627 rfl (lv_at hl 0 rfl) ?_
            refine lv_iconst (v := 1) hx hb dL_law_628 (by decide) ?_
            refine lv_iadd hx hb dL_law_629 ?_
            refine lv_topi (fun x126 (e126 : x126 = i + 1) => ?_)
            try have t126 : x126.toInt = i.toInt + 1 := tadd e126 rfl kp1 (by omega)
            have hin : vp_in x126 Lx := tin rfl (by omega)
            refine va_sld hx hb hX hbl hbA hW.2.2.1 hin dL_law_630 ?_
            refine lv_as x124 (by rw [e124, e123, e126]) ?_
            refine ci2_ C (WB_R hW) (runV (x := g.2.2.1 13) (As := [.int x124]) (rest := []) (T := (((hv J [42] [(3, 1), (3, 2), (3, 3), (27, 0), (27, 2)] u125.1), L, (hv I [9] [] u125.2.1), (hv P [9, 37] [] u125.2.2.1), (hv1 E [27] u125.2.2.2.1), u125.2.2.2.2.1), sgM g)) C (WB_R hW) (c_X12_stage_e l g (hv J [42] [(3, 1), (3, 2), (3, 3), (27, 0), (27, 2)] u125.1) L (hv I [9] [] u125.2.1) (hv P [9, 37] [] u125.2.2.1) (hv1 E [27] u125.2.2.2.1) u125.2.2.2.2.1 H.size x124 hwm) mi_X12_stage tw_1382 (recv_ (T := (((hv J [42] [(3, 1), (3, 2), (3, 3), (27, 0), (27, 2)] u125.1), L, (hv I [9] [] u125.2.1), (hv P [9, 37] [] u125.2.2.1), (hv1 E [27] u125.2.2.2.1), u125.2.2.2.2.1), sgM g)) C (WB_R hW) (mm_ rfl) rfl rfl) ⟨rfl, rfl, Nat.le_of_ble_eq_true rfl, Nat.le_of_ble_eq_true rfl⟩ rfl hl.1 rfl (Nat.le_of_ble_eq_true rfl) dL_law_631 ⟨by show 1000 + 10 * k + 10 + 0 ≤ 600000; omega, by show 200000 + 20100 * k + 20100 + 0 ≤ 7302250; omega⟩) (fun r127 u127 H locs hp127 hB hk hS => ?_)
            have hW : WB g A s.heap H locs ((hv (hv J [42] [(3, 1), (3, 2), (3, 3), (27, 0), (27, 2)] u125.1) [100, 116, 117, 118, 119, 120] [(13, 31)] u127), L, (hv I [9] [] u125.2.1), (hv P [9, 37] [] u125.2.2.1), (hv1 E [27] u125.2.2.2.1), u125.2.2.2.2.1) ((sgX g ++ u125.2.2.2.2.2) ++ sgM g) := joinR hW hB hk hS (frsub C (WB_R hW)) (fun x hx => cel_x (hv_x rfl rfl (notm hW x hx)))
            obtain ⟨hwm, hc127⟩ : WM (hv (hv J [42] [(3, 1), (3, 2), (3, 3), (27, 0), (27, 2)] u125.1) [100, 116, 117, 118, 119, 120] [(13, 31)] u127) ∧ ((r127.toInt = (-4) ∧ (x124.toInt < 1) ∧ u127 13 31 = J 13 31 ∧ u127 116 = J 116 ∧ u127 117 = J 117 ∧ u127 118 = J 118 ∧ u127 119 = J 119 ∧ u127 120 = J 120) ∨ (r127.toInt = (-6) ∧ (1 ≤ x124.toInt ∧ (999 < x124.toInt ∨ (J 13 31).toInt = 9999)) ∧ u127 13 31 = J 13 31 ∧ u127 116 = J 116 ∧ u127 117 = J 117 ∧ u127 118 = J 118 ∧ u127 119 = J 119 ∧ u127 120 = J 120) ∨ (r127.toInt = (J 13 31).toInt ∧ (1 ≤ x124.toInt ∧ x124.toInt ≤ 999 ∧ (J 13 31).toInt ≤ 9998) ∧ (u127 13 31).toInt = (J 13 31).toInt + 1 ∧ u127 116 = up2 J 116 (J 13 31).toNatClampNeg 3 116 ∧ u127 117 = up2 J 117 (J 13 31).toNatClampNeg (-9) 117 ∧ u127 118 = up2 J 118 (J 13 31).toNatClampNeg x124 118 ∧ u127 119 = up2 J 119 (J 13 31).toNatClampNeg (-9) 119 ∧ u127 120 = up2 J 120 (J 13 31).toNatClampNeg (J 13 33) 120)) := hp127
            refine lv_pop hx hb dL_law_634 rfl ?_
            refine lv_goto (tgt := 1390) hx hb dL_law_635 (by decide) ?_
            obtain ⟨x128, e128⟩ : ∃ y : Int32, y = i + 5 := ⟨_, rfl⟩
            refine lv_iinc (v := x128) (lv' := [(3, .int x128), (0, .ref b), (1, .ref (g.2.2.1 12)), (2, .ref (g.2.2.1 13))]) hx hb dL_law_1390 hl (k := 0) rfl (by rw [e128]; rfl) (by decide) rfl (fun ls hl => ?_)
            try have t128 : x128.toInt = i.toInt + 5 := tadd e128 rfl kp5 (by omega)
            refine lv_goto (tgt := 18) hx hb dL_law_1393 (by decide) ?_
            refine W.widen (k := 1000 + 10 * (k + 1)) (n := 200000 + 20100 * (k + 1)) (by omega) (by omega) ?_
            obtain ⟨hnew0, hnew9, hnew16, hnew32, hnew33, hnew34⟩ := rel_stage k g J I P E N dy r125 x124 u125 r127 u127 hk64 hwf0 hwm0 hnow0 hrl0 hac0 hrel0 hrel1 hrel2 hrel3 hrel4 hrel5 hrel6 hrel7 hrel8 hrel9 hrel10 hrel11 hrel12 hrel13 hrel14 hrel15 hrel16 hrel17 hrel18 hrel19 hrel20 hrel21 hrel22 hrel23 hrel24 hrel25 hrel26 hrel27 hrel28 hrel29 hrel30 hrel31 hrel32 hrel33 hrel34 hc125 hf125_0 hf125_1 hc127
            exact ih (k + 1) x128 (hv (hv J [42] [(3, 1), (3, 2), (3, 3), (27, 0), (27, 2)] u125.1) [100, 116, 117, 118, 119, 120] [(13, 31)] u127) L (hv I [9] [] u125.2.1) (hv P [9, 37] [] u125.2.2.1) (hv1 E [27] u125.2.2.2.1) u125.2.2.2.2.1 u125.2.2.2.2.2 H locs ls (by omega) (by omega) (by omega) hwf hwm hnow hrl hac hnew0 hrel1 hrel2 hrel3 hrel4 hrel5 hrel6 hrel7 hrel8 hnew9 hrel10 hrel11 hrel12 hrel13 hrel14 hrel15 hnew16 hrel17 hrel18 hrel19 hrel20 hrel21 hrel22 hrel23 hrel24 hrel25 hrel26 hrel27 hrel28 hrel29 hrel30 (tol_s (a := J 13 49) (k := k) hk64 (Or.inl rfl) hrel31) hnew32 hnew33 hnew34 hW (lv_sub hl [0, 1, 2, 3] rfl)
          · refine lv_tableIn (off := 606) (tgt := 638) hx hb dL_law_32 (Int.not_lt.mpr c6) (Int.not_lt.mpr c6b) (by rw [c6k]; rfl) (by decide) ?_
            refine lv_aload_n hx hb dL_law_638 rfl (lv_at hl 2 rfl) ?_
            refine lv_aload_n hx hb dL_law_639 rfl (lv_at hl 1 rfl) ?_
            refine lv_iload_n hx hb dL_law_640 rfl (lv_at hl 0 rfl) ?_
            refine lv_iconst (v := 1) hx hb dL_law_641 (by decide) ?_
            refine lv_iadd hx hb dL_law_642 ?_
            refine lv_topi (fun x129 (e129 : x129 = i + 1) => ?_)
            try have t129 : x129.toInt = i.toInt + 1 := tadd e129 rfl kp1 (by omega)
            have hin : vp_in x129 Lx := tin rfl (by omega)
            refine va_sld hx hb hX hbl hbA hW.2.2.1 hin dL_law_643 ?_
            refine lv_topi (fun x130 (e130 : x130 = xs x129.toNatClampNeg) => ?_)
            refine lv_aload_n hx hb dL_law_644 rfl (lv_at hl 1 rfl) ?_
            refine lv_iload_n hx hb dL_law_645 rfl (lv_at hl 0 rfl) ?_
            refine lv_iconst (v := 2) hx hb dL_law_646 (by decide) ?_
            refine lv_iadd hx hb dL_law_647 ?_
            refine lv_topi (fun x131 (e131 : x131 = i + 2) => ?_)
            try have t131 : x131.toInt = i.toInt + 2 := tadd e131 rfl kp2 (by omega)
            have hin : vp_in x131 Lx := tin rfl (by omega)
            refine va_sld hx hb hX hbl hbA hW.2.2.1 hin dL_law_648 ?_
            refine lv_topi (fun x132 (e132 : x132 = xs x131.toNatClampNeg) => ?_)
            refine ci2_ C (WB_L hW) (runV (x := g.2.2.1 12) (As := [.int x130, .int x132]) (rest := []) (T := ((J, L, I, P, E, N), sgX g ++ dy)) C (WB_L hW) (c_X11_minuteOf_e l g J L I P E N dy H.size x130 x132 hwf hrel21 hrel20 hrel27 hrel28 hrel9 hnow.2.1) mi_X11_minuteOf tw_708 (recv_ (T := ((J, L, I, P, E, N), sgX g ++ dy)) C (WB_L hW) (mx_ rfl) rfl rfl) ⟨rfl, rfl, Nat.le_of_ble_eq_true rfl, Nat.le_of_ble_eq_true rfl⟩ rfl hl.1 rfl (Nat.le_of_ble_eq_true rfl) dL_law_649 ⟨by show 1000 + 10 * k + 0 ≤ 600000; omega, by show 200000 + 20100 * k + 0 ≤ 7302250; omega⟩) (fun r133 u133 H locs hp133 hB hk hS => ?_)
            have hW : WB g A s.heap H locs ((hv J [42] [(4, 6), (4, 7)] u133.1), L, (hv I [] [(6, 6), (6, 7)] u133.2), P, E, N) ((sgX g ++ dy) ++ sgM g) := joinL hW hB hk hS (frsub C (WB_L hW)) (okM hW (fun r h => hv_m (J := J) (R := [42]) (F := [(4, 6), (4, 7)]) rfl rfl h) (fun r h => rfl))
            have hc133 : ((r133.toInt = (-1) ∧ (¬ (0 ≤ x130.toInt ∧ x130.toInt < (J 3 1).toInt))) ∨ (r133.toInt = (-2) ∧ (0 ≤ x130.toInt ∧ x130.toInt < (J 3 1).toInt ∧ (x132.toInt < 0 ∨ 6 < x132.toInt))) ∨ (r133 = J 116 x130.toNatClampNeg ∧ (0 ≤ x130.toInt ∧ x130.toInt < (J 3 1).toInt ∧ x132.toInt = 0)) ∨ (r133 = J 117 x130.toNatClampNeg ∧ (0 ≤ x130.toInt ∧ x130.toInt < (J 3 1).toInt ∧ x132.toInt = 1)) ∨ (r133 = J 118 x130.toNatClampNeg ∧ (0 ≤ x130.toInt ∧ x130.toInt < (J 3 1).toInt ∧ x132.toInt = 2)) ∨ (r133 = J 119 x130.toNatClampNeg ∧ (0 ≤ x130.toInt ∧ x130.toInt < (J 3 1).toInt ∧ x132.toInt = 3)) ∨ (r133 = J 120 x130.toNatClampNeg ∧ (0 ≤ x130.toInt ∧ x130.toInt < (J 3 1).toInt ∧ x132.toInt = 6)) ∨ (r133 = r133 ∧ (0 ≤ x130.toInt ∧ x130.toInt < (J 3 1).toInt ∧ x132.toInt = 4) ∧ ((J 116 x130.toNatClampNeg).toInt = 6 → r133.toInt = 0) ∧ (¬ (J 116 x130.toNatClampNeg).toInt = 6 → ∃ x : Nat → Int32, SND x (J 101) (fun k => I 6 1 (elt E P 20 k)) (fun k => I 6 3 (elt E P 20 k)) (fun k => I 6 5 (elt E P 20 k)) (CUTP (J 105) (J 106) (J 107) (J 21 2).toInt x130.toInt) (J 118 x130.toNatClampNeg) (J 120 x130.toNatClampNeg) (J 20 2).toInt ∧ r133.toInt = CT2 (HF (J 116 x130.toNatClampNeg) (J 110) (J 111) x130.toInt (J 4 5) (J 109) (J 108) x) (J 22 2).toInt.toNat)) ∨ (r133 = r133 ∧ (0 ≤ x130.toInt ∧ x130.toInt < (J 3 1).toInt ∧ x132.toInt = 5) ∧ ((J 116 x130.toNatClampNeg).toInt = 6 → r133.toInt = 0) ∧ (¬ (J 116 x130.toNatClampNeg).toInt = 6 → ∃ x : Nat → Int32, SND x (J 101) (fun k => I 6 1 (elt E P 20 k)) (fun k => I 6 3 (elt E P 20 k)) (fun k => I 6 5 (elt E P 20 k)) (CUTP (J 105) (J 106) (J 107) (J 21 2).toInt x130.toInt) (J 118 x130.toNatClampNeg) (J 120 x130.toNatClampNeg) (J 20 2).toInt ∧ r133.toInt = CT1 (HF (J 116 x130.toNatClampNeg) (J 110) (J 111) x130.toInt (J 4 5) (J 109) (J 108) x) (J 22 2).toInt.toNat))) := hp133
            refine lv_pop hx hb dL_law_652 rfl ?_
            refine lv_aload_n hx hb dL_law_653 rfl (lv_at hl 3 rfl) ?_
            refine lv_aload_n hx hb dL_law_654 rfl (lv_at hl 1 rfl) ?_
            refine lv_iload_n hx hb dL_law_655 rfl (lv_at hl 0 rfl) ?_
            refine lv_iconst (v := 1) hx hb dL_law_656 (by decide) ?_
            refine lv_iadd hx hb dL_law_657 ?_
            refine lv_topi (fun x134 (e134 : x134 = i + 1) => ?_)
            try have t134 : x134.toInt = i.toInt + 1 := tadd e134 rfl kp1 (by omega)
            have hin : vp_in x134 Lx := tin rfl (by omega)
            refine va_sld hx hb hX hbl hbA hW.2.2.1 hin dL_law_658 ?_
            refine lv_as x130 (by rw [e130, e129, e134]) ?_
            refine lv_aload_n hx hb dL_law_659 rfl (lv_at hl 1 rfl) ?_
            refine lv_iload_n hx hb dL_law_660 rfl (lv_at hl 0 rfl) ?_
            refine lv_iconst (v := 2) hx hb dL_law_661 (by decide) ?_
            refine lv_iadd hx hb dL_law_662 ?_
            refine lv_topi (fun x135 (e135 : x135 = i + 2) => ?_)
            try have t135 : x135.toInt = i.toInt + 2 := tadd e135 rfl kp2 (by omega)
            have hin : vp_in x135 Lx := tin rfl (by omega)
            refine va_sld hx hb hX hbl hbA hW.2.2.1 hin dL_law_663 ?_
            refine lv_as x132 (by rw [e132, e131, e135]) ?_
            refine ci2_ C (WB_R hW) (runV (x := g.2.2.1 13) (As := [.int x130, .int x132]) (rest := []) (T := (((hv J [42] [(4, 6), (4, 7)] u133.1), L, (hv I [] [(6, 6), (6, 7)] u133.2), P, E, N), sgM g)) C (WB_R hW) (c_X12_minuteOf_e l g (hv J [42] [(4, 6), (4, 7)] u133.1) L (hv I [] [(6, 6), (6, 7)] u133.2) P E N H.size x130 x132 hwm hrel32) mi_X12_minuteOf tw_1386 (recv_ (T := (((hv J [42] [(4, 6), (4, 7)] u133.1), L, (hv I [] [(6, 6), (6, 7)] u133.2), P, E, N), sgM g)) C (WB_R hW) (mm_ rfl) rfl rfl) ⟨rfl, rfl, Nat.le_of_ble_eq_true rfl, Nat.le_of_ble_eq_true rfl⟩ rfl hl.1 rfl (Nat.le_of_ble_eq_true rfl) dL_law_664 ⟨by show 1000 + 10 * k + 0 + 0 ≤ 600000; omega, by show 200000 + 20100 * k + 0 + 0 ≤ 7302250; omega⟩) (fun r136 u136 H locs hp136 hB hk hS => ?_)
            have hW : WB g A s.heap H locs ((hv (hv J [42] [(4, 6), (4, 7)] u133.1) [100, 146, 150, 151, 152] [(13, 47), (13, 48)] u136), L, (hv I [] [(6, 6), (6, 7)] u133.2), P, E, N) ((sgX g ++ dy) ++ sgM g) := joinR hW hB hk hS (frsub C (WB_R hW)) (fun x hx => cel_x (hv_x rfl rfl (notm hW x hx)))
            obtain ⟨hc136, hf136_0⟩ : ((r136.toInt = (-1) ∧ (¬ (0 ≤ x130.toInt ∧ x130.toInt < (J 13 31).toInt))) ∨ (r136.toInt = (-2) ∧ (0 ≤ x130.toInt ∧ x130.toInt < (J 13 31).toInt ∧ (x132.toInt < 0 ∨ 6 < x132.toInt))) ∨ (r136 = J 116 x130.toNatClampNeg ∧ (0 ≤ x130.toInt ∧ x130.toInt < (J 13 31).toInt ∧ x132.toInt = 0)) ∨ (r136 = J 117 x130.toNatClampNeg ∧ (0 ≤ x130.toInt ∧ x130.toInt < (J 13 31).toInt ∧ x132.toInt = 1)) ∨ (r136 = J 118 x130.toNatClampNeg ∧ (0 ≤ x130.toInt ∧ x130.toInt < (J 13 31).toInt ∧ x132.toInt = 2)) ∨ (r136 = J 119 x130.toNatClampNeg ∧ (0 ≤ x130.toInt ∧ x130.toInt < (J 13 31).toInt ∧ x132.toInt = 3)) ∨ (r136 = J 120 x130.toNatClampNeg ∧ (0 ≤ x130.toInt ∧ x130.toInt < (J 13 31).toInt ∧ x132.toInt = 6)) ∨ (r136 = r136 ∧ (0 ≤ x130.toInt ∧ x130.toInt < (J 13 31).toInt ∧ x132.toInt = 4) ∧ ((J 116 x130.toNatClampNeg).toInt = 6 → r136.toInt = 0) ∧ (¬ (J 116 x130.toNatClampNeg).toInt = 6 → ∃ o : Int, CAV (hv J [42] [(4, 6), (4, 7)] u133.1) x130.toNatClampNeg r136.toInt o)) ∨ (r136 = r136 ∧ (0 ≤ x130.toInt ∧ x130.toInt < (J 13 31).toInt ∧ x132.toInt = 5) ∧ ((J 116 x130.toNatClampNeg).toInt = 6 → r136.toInt = 0) ∧ (¬ (J 116 x130.toNatClampNeg).toInt = 6 → ∃ s : Int, CAV (hv J [42] [(4, 6), (4, 7)] u133.1) x130.toNatClampNeg s r136.toInt))) ∧ (CAC (hv (hv J [42] [(4, 6), (4, 7)] u133.1) [100, 146, 150, 151, 152] [(13, 47), (13, 48)] u136)) := hp136
            refine lv_pop hx hb dL_law_667 rfl ?_
            refine lv_goto (tgt := 1390) hx hb dL_law_668 (by decide) ?_
            obtain ⟨x137, e137⟩ : ∃ y : Int32, y = i + 5 := ⟨_, rfl⟩
            refine lv_iinc (v := x137) (lv' := [(3, .int x137), (0, .ref b), (1, .ref (g.2.2.1 12)), (2, .ref (g.2.2.1 13))]) hx hb dL_law_1390 hl (k := 0) rfl (by rw [e137]; rfl) (by decide) rfl (fun ls hl => ?_)
            try have t137 : x137.toInt = i.toInt + 5 := tadd e137 rfl kp5 (by omega)
            refine lv_goto (tgt := 18) hx hb dL_law_1393 (by decide) ?_
            refine W.widen (k := 1000 + 10 * (k + 1)) (n := 200000 + 20100 * (k + 1)) (by omega) (by omega) ?_
            obtain hnew32 := rel_minuteOf k g J I P E N dy r133 x130 x132 r136 u133 u136 hk64 hwf0 hwm0 hnow0 hrl0 hac0 hrel0 hrel1 hrel2 hrel3 hrel4 hrel5 hrel6 hrel7 hrel8 hrel9 hrel10 hrel11 hrel12 hrel13 hrel14 hrel15 hrel16 hrel17 hrel18 hrel19 hrel20 hrel21 hrel22 hrel23 hrel24 hrel25 hrel26 hrel27 hrel28 hrel29 hrel30 hrel31 hrel32 hrel33 hrel34 hc133 hc136 hf136_0
            exact ih (k + 1) x137 (hv (hv J [42] [(4, 6), (4, 7)] u133.1) [100, 146, 150, 151, 152] [(13, 47), (13, 48)] u136) L (hv I [] [(6, 6), (6, 7)] u133.2) P E N dy H locs ls (by omega) (by omega) (by omega) hwf hwm hnow hrl hac hrel0 hrel1 hrel2 hrel3 hrel4 hrel5 hrel6 hrel7 hrel8 hrel9 hrel10 hrel11 hrel12 hrel13 hrel14 hrel15 hrel16 hrel17 hrel18 hrel19 hrel20 hrel21 hrel22 hrel23 hrel24 hrel25 hrel26 hrel27 hrel28 hrel29 hrel30 (tol_s (a := J 13 49) (k := k) hk64 (Or.inl rfl) hrel31) hnew32 hrel33 hrel34 hW (lv_sub hl [0, 1, 2, 3] rfl)
          · refine lv_tableIn (off := 639) (tgt := 671) hx hb dL_law_32 (Int.not_lt.mpr c6) (Int.not_lt.mpr c6b) (by rw [c6k]; rfl) (by decide) ?_
            refine lv_aload_n hx hb dL_law_671 rfl (lv_at hl 2 rfl) ?_
            refine lv_aload_n hx hb dL_law_672 rfl (lv_at hl 1 rfl) ?_
            refine lv_iload_n hx hb dL_law_673 rfl (lv_at hl 0 rfl) ?_
            refine lv_iconst (v := 1) hx hb dL_law_674 (by decide) ?_
            refine lv_iadd hx hb dL_law_675 ?_
            refine lv_topi (fun x138 (e138 : x138 = i + 1) => ?_)
            try have t138 : x138.toInt = i.toInt + 1 := tadd e138 rfl kp1 (by omega)
            have hin : vp_in x138 Lx := tin rfl (by omega)
            refine va_sld hx hb hX hbl hbA hW.2.2.1 hin dL_law_676 ?_
            refine lv_topi (fun x139 (e139 : x139 = xs x138.toNatClampNeg) => ?_)
            refine lv_aload_n hx hb dL_law_677 rfl (lv_at hl 1 rfl) ?_
            refine lv_iload_n hx hb dL_law_678 rfl (lv_at hl 0 rfl) ?_
            refine lv_iconst (v := 2) hx hb dL_law_679 (by decide) ?_
            refine lv_iadd hx hb dL_law_680 ?_
            refine lv_topi (fun x140 (e140 : x140 = i + 2) => ?_)
            try have t140 : x140.toInt = i.toInt + 2 := tadd e140 rfl kp2 (by omega)
            have hin : vp_in x140 Lx := tin rfl (by omega)
            refine va_sld hx hb hX hbl hbA hW.2.2.1 hin dL_law_681 ?_
            refine lv_topi (fun x141 (e141 : x141 = xs x140.toNatClampNeg) => ?_)
            refine ci2_ C (WB_L hW) (runV (x := g.2.2.1 12) (As := [.int x139, .int x141]) (rest := []) (T := ((J, L, I, P, E, N), sgX g ++ dy)) C (WB_L hW) (c_X11_heard_e l g J L I P E N dy H.size x139 x141 hwf hrel21 hrel20 hrel27 hrel28 hrel9 hnow.2.1) mi_X11_heard tw_723 (recv_ (T := ((J, L, I, P, E, N), sgX g ++ dy)) C (WB_L hW) (mx_ rfl) rfl rfl) ⟨rfl, rfl, Nat.le_of_ble_eq_true rfl, Nat.le_of_ble_eq_true rfl⟩ rfl hl.1 rfl (Nat.le_of_ble_eq_true rfl) dL_law_682 ⟨by show 1000 + 10 * k + 0 ≤ 600000; omega, by show 200000 + 20100 * k + 0 ≤ 7302250; omega⟩) (fun r142 u142 H locs hp142 hB hk hS => ?_)
            have hW : WB g A s.heap H locs ((hv J [42] [] u142.1), L, (hv I [] [(6, 6), (6, 7)] u142.2), P, E, N) ((sgX g ++ dy) ++ sgM g) := joinL hW hB hk hS (frsub C (WB_L hW)) (okM hW (fun r h => hv_m (J := J) (R := [42]) (F := []) rfl rfl h) (fun r h => rfl))
            have hc142 : ((r142.toInt = (-1) ∧ (¬ ((0 ≤ x139.toInt ∧ x139.toInt < (J 3 1).toInt) ∧ 0 ≤ x141.toInt ∧ x141.toInt < (J 22 2).toInt))) ∨ (r142 = r142 ∧ ((0 ≤ x139.toInt ∧ x139.toInt < (J 3 1).toInt) ∧ 0 ≤ x141.toInt ∧ x141.toInt < (J 22 2).toInt) ∧ (∃ x : Nat → Int32, SND x (J 101) (fun k => I 6 1 (elt E P 20 k)) (fun k => I 6 3 (elt E P 20 k)) (fun k => I 6 5 (elt E P 20 k)) (CUTP (J 105) (J 106) (J 107) (J 21 2).toInt x139.toInt) (J 118 x139.toNatClampNeg) (J 120 x139.toNatClampNeg) (J 20 2).toInt ∧ r142.toInt = HWV (J 116 x139.toNatClampNeg) (J 110 x141.toNatClampNeg) (J 111 x141.toNatClampNeg) x139.toInt (J 4 5 * J 109 x141.toNatClampNeg).toInt (x (J 108 x141.toNatClampNeg).toNatClampNeg).toInt))) := hp142
            refine lv_pop hx hb dL_law_685 rfl ?_
            refine lv_aload_n hx hb dL_law_686 rfl (lv_at hl 3 rfl) ?_
            refine lv_aload_n hx hb dL_law_687 rfl (lv_at hl 1 rfl) ?_
            refine lv_iload_n hx hb dL_law_688 rfl (lv_at hl 0 rfl) ?_
            refine lv_iconst (v := 1) hx hb dL_law_689 (by decide) ?_
            refine lv_iadd hx hb dL_law_690 ?_
            refine lv_topi (fun x143 (e143 : x143 = i + 1) => ?_)
            try have t143 : x143.toInt = i.toInt + 1 := tadd e143 rfl kp1 (by omega)
            have hin : vp_in x143 Lx := tin rfl (by omega)
            refine va_sld hx hb hX hbl hbA hW.2.2.1 hin dL_law_691 ?_
            refine lv_as x139 (by rw [e139, e138, e143]) ?_
            refine lv_aload_n hx hb dL_law_692 rfl (lv_at hl 1 rfl) ?_
            refine lv_iload_n hx hb dL_law_693 rfl (lv_at hl 0 rfl) ?_
            refine lv_iconst (v := 2) hx hb dL_law_694 (by decide) ?_
            refine lv_iadd hx hb dL_law_695 ?_
            refine lv_topi (fun x144 (e144 : x144 = i + 2) => ?_)
            try have t144 : x144.toInt = i.toInt + 2 := tadd e144 rfl kp2 (by omega)
            have hin : vp_in x144 Lx := tin rfl (by omega)
            refine va_sld hx hb hX hbl hbA hW.2.2.1 hin dL_law_696 ?_
            refine lv_as x141 (by rw [e141, e140, e144]) ?_
            refine ci2_ C (WB_R hW) (runV (x := g.2.2.1 13) (As := [.int x139, .int x141]) (rest := []) (T := (((hv J [42] [] u142.1), L, (hv I [] [(6, 6), (6, 7)] u142.2), P, E, N), sgM g)) C (WB_R hW) (c_X12_heard_e l g (hv J [42] [] u142.1) L (hv I [] [(6, 6), (6, 7)] u142.2) P E N H.size x139 x141 hwm) mi_X12_heard tw_1402 (recv_ (T := (((hv J [42] [] u142.1), L, (hv I [] [(6, 6), (6, 7)] u142.2), P, E, N), sgM g)) C (WB_R hW) (mm_ rfl) rfl rfl) ⟨rfl, rfl, Nat.le_of_ble_eq_true rfl, Nat.le_of_ble_eq_true rfl⟩ rfl hl.1 rfl (Nat.le_of_ble_eq_true rfl) dL_law_697 ⟨by show 1000 + 10 * k + 0 + 0 ≤ 600000; omega, by show 200000 + 20100 * k + 0 + 0 ≤ 7302250; omega⟩) (fun r145 u145 H locs hp145 hB hk hS => ?_)
            have hW : WB g A s.heap H locs ((hv (hv J [42] [] u142.1) [100, 146] [] u145), L, (hv I [] [(6, 6), (6, 7)] u142.2), P, E, N) ((sgX g ++ dy) ++ sgM g) := joinR hW hB hk hS (frsub C (WB_R hW)) (fun x hx => cel_x (hv_x rfl rfl (notm hW x hx)))
            refine lv_pop hx hb dL_law_700 rfl ?_
            refine lv_goto (tgt := 1390) hx hb dL_law_701 (by decide) ?_
            obtain ⟨x146, e146⟩ : ∃ y : Int32, y = i + 5 := ⟨_, rfl⟩
            refine lv_iinc (v := x146) (lv' := [(3, .int x146), (0, .ref b), (1, .ref (g.2.2.1 12)), (2, .ref (g.2.2.1 13))]) hx hb dL_law_1390 hl (k := 0) rfl (by rw [e146]; rfl) (by decide) rfl (fun ls hl => ?_)
            try have t146 : x146.toInt = i.toInt + 5 := tadd e146 rfl kp5 (by omega)
            refine lv_goto (tgt := 18) hx hb dL_law_1393 (by decide) ?_
            refine W.widen (k := 1000 + 10 * (k + 1)) (n := 200000 + 20100 * (k + 1)) (by omega) (by omega) ?_
            exact ih (k + 1) x146 (hv (hv J [42] [] u142.1) [100, 146] [] u145) L (hv I [] [(6, 6), (6, 7)] u142.2) P E N dy H locs ls (by omega) (by omega) (by omega) hwf hwm hnow hrl hac hrel0 hrel1 hrel2 hrel3 hrel4 hrel5 hrel6 hrel7 hrel8 hrel9 hrel10 hrel11 hrel12 hrel13 hrel14 hrel15 hrel16 hrel17 hrel18 hrel19 hrel20 hrel21 hrel22 hrel23 hrel24 hrel25 hrel26 hrel27 hrel28 hrel29 hrel30 (tol_s (a := J 13 49) (k := k) hk64 (Or.inl rfl) hrel31) hrel32 hrel33 hrel34 hW (lv_sub hl [0, 1, 2, 3] rfl)
          · refine lv_tableIn (off := 672) (tgt := 704) hx hb dL_law_32 (Int.not_lt.mpr c6) (Int.not_lt.mpr c6b) (by rw [c6k]; rfl) (by decide) ?_
            refine lv_aload_n hx hb dL_law_704 rfl (lv_at hl 2 rfl) ?_
            refine lv_aload_n hx hb dL_law_705 rfl (lv_at hl 1 rfl) ?_
            refine lv_iload_n hx hb dL_law_706 rfl (lv_at hl 0 rfl) ?_
            refine lv_iconst (v := 1) hx hb dL_law_707 (by decide) ?_
            refine lv_iadd hx hb dL_law_708 ?_
            refine lv_topi (fun x147 (e147 : x147 = i + 1) => ?_)
            try have t147 : x147.toInt = i.toInt + 1 := tadd e147 rfl kp1 (by omega)
            have hin : vp_in x147 Lx := tin rfl (by omega)
            refine va_sld hx hb hX hbl hbA hW.2.2.1 hin dL_law_709 ?_
            refine lv_topi (fun x148 (e148 : x148 = xs x147.toNatClampNeg) => ?_)
            refine lv_aload_n hx hb dL_law_710 rfl (lv_at hl 1 rfl) ?_
            refine lv_iload_n hx hb dL_law_711 rfl (lv_at hl 0 rfl) ?_
            refine lv_iconst (v := 2) hx hb dL_law_712 (by decide) ?_
            refine lv_iadd hx hb dL_law_713 ?_
            refine lv_topi (fun x149 (e149 : x149 = i + 2) => ?_)
            try have t149 : x149.toInt = i.toInt + 2 := tadd e149 rfl kp2 (by omega)
            have hin : vp_in x149 Lx := tin rfl (by omega)
            refine va_sld hx hb hX hbl hbA hW.2.2.1 hin dL_law_714 ?_
            refine lv_topi (fun x150 (e150 : x150 = xs x149.toNatClampNeg) => ?_)
            refine lv_i2l (v := x150.toInt64) hx hb dL_law_715 rfl ?_
            refine lv_bipush (v := 32) hx hb dL_law_716 (by decide) ?_
            refine lv_lshl hx hb dL_law_718 rfl ?_
            refine lv_topl (fun z151 ez151 => ?_)
            refine lv_aload_n hx hb dL_law_719 rfl (lv_at hl 1 rfl) ?_
            refine lv_iload_n hx hb dL_law_720 rfl (lv_at hl 0 rfl) ?_
            refine lv_iconst (v := 3) hx hb dL_law_721 (by decide) ?_
            refine lv_iadd hx hb dL_law_722 ?_
            refine lv_topi (fun x152 (e152 : x152 = i + 3) => ?_)
            try have t152 : x152.toInt = i.toInt + 3 := tadd e152 rfl kp3 (by omega)
            have hin : vp_in x152 Lx := tin rfl (by omega)
            refine va_sld hx hb hX hbl hbA hW.2.2.1 hin dL_law_723 ?_
            refine lv_topi (fun x153 (e153 : x153 = xs x152.toNatClampNeg) => ?_)
            refine lv_i2l (v := x153.toInt64) hx hb dL_law_724 rfl ?_
            refine lv_ldc2 hx hb C.1.2.2.2.1 (hts _ tw_1548) dL_law_725 ?_
            refine lv_land hx hb dL_law_728 ?_
            refine lv_topl (fun z154 ez154 => ?_)
            refine lv_lor hx hb dL_law_729 ?_
            refine lv_topl (fun z155 ez155 => ?_)
            refine ci2_ C (WB_L hW) (runV (x := g.2.2.1 12) (As := [.int x148, .long z155]) (rest := []) (T := ((J, L, I, P, E, N), sgX g ++ dy)) C (WB_L hW) (c_X11_feed_e l g J L I P E N dy H.size x148 z155 hwf ⟨by omega, by omega⟩) mi_X11_feed tw_728 (recv_ (T := ((J, L, I, P, E, N), sgX g ++ dy)) C (WB_L hW) (mx_ rfl) rfl rfl) ⟨rfl, rfl, Nat.le_of_ble_eq_true rfl, Nat.le_of_ble_eq_true rfl⟩ rfl hl.1 rfl (Nat.le_of_ble_eq_true rfl) dL_law_730 ⟨by show 1000 + 10 * k + 0 ≤ 600000; omega, by show 200000 + 20100 * k + 0 ≤ 7302250; omega⟩) (fun r156 u156 H locs hp156 hB hk hS => ?_)
            have hW : WB g A s.heap H locs ((hv J [42, 43] [(11, 2)] u156), L, I, P, E, N) ((sgX g ++ dy) ++ sgM g) := joinL hW hB hk hS (frsub C (WB_L hW)) (okM hW (fun r h => hv_m (J := J) (R := [42, 43]) (F := [(11, 2)]) rfl rfl h) (fun r h => rfl))
            have hc156 : ((r156.toInt = (-4) ∧ (x148.toInt < 1) ∧ u156 11 2 = J 11 2 ∧ u156 43 = J 43) ∨ (r156.toInt = (-6) ∧ (1 ≤ x148.toInt ∧ (8 < x148.toInt ∨ 60 - (J 11 2).toInt < x148.toInt)) ∧ u156 11 2 = J 11 2 ∧ u156 43 = J 43) ∨ (r156.toInt = (J 11 2).toInt + x148.toInt ∧ (1 ≤ x148.toInt ∧ x148.toInt ≤ 8 ∧ (J 11 2).toInt + x148.toInt ≤ 60) ∧ (u156 11 2).toInt = (J 11 2).toInt + x148.toInt ∧ FEED (J 43) (u156 43) (BYC z155) (J 11 2).toInt x148.toInt)) := hp156
            refine lv_pop hx hb dL_law_733 rfl ?_
            refine lv_aload_n hx hb dL_law_734 rfl (lv_at hl 3 rfl) ?_
            refine lv_aload_n hx hb dL_law_735 rfl (lv_at hl 1 rfl) ?_
            refine lv_iload_n hx hb dL_law_736 rfl (lv_at hl 0 rfl) ?_
            refine lv_iconst (v := 1) hx hb dL_law_737 (by decide) ?_
            refine lv_iadd hx hb dL_law_738 ?_
            refine lv_topi (fun x157 (e157 : x157 = i + 1) => ?_)
            try have t157 : x157.toInt = i.toInt + 1 := tadd e157 rfl kp1 (by omega)
            have hin : vp_in x157 Lx := tin rfl (by omega)
            refine va_sld hx hb hX hbl hbA hW.2.2.1 hin dL_law_739 ?_
            refine lv_as x148 (by rw [e148, e147, e157]) ?_
            refine lv_aload_n hx hb dL_law_740 rfl (lv_at hl 1 rfl) ?_
            refine lv_iload_n hx hb dL_law_741 rfl (lv_at hl 0 rfl) ?_
            refine lv_iconst (v := 2) hx hb dL_law_742 (by decide) ?_
            refine lv_iadd hx hb dL_law_743 ?_
            refine lv_topi (fun x158 (e158 : x158 = i + 2) => ?_)
            try have t158 : x158.toInt = i.toInt + 2 := tadd e158 rfl kp2 (by omega)
            have hin : vp_in x158 Lx := tin rfl (by omega)
            refine va_sld hx hb hX hbl hbA hW.2.2.1 hin dL_law_744 ?_
            refine lv_as x150 (by rw [e150, e149, e158]) ?_
            refine lv_i2l (v := x150.toInt64) hx hb dL_law_745 rfl ?_
            refine lv_bipush (v := 32) hx hb dL_law_746 (by decide) ?_
            refine lv_lshl hx hb dL_law_748 rfl ?_
            refine lv_topl (fun z159 ez159 => ?_)
            refine lv_aload_n hx hb dL_law_749 rfl (lv_at hl 1 rfl) ?_
            refine lv_iload_n hx hb dL_law_750 rfl (lv_at hl 0 rfl) ?_
            refine lv_iconst (v := 3) hx hb dL_law_751 (by decide) ?_
            refine lv_iadd hx hb dL_law_752 ?_
            refine lv_topi (fun x160 (e160 : x160 = i + 3) => ?_)
            try have t160 : x160.toInt = i.toInt + 3 := tadd e160 rfl kp3 (by omega)
            have hin : vp_in x160 Lx := tin rfl (by omega)
            refine va_sld hx hb hX hbl hbA hW.2.2.1 hin dL_law_753 ?_
            refine lv_as x153 (by rw [e153, e152, e160]) ?_
            refine lv_i2l (v := x153.toInt64) hx hb dL_law_754 rfl ?_
            refine lv_ldc2 hx hb C.1.2.2.2.1 (hts _ tw_1548) dL_law_755 ?_
            refine lv_land hx hb dL_law_758 ?_
            refine lv_topl (fun z161 ez161 => ?_)
            refine lv_lor hx hb dL_law_759 ?_
            refine lv_topl (fun z162 ez162 => ?_)
            refine ci2_ C (WB_R hW) (runV (x := g.2.2.1 13) (As := [.int x148, .long z162]) (rest := []) (T := (((hv J [42, 43] [(11, 2)] u156), L, I, P, E, N), sgM g)) C (WB_R hW) (c_X12_feed_e l g (hv J [42, 43] [(11, 2)] u156) L I P E N H.size x148 z162 hwm) mi_X12_feed tw_1410 (recv_ (T := (((hv J [42, 43] [(11, 2)] u156), L, I, P, E, N), sgM g)) C (WB_R hW) (mm_ rfl) rfl rfl) ⟨rfl, rfl, Nat.le_of_ble_eq_true rfl, Nat.le_of_ble_eq_true rfl⟩ rfl hl.1 rfl (Nat.le_of_ble_eq_true rfl) dL_law_760 ⟨by show 1000 + 10 * k + 0 + 0 ≤ 600000; omega, by show 200000 + 20100 * k + 0 + 0 ≤ 7302250; omega⟩) (fun r163 u163 H locs hp163 hB hk hS => ?_)
            have hW : WB g A s.heap H locs ((hv (hv J [42, 43] [(11, 2)] u156) [100, 153] [(13, 55)] u163), L, I, P, E, N) ((sgX g ++ dy) ++ sgM g) := joinR hW hB hk hS (frsub C (WB_R hW)) (fun x hx => cel_x (hv_x rfl rfl (notm hW x hx)))
            obtain ⟨hwm, hc163⟩ : WM (hv (hv J [42, 43] [(11, 2)] u156) [100, 153] [(13, 55)] u163) ∧ ((r163.toInt = (-4) ∧ (x148.toInt < 1) ∧ u163 13 55 = J 13 55 ∧ u163 153 = J 153) ∨ (r163.toInt = (-6) ∧ (1 ≤ x148.toInt ∧ (8 < x148.toInt ∨ 60 - (J 13 55).toInt < x148.toInt)) ∧ u163 13 55 = J 13 55 ∧ u163 153 = J 153) ∨ (r163.toInt = (J 13 55).toInt + x148.toInt ∧ (1 ≤ x148.toInt ∧ x148.toInt ≤ 8 ∧ (J 13 55).toInt + x148.toInt ≤ 60) ∧ (u163 13 55).toInt = (J 13 55).toInt + x148.toInt ∧ FEED (J 153) (u163 153) (BYM z162) (J 13 55).toInt x148.toInt)) := hp163
            have hzz : z155 = z162 := by simp only [ez162, ez161, ez159, ez155, ez154, ez151]
            refine lv_pop hx hb dL_law_763 rfl ?_
            refine lv_goto (tgt := 1390) hx hb dL_law_764 (by decide) ?_
            obtain ⟨x164, e164⟩ : ∃ y : Int32, y = i + 5 := ⟨_, rfl⟩
            refine lv_iinc (v := x164) (lv' := [(3, .int x164), (0, .ref b), (1, .ref (g.2.2.1 12)), (2, .ref (g.2.2.1 13))]) hx hb dL_law_1390 hl (k := 0) rfl (by rw [e164]; rfl) (by decide) rfl (fun ls hl => ?_)
            try have t164 : x164.toInt = i.toInt + 5 := tadd e164 rfl kp5 (by omega)
            refine lv_goto (tgt := 18) hx hb dL_law_1393 (by decide) ?_
            refine W.widen (k := 1000 + 10 * (k + 1)) (n := 200000 + 20100 * (k + 1)) (by omega) (by omega) ?_
            obtain ⟨hnew13, hnew14⟩ := rel_feed k g J I P E N dy r156 x148 u156 z155 r163 u163 z162 hk64 hwf0 hwm0 hnow0 hrl0 hac0 hrel0 hrel1 hrel2 hrel3 hrel4 hrel5 hrel6 hrel7 hrel8 hrel9 hrel10 hrel11 hrel12 hrel13 hrel14 hrel15 hrel16 hrel17 hrel18 hrel19 hrel20 hrel21 hrel22 hrel23 hrel24 hrel25 hrel26 hrel27 hrel28 hrel29 hrel30 hrel31 hrel32 hrel33 hrel34 hc156 hc163 hzz
            exact ih (k + 1) x164 (hv (hv J [42, 43] [(11, 2)] u156) [100, 153] [(13, 55)] u163) L I P E N dy H locs ls (by omega) (by omega) (by omega) hwf hwm hnow hrl hac hrel0 hrel1 hrel2 hrel3 hrel4 hrel5 hrel6 hrel7 hrel8 hrel9 hrel10 hrel11 hrel12 hnew13 hnew14 hrel15 hrel16 hrel17 hrel18 hrel19 hrel20 hrel21 hrel22 hrel23 hrel24 hrel25 hrel26 hrel27 hrel28 hrel29 hrel30 (tol_s (a := J 13 49) (k := k) hk64 (Or.inl rfl) hrel31) hrel32 hrel33 hrel34 hW (lv_sub hl [0, 1, 2, 3] rfl)
          · refine lv_tableIn (off := 735) (tgt := 767) hx hb dL_law_32 (Int.not_lt.mpr c6) (Int.not_lt.mpr c6b) (by rw [c6k]; rfl) (by decide) ?_
            refine lv_aload_n hx hb dL_law_767 rfl (lv_at hl 2 rfl) ?_
            refine lv_aload_n hx hb dL_law_768 rfl (lv_at hl 1 rfl) ?_
            refine lv_iload_n hx hb dL_law_769 rfl (lv_at hl 0 rfl) ?_
            refine lv_iconst (v := 1) hx hb dL_law_770 (by decide) ?_
            refine lv_iadd hx hb dL_law_771 ?_
            refine lv_topi (fun x165 (e165 : x165 = i + 1) => ?_)
            try have t165 : x165.toInt = i.toInt + 1 := tadd e165 rfl kp1 (by omega)
            have hin : vp_in x165 Lx := tin rfl (by omega)
            refine va_sld hx hb hX hbl hbA hW.2.2.1 hin dL_law_772 ?_
            refine lv_topi (fun x166 (e166 : x166 = xs x165.toNatClampNeg) => ?_)
            refine lv_aload_n hx hb dL_law_773 rfl (lv_at hl 1 rfl) ?_
            refine lv_iload_n hx hb dL_law_774 rfl (lv_at hl 0 rfl) ?_
            refine lv_iconst (v := 2) hx hb dL_law_775 (by decide) ?_
            refine lv_iadd hx hb dL_law_776 ?_
            refine lv_topi (fun x167 (e167 : x167 = i + 2) => ?_)
            try have t167 : x167.toInt = i.toInt + 2 := tadd e167 rfl kp2 (by omega)
            have hin : vp_in x167 Lx := tin rfl (by omega)
            refine va_sld hx hb hX hbl hbA hW.2.2.1 hin dL_law_777 ?_
            refine lv_topi (fun x168 (e168 : x168 = xs x167.toNatClampNeg) => ?_)
            refine ci2_ C (WB_L hW) (runV (x := g.2.2.1 12) (As := [.int x166, .int x168]) (rest := []) (T := ((J, L, I, P, E, N), sgX g ++ dy)) C (WB_L hW) (c_X11_term_a l g J L I P E N dy H.size x166 x168 hwf ⟨by omega, by omega⟩) mi_X11_term tw_736 (recv_ (T := ((J, L, I, P, E, N), sgX g ++ dy)) C (WB_L hW) (mx_ rfl) rfl rfl) ⟨rfl, rfl, Nat.le_of_ble_eq_true rfl, Nat.le_of_ble_eq_true rfl⟩ rfl hl.1 rfl (Nat.le_of_ble_eq_true rfl) dL_law_778 ⟨by show 1000 + 10 * k + 10 ≤ 600000; omega, by show 200000 + 20100 * k + 20100 ≤ 7302250; omega⟩) (fun r169 u169 H locs hp169 hB hk hS => ?_)
            have hW : WB g A s.heap H locs ((hv J [42, 44] [(11, 2), (11, 3), (11, 4), (25, 0), (25, 2)] u169.1), L, (hv I [10, 46] [] u169.2.1), (hv P [10, 35, 46] [] u169.2.2.1), (hv1 E [25] u169.2.2.2.1), u169.2.2.2.2.1) ((sgX g ++ u169.2.2.2.2.2) ++ sgM g) := joinL hW hB hk hS (frsub C (WB_L hW)) (okM hW (fun r h => hv_m (J := J) (R := [42, 44]) (F := [(11, 2), (11, 3), (11, 4), (25, 0), (25, 2)]) rfl rfl h) (fun r h => rfl))
            obtain ⟨hc169, hwf, hdd169, hf169_0⟩ := hp169
            refine lv_pop hx hb dL_law_781 rfl ?_
            refine lv_aload_n hx hb dL_law_782 rfl (lv_at hl 3 rfl) ?_
            refine lv_aload_n hx hb dL_law_783 rfl (lv_at hl 1 rfl) ?_
            refine lv_iload_n hx hb dL_law_784 rfl (lv_at hl 0 rfl) ?_
            refine lv_iconst (v := 1) hx hb dL_law_785 (by decide) ?_
            refine lv_iadd hx hb dL_law_786 ?_
            refine lv_topi (fun x170 (e170 : x170 = i + 1) => ?_)
            try have t170 : x170.toInt = i.toInt + 1 := tadd e170 rfl kp1 (by omega)
            have hin : vp_in x170 Lx := tin rfl (by omega)
            refine va_sld hx hb hX hbl hbA hW.2.2.1 hin dL_law_787 ?_
            refine lv_as x166 (by rw [e166, e165, e170]) ?_
            refine lv_aload_n hx hb dL_law_788 rfl (lv_at hl 1 rfl) ?_
            refine lv_iload_n hx hb dL_law_789 rfl (lv_at hl 0 rfl) ?_
            refine lv_iconst (v := 2) hx hb dL_law_790 (by decide) ?_
            refine lv_iadd hx hb dL_law_791 ?_
            refine lv_topi (fun x171 (e171 : x171 = i + 2) => ?_)
            try have t171 : x171.toInt = i.toInt + 2 := tadd e171 rfl kp2 (by omega)
            have hin : vp_in x171 Lx := tin rfl (by omega)
            refine va_sld hx hb hX hbl hbA hW.2.2.1 hin dL_law_792 ?_
            refine lv_as x168 (by rw [e168, e167, e171]) ?_
            refine ci2_ C (WB_R hW) (runV (x := g.2.2.1 13) (As := [.int x166, .int x168]) (rest := []) (T := (((hv J [42, 44] [(11, 2), (11, 3), (11, 4), (25, 0), (25, 2)] u169.1), L, (hv I [10, 46] [] u169.2.1), (hv P [10, 35, 46] [] u169.2.2.1), (hv1 E [25] u169.2.2.2.1), u169.2.2.2.2.1), sgM g)) C (WB_R hW) (c_X12_term__e l g (hv J [42, 44] [(11, 2), (11, 3), (11, 4), (25, 0), (25, 2)] u169.1) L (hv I [10, 46] [] u169.2.1) (hv P [10, 35, 46] [] u169.2.2.1) (hv1 E [25] u169.2.2.2.1) u169.2.2.2.2.1 H.size x166 x168 hwm) mi_X12_term_ tw_1415 (recv_ (T := (((hv J [42, 44] [(11, 2), (11, 3), (11, 4), (25, 0), (25, 2)] u169.1), L, (hv I [10, 46] [] u169.2.1), (hv P [10, 35, 46] [] u169.2.2.1), (hv1 E [25] u169.2.2.2.1), u169.2.2.2.2.1), sgM g)) C (WB_R hW) (mm_ rfl) rfl rfl) ⟨rfl, rfl, Nat.le_of_ble_eq_true rfl, Nat.le_of_ble_eq_true rfl⟩ rfl hl.1 rfl (Nat.le_of_ble_eq_true rfl) dL_law_793 ⟨by show 1000 + 10 * k + 10 + 0 ≤ 600000; omega, by show 200000 + 20100 * k + 20100 + 0 ≤ 7302250; omega⟩) (fun r172 u172 H locs hp172 hB hk hS => ?_)
            have hW : WB g A s.heap H locs ((hv (hv J [42, 44] [(11, 2), (11, 3), (11, 4), (25, 0), (25, 2)] u169.1) [100, 121, 122, 123, 124] [(13, 40), (13, 55), (13, 56), (13, 57), (13, 58), (13, 59), (13, 60)] u172), L, (hv I [10, 46] [] u169.2.1), (hv P [10, 35, 46] [] u169.2.2.1), (hv1 E [25] u169.2.2.2.1), u169.2.2.2.2.1) ((sgX g ++ u169.2.2.2.2.2) ++ sgM g) := joinR hW hB hk hS (frsub C (WB_R hW)) (fun x hx => cel_x (hv_x rfl rfl (notm hW x hx)))
            obtain ⟨hwm, hc172⟩ : WM (hv (hv J [42, 44] [(11, 2), (11, 3), (11, 4), (25, 0), (25, 2)] u169.1) [100, 121, 122, 123, 124] [(13, 40), (13, 55), (13, 56), (13, 57), (13, 58), (13, 59), (13, 60)] u172) ∧ ((r172.toInt = (-2) ∧ (¬ (0 ≤ x166.toInt ∧ x166.toInt ≤ 3)) ∧ u172 13 40 = J 13 40 ∧ u172 121 = J 121 ∧ u172 122 = J 122 ∧ u172 123 = J 123 ∧ u172 124 = J 124 ∧ u172 13 55 = J 13 55) ∨ (r172.toInt = (-4) ∧ (0 ≤ x166.toInt ∧ x166.toInt ≤ 3 ∧ x168.toInt < (J 13 31).toInt) ∧ u172 13 40 = J 13 40 ∧ u172 121 = J 121 ∧ u172 122 = J 122 ∧ u172 123 = J 123 ∧ u172 124 = J 124 ∧ u172 13 55 = J 13 55) ∨ (r172.toInt = (-6) ∧ (0 ≤ x166.toInt ∧ x166.toInt ≤ 3 ∧ (J 13 31).toInt ≤ x168.toInt ∧ (9999 < x168.toInt ∨ (J 13 40).toInt = 30)) ∧ u172 13 40 = J 13 40 ∧ u172 121 = J 121 ∧ u172 122 = J 122 ∧ u172 123 = J 123 ∧ u172 124 = J 124 ∧ u172 13 55 = J 13 55) ∨ (r172 = r172 ∧ (0 ≤ x166.toInt ∧ x166.toInt ≤ 3 ∧ (J 13 31).toInt ≤ x168.toInt ∧ x168.toInt ≤ 9999 ∧ (J 13 40).toInt ≤ 29) ∧ (∃ q : Nat, r172.toInt = -20 - (q : Int) ∧ (PF (NX (J 153) (J 13 55)) 0 5 0 q ∨ ((∃ c, PT (NX (J 153) (J 13 55)) 0 5 0 q c) ∧ ¬ (q : Int) = (J 13 55).toInt))) ∧ (u172 13 55).toInt = 0 ∧ u172 13 40 = J 13 40 ∧ u172 121 = J 121 ∧ u172 122 = J 122 ∧ u172 123 = J 123 ∧ u172 124 = J 124) ∨ (r172.toInt = (J 13 40).toInt + 1 ∧ (0 ≤ x166.toInt ∧ x166.toInt ≤ 3 ∧ (J 13 31).toInt ≤ x168.toInt ∧ x168.toInt ≤ 9999 ∧ (J 13 40).toInt ≤ 29) ∧ (u172 13 40).toInt = (J 13 40).toInt + 1 ∧ (u172 13 55).toInt = 0 ∧ (∃ (q : Nat) (c : List Int), PT (NX (J 153) (J 13 55)) 0 5 0 q c ∧ (q : Int) = (J 13 55).toInt) ∧ u172 121 = up2 J 121 (J 13 40).toNatClampNeg (J 13 55) 121 ∧ u172 122 = up2 J 122 (J 13 40).toNatClampNeg x166 122 ∧ u172 123 = up2 J 123 (J 13 40).toNatClampNeg x168 123 ∧ TXC (J 124) (u172 124) (J 153) (60 * (J 13 40).toInt) (J 13 55).toInt)) := hp172
            refine lv_pop hx hb dL_law_796 rfl ?_
            refine lv_goto (tgt := 1390) hx hb dL_law_797 (by decide) ?_
            obtain ⟨x173, e173⟩ : ∃ y : Int32, y = i + 5 := ⟨_, rfl⟩
            refine lv_iinc (v := x173) (lv' := [(3, .int x173), (0, .ref b), (1, .ref (g.2.2.1 12)), (2, .ref (g.2.2.1 13))]) hx hb dL_law_1390 hl (k := 0) rfl (by rw [e173]; rfl) (by decide) rfl (fun ls hl => ?_)
            try have t173 : x173.toInt = i.toInt + 5 := tadd e173 rfl kp5 (by omega)
            refine lv_goto (tgt := 18) hx hb dL_law_1393 (by decide) ?_
            refine W.widen (k := 1000 + 10 * (k + 1)) (n := 200000 + 20100 * (k + 1)) (by omega) (by omega) ?_
            obtain ⟨hnew13, hnew14, hnew15, hnew16, hnew33⟩ := rel_term k g J I P E N dy r169 x166 u169 x168 r172 u172 hk64 hwf0 hwm0 hnow0 hrl0 hac0 hrel0 hrel1 hrel2 hrel3 hrel4 hrel5 hrel6 hrel7 hrel8 hrel9 hrel10 hrel11 hrel12 hrel13 hrel14 hrel15 hrel16 hrel17 hrel18 hrel19 hrel20 hrel21 hrel22 hrel23 hrel24 hrel25 hrel26 hrel27 hrel28 hrel29 hrel30 hrel31 hrel32 hrel33 hrel34 hc169 hf169_0 hc172
            exact ih (k + 1) x173 (hv (hv J [42, 44] [(11, 2), (11, 3), (11, 4), (25, 0), (25, 2)] u169.1) [100, 121, 122, 123, 124] [(13, 40), (13, 55), (13, 56), (13, 57), (13, 58), (13, 59), (13, 60)] u172) L (hv I [10, 46] [] u169.2.1) (hv P [10, 35, 46] [] u169.2.2.1) (hv1 E [25] u169.2.2.2.1) u169.2.2.2.2.1 u169.2.2.2.2.2 H locs ls (by omega) (by omega) (by omega) hwf hwm hnow hrl hac hrel0 hrel1 hrel2 hrel3 hrel4 hrel5 hrel6 hrel7 hrel8 hrel9 hrel10 hrel11 hrel12 hnew13 hnew14 hnew15 hnew16 hrel17 hrel18 hrel19 hrel20 hrel21 hrel22 hrel23 hrel24 hrel25 hrel26 hrel27 hrel28 hrel29 hrel30 (tol_s (a := J 13 49) (k := k) hk64 (Or.inl rfl) hrel31) hrel32 hnew33 hrel34 hW (lv_sub hl [0, 1, 2, 3] rfl)
          · refine lv_tableIn (off := 768) (tgt := 800) hx hb dL_law_32 (Int.not_lt.mpr c6) (Int.not_lt.mpr c6b) (by rw [c6k]; rfl) (by decide) ?_
            refine lv_aload_n hx hb dL_law_800 rfl (lv_at hl 2 rfl) ?_
            refine lv_aload_n hx hb dL_law_801 rfl (lv_at hl 1 rfl) ?_
            refine lv_iload_n hx hb dL_law_802 rfl (lv_at hl 0 rfl) ?_
            refine lv_iconst (v := 1) hx hb dL_law_803 (by decide) ?_
            refine lv_iadd hx hb dL_law_804 ?_
            refine lv_topi (fun x174 (e174 : x174 = i + 1) => ?_)
            try have t174 : x174.toInt = i.toInt + 1 := tadd e174 rfl kp1 (by omega)
            have hin : vp_in x174 Lx := tin rfl (by omega)
            refine va_sld hx hb hX hbl hbA hW.2.2.1 hin dL_law_805 ?_
            refine lv_topi (fun x175 (e175 : x175 = xs x174.toNatClampNeg) => ?_)
            refine lv_aload_n hx hb dL_law_806 rfl (lv_at hl 1 rfl) ?_
            refine lv_iload_n hx hb dL_law_807 rfl (lv_at hl 0 rfl) ?_
            refine lv_iconst (v := 2) hx hb dL_law_808 (by decide) ?_
            refine lv_iadd hx hb dL_law_809 ?_
            refine lv_topi (fun x176 (e176 : x176 = i + 2) => ?_)
            try have t176 : x176.toInt = i.toInt + 2 := tadd e176 rfl kp2 (by omega)
            have hin : vp_in x176 Lx := tin rfl (by omega)
            refine va_sld hx hb hX hbl hbA hW.2.2.1 hin dL_law_810 ?_
            refine lv_topi (fun x177 (e177 : x177 = xs x176.toNatClampNeg) => ?_)
            refine ci2_ C (WB_L hW) (runV (x := g.2.2.1 12) (As := [.int x175, .int x177]) (rest := []) (T := ((J, L, I, P, E, N), sgX g ++ dy)) C (WB_L hW) (c_X11_worth_e l g J L I P E N dy H.size x175 x177 hwf hrel21 hrel20 hrel27 hrel28 hrel9 (tmr_cdb hrel16) ⟨hnow.1, hnow.2.1⟩) mi_X11_worth tw_821 (recv_ (T := ((J, L, I, P, E, N), sgX g ++ dy)) C (WB_L hW) (mx_ rfl) rfl rfl) ⟨rfl, rfl, Nat.le_of_ble_eq_true rfl, Nat.le_of_ble_eq_true rfl⟩ rfl hl.1 rfl (Nat.le_of_ble_eq_true rfl) dL_law_811 ⟨by show 1000 + 10 * k + 0 ≤ 600000; omega, by show 200000 + 20100 * k + 0 ≤ 7302250; omega⟩) (fun r178 u178 H locs hp178 hB hk hS => ?_)
            have hW : WB g A s.heap H locs ((hv J [42, 45] [(4, 6), (4, 7), (8, 1), (8, 2), (8, 3), (8, 4), (8, 5), (8, 6), (8, 7), (8, 8), (8, 9)] u178.1), L, (hv I [] [(6, 6), (6, 7)] u178.2), P, E, N) ((sgX g ++ dy) ++ sgM g) := joinL hW hB hk hS (frsub C (WB_L hW)) (okM hW (fun r h => hv_m (J := J) (R := [42, 45]) (F := [(4, 6), (4, 7), (8, 1), (8, 2), (8, 3), (8, 4), (8, 5), (8, 6), (8, 7), (8, 8), (8, 9)]) rfl rfl h) (fun r h => rfl))
            have hc178 : ((r178.toInt = 1000000001 ∧ (¬ (0 ≤ x177.toInt ∧ x177.toInt < (J 3 1).toInt))) ∨ (r178.toInt = 1000000002 ∧ ((0 ≤ x177.toInt ∧ x177.toInt < (J 3 1).toInt) ∧ (x175.toInt < 0 ∨ 2 < x175.toInt))) ∨ (r178 = r178 ∧ ((0 ≤ x177.toInt ∧ x177.toInt < (J 3 1).toInt) ∧ 0 ≤ x175.toInt ∧ x175.toInt ≤ 2) ∧ WIF I P E N (J 25 2).toInt x175.toInt x177.toInt (fun s m9 => SCL (J 116 x177.toNatClampNeg) (hrw x177.toInt) (J 118 x177.toNatClampNeg) s m9 (J 120 x177.toNatClampNeg) (J 3 1 - x177) (J 22 2)) (TLY (fun x => SND x (J 101) (fun k => I 6 1 (elt E P 20 k)) (fun k => I 6 3 (elt E P 20 k)) (fun k => I 6 5 (elt E P 20 k)) (CUTP (J 105) (J 106) (J 107) (J 21 2).toInt x177.toInt) (J 118 x177.toNatClampNeg) (J 120 x177.toNatClampNeg) (J 20 2).toInt) (J 116 x177.toNatClampNeg) (fun x => HF (J 116 x177.toNatClampNeg) (J 110) (J 111) x177.toInt (J 4 5) (J 109) (J 108) x) (J 22 2).toInt.toNat) r178)) := hp178
            refine lv_pop hx hb dL_law_814 rfl ?_
            refine lv_aload_n hx hb dL_law_815 rfl (lv_at hl 3 rfl) ?_
            refine lv_aload_n hx hb dL_law_816 rfl (lv_at hl 1 rfl) ?_
            refine lv_iload_n hx hb dL_law_817 rfl (lv_at hl 0 rfl) ?_
            refine lv_iconst (v := 1) hx hb dL_law_818 (by decide) ?_
            refine lv_iadd hx hb dL_law_819 ?_
            refine lv_topi (fun x179 (e179 : x179 = i + 1) => ?_)
            try have t179 : x179.toInt = i.toInt + 1 := tadd e179 rfl kp1 (by omega)
            have hin : vp_in x179 Lx := tin rfl (by omega)
            refine va_sld hx hb hX hbl hbA hW.2.2.1 hin dL_law_820 ?_
            refine lv_as x175 (by rw [e175, e174, e179]) ?_
            refine lv_aload_n hx hb dL_law_821 rfl (lv_at hl 1 rfl) ?_
            refine lv_iload_n hx hb dL_law_822 rfl (lv_at hl 0 rfl) ?_
            refine lv_iconst (v := 2) hx hb dL_law_823 (by decide) ?_
            refine lv_iadd hx hb dL_law_824 ?_
            refine lv_topi (fun x180 (e180 : x180 = i + 2) => ?_)
            try have t180 : x180.toInt = i.toInt + 2 := tadd e180 rfl kp2 (by omega)
            have hin : vp_in x180 Lx := tin rfl (by omega)
            refine va_sld hx hb hX hbl hbA hW.2.2.1 hin dL_law_825 ?_
            refine lv_as x177 (by rw [e177, e176, e180]) ?_
            refine ci2_ C (WB_R hW) (runV (x := g.2.2.1 13) (As := [.int x175, .int x177]) (rest := []) (T := (((hv J [42, 45] [(4, 6), (4, 7), (8, 1), (8, 2), (8, 3), (8, 4), (8, 5), (8, 6), (8, 7), (8, 8), (8, 9)] u178.1), L, (hv I [] [(6, 6), (6, 7)] u178.2), P, E, N), sgM g)) C (WB_R hW) (c_X12_worth__e l g (hv J [42, 45] [(4, 6), (4, 7), (8, 1), (8, 2), (8, 3), (8, 4), (8, 5), (8, 6), (8, 7), (8, 8), (8, 9)] u178.1) L (hv I [] [(6, 6), (6, 7)] u178.2) P E N H.size x175 x177 hwm hrel32) mi_X12_worth_ tw_1419 (recv_ (T := (((hv J [42, 45] [(4, 6), (4, 7), (8, 1), (8, 2), (8, 3), (8, 4), (8, 5), (8, 6), (8, 7), (8, 8), (8, 9)] u178.1), L, (hv I [] [(6, 6), (6, 7)] u178.2), P, E, N), sgM g)) C (WB_R hW) (mm_ rfl) rfl rfl) ⟨rfl, rfl, Nat.le_of_ble_eq_true rfl, Nat.le_of_ble_eq_true rfl⟩ rfl hl.1 rfl (Nat.le_of_ble_eq_true rfl) dL_law_826 ⟨by show 1000 + 10 * k + 0 + 0 ≤ 600000; omega, by show 200000 + 20100 * k + 0 + 0 ≤ 7302250; omega⟩) (fun r181 u181 H locs hp181 hB hk hS => ?_)
            have hW : WB g A s.heap H locs ((hv (hv J [42, 45] [(4, 6), (4, 7), (8, 1), (8, 2), (8, 3), (8, 4), (8, 5), (8, 6), (8, 7), (8, 8), (8, 9)] u178.1) [100, 146, 150, 151, 152, 154] [(13, 47), (13, 48), (13, 56), (13, 57), (13, 58), (13, 59), (13, 60)] u181), L, (hv I [] [(6, 6), (6, 7)] u178.2), P, E, N) ((sgX g ++ dy) ++ sgM g) := joinR hW hB hk hS (frsub C (WB_R hW)) (fun x hx => cel_x (hv_x rfl rfl (notm hW x hx)))
            obtain ⟨hc181, hf181_0⟩ : ((r181.toInt = 1000000001 ∧ (¬ (0 ≤ x177.toInt ∧ x177.toInt < (J 13 31).toInt))) ∨ (r181.toInt = 1000000002 ∧ ((0 ≤ x177.toInt ∧ x177.toInt < (J 13 31).toInt) ∧ (x175.toInt < 0 ∨ 2 < x175.toInt))) ∨ (r181 = r181 ∧ ((0 ≤ x177.toInt ∧ x177.toInt < (J 13 31).toInt) ∧ 0 ≤ x175.toInt ∧ x175.toInt ≤ 2) ∧ (∃ s o d : Int32, ((J 116 x177.toNatClampNeg).toInt = 6 → s.toInt = 0 ∧ o.toInt = 0) ∧ (¬ (J 116 x177.toNatClampNeg).toInt = 6 → CAV (hv J [42, 45] [(4, 6), (4, 7), (8, 1), (8, 2), (8, 3), (8, 4), (8, 5), (8, 6), (8, 7), (8, 8), (8, 9)] u178.1) x177.toNatClampNeg s.toInt o.toInt) ∧ ((¬ (x175.toInt : Int) = 2 → d.toInt = 0) ∧ ((x175.toInt : Int) = 2 → d = o)) ∧ WVM (J 121) (J 122) (J 123) (J 124) (SCL (J 116 x177.toNatClampNeg) (hrw x177.toInt) (J 118 x177.toNatClampNeg) s o (J 120 x177.toNatClampNeg) (J 13 31 - x177) (J 13 35)) (J 13 40).toInt x175.toInt x177.toInt d r181))) ∧ (CAC (hv (hv J [42, 45] [(4, 6), (4, 7), (8, 1), (8, 2), (8, 3), (8, 4), (8, 5), (8, 6), (8, 7), (8, 8), (8, 9)] u178.1) [100, 146, 150, 151, 152, 154] [(13, 47), (13, 48), (13, 56), (13, 57), (13, 58), (13, 59), (13, 60)] u181)) := hp181
            refine lv_pop hx hb dL_law_829 rfl ?_
            refine lv_goto (tgt := 1390) hx hb dL_law_830 (by decide) ?_
            obtain ⟨x182, e182⟩ : ∃ y : Int32, y = i + 5 := ⟨_, rfl⟩
            refine lv_iinc (v := x182) (lv' := [(3, .int x182), (0, .ref b), (1, .ref (g.2.2.1 12)), (2, .ref (g.2.2.1 13))]) hx hb dL_law_1390 hl (k := 0) rfl (by rw [e182]; rfl) (by decide) rfl (fun ls hl => ?_)
            try have t182 : x182.toInt = i.toInt + 5 := tadd e182 rfl kp5 (by omega)
            refine lv_goto (tgt := 18) hx hb dL_law_1393 (by decide) ?_
            refine W.widen (k := 1000 + 10 * (k + 1)) (n := 200000 + 20100 * (k + 1)) (by omega) (by omega) ?_
            obtain hnew32 := rel_worth k g J I P E N dy r178 x177 x175 r181 u178 u181 hk64 hwf0 hwm0 hnow0 hrl0 hac0 hrel0 hrel1 hrel2 hrel3 hrel4 hrel5 hrel6 hrel7 hrel8 hrel9 hrel10 hrel11 hrel12 hrel13 hrel14 hrel15 hrel16 hrel17 hrel18 hrel19 hrel20 hrel21 hrel22 hrel23 hrel24 hrel25 hrel26 hrel27 hrel28 hrel29 hrel30 hrel31 hrel32 hrel33 hrel34 hc178 hc181 hf181_0
            exact ih (k + 1) x182 (hv (hv J [42, 45] [(4, 6), (4, 7), (8, 1), (8, 2), (8, 3), (8, 4), (8, 5), (8, 6), (8, 7), (8, 8), (8, 9)] u178.1) [100, 146, 150, 151, 152, 154] [(13, 47), (13, 48), (13, 56), (13, 57), (13, 58), (13, 59), (13, 60)] u181) L (hv I [] [(6, 6), (6, 7)] u178.2) P E N dy H locs ls (by omega) (by omega) (by omega) hwf hwm hnow hrl hac hrel0 hrel1 hrel2 hrel3 hrel4 hrel5 hrel6 hrel7 hrel8 hrel9 hrel10 hrel11 hrel12 hrel13 hrel14 hrel15 hrel16 hrel17 hrel18 hrel19 hrel20 hrel21 hrel22 hrel23 hrel24 hrel25 hrel26 hrel27 hrel28 hrel29 hrel30 (tol_s (a := J 13 49) (k := k) hk64 (Or.inl rfl) hrel31) hnew32 hrel33 hrel34 hW (lv_sub hl [0, 1, 2, 3] rfl)
          · refine lv_tableIn (off := 801) (tgt := 833) hx hb dL_law_32 (Int.not_lt.mpr c6) (Int.not_lt.mpr c6b) (by rw [c6k]; rfl) (by decide) ?_
            refine lv_aload_n hx hb dL_law_833 rfl (lv_at hl 2 rfl) ?_
            refine lv_aload_n hx hb dL_law_834 rfl (lv_at hl 1 rfl) ?_
            refine lv_iload_n hx hb dL_law_835 rfl (lv_at hl 0 rfl) ?_
            refine lv_iconst (v := 1) hx hb dL_law_836 (by decide) ?_
            refine lv_iadd hx hb dL_law_837 ?_
            refine lv_topi (fun x183 (e183 : x183 = i + 1) => ?_)
            try have t183 : x183.toInt = i.toInt + 1 := tadd e183 rfl kp1 (by omega)
            have hin : vp_in x183 Lx := tin rfl (by omega)
            refine va_sld hx hb hX hbl hbA hW.2.2.1 hin dL_law_838 ?_
            refine lv_topi (fun x184 (e184 : x184 = xs x183.toNatClampNeg) => ?_)
            refine lv_aload_n hx hb dL_law_839 rfl (lv_at hl 1 rfl) ?_
            refine lv_iload_n hx hb dL_law_840 rfl (lv_at hl 0 rfl) ?_
            refine lv_iconst (v := 2) hx hb dL_law_841 (by decide) ?_
            refine lv_iadd hx hb dL_law_842 ?_
            refine lv_topi (fun x185 (e185 : x185 = i + 2) => ?_)
            try have t185 : x185.toInt = i.toInt + 2 := tadd e185 rfl kp2 (by omega)
            have hin : vp_in x185 Lx := tin rfl (by omega)
            refine va_sld hx hb hX hbl hbA hW.2.2.1 hin dL_law_843 ?_
            refine lv_topi (fun x186 (e186 : x186 = xs x185.toNatClampNeg) => ?_)
            refine cl2_ C (WB_L hW) (runV (x := g.2.2.1 12) (As := [.int x184, .int x186]) (rest := []) (T := ((J, L, I, P, E, N), sgX g ++ dy)) C (WB_L hW) (c_X11_account_a l g J L I P E N dy H.size x184 x186 hwf hrel21 hrel20 hrel27 hrel28 hrel9 hrel34 (tmr_cdb hrel16) ⟨hnow.1, hnow.2.1⟩ hrel33) mi_X11_account tw_834 (recv_ (T := ((J, L, I, P, E, N), sgX g ++ dy)) C (WB_L hW) (mx_ rfl) rfl rfl) ⟨rfl, rfl, Nat.le_of_ble_eq_true rfl, Nat.le_of_ble_eq_true rfl⟩ rfl hl.1 rfl (Nat.le_of_ble_eq_true rfl) dL_law_844 ⟨by show 1000 + 10 * k + 0 ≤ 600000; omega, by show 200000 + 20100 * k + 0 ≤ 7302250; omega⟩) (fun z187 u187 H locs hp187 hB hk hS => ?_)
            have hW : WB g A s.heap H locs ((hv J [42, 45] [(4, 6), (4, 7), (8, 1), (8, 2), (8, 3), (8, 4), (8, 5), (8, 6), (8, 7), (8, 8), (8, 9)] u187.1), L, (hv I [] [(6, 6), (6, 7)] u187.2), P, E, N) ((sgX g ++ dy) ++ sgM g) := joinL hW hB hk hS (frsub C (WB_L hW)) (okM hW (fun r h => hv_m (J := J) (R := [42, 45]) (F := [(4, 6), (4, 7), (8, 1), (8, 2), (8, 3), (8, 4), (8, 5), (8, 6), (8, 7), (8, 8), (8, 9)]) rfl rfl h) (fun r h => rfl))
            have hc187 : ((z187 = (4000000000000000001 : Int64) ∧ (¬ (0 ≤ x184.toInt ∧ x184.toInt ≤ x186.toInt ∧ x186.toInt < (J 3 1).toInt))) ∨ (z187 = z187 ∧ (0 ≤ x184.toInt ∧ x184.toInt ≤ x186.toInt ∧ x186.toInt < (J 3 1).toInt) ∧ (∃ v1 v0 : Int, z187 = Int64.ofInt (v1 - v0) ∧ SUMS (fun jj rr => WIF I P E N (J 25 2).toInt 1 jj (fun s m9 => SCL (J 116 jj.toNat) (hrw jj) (J 118 jj.toNat) s m9 (J 120 jj.toNat) (J 3 1 - Int32.ofInt jj) (J 22 2)) (TLY (fun x => SND x (J 101) (fun k => I 6 1 (elt E P 20 k)) (fun k => I 6 3 (elt E P 20 k)) (fun k => I 6 5 (elt E P 20 k)) (CUTP (J 105) (J 106) (J 107) (J 21 2).toInt jj) (J 118 jj.toNat) (J 120 jj.toNat) (J 20 2).toInt) (J 116 jj.toNat) (fun x => HF (J 116 jj.toNat) (J 110) (J 111) jj (J 4 5) (J 109) (J 108) x) (J 22 2).toInt.toNat) rr) x184.toInt ((x186.toInt + 1) - x184.toInt).toNat v1 ∧ SUMS (fun jj rr => WIF I P E N (J 25 2).toInt 0 jj (fun s m9 => SCL (J 116 jj.toNat) (hrw jj) (J 118 jj.toNat) s m9 (J 120 jj.toNat) (J 3 1 - Int32.ofInt jj) (J 22 2)) (TLY (fun x => SND x (J 101) (fun k => I 6 1 (elt E P 20 k)) (fun k => I 6 3 (elt E P 20 k)) (fun k => I 6 5 (elt E P 20 k)) (CUTP (J 105) (J 106) (J 107) (J 21 2).toInt jj) (J 118 jj.toNat) (J 120 jj.toNat) (J 20 2).toInt) (J 116 jj.toNat) (fun x => HF (J 116 jj.toNat) (J 110) (J 111) jj (J 4 5) (J 109) (J 108) x) (J 22 2).toInt.toNat) rr) x184.toInt ((x186.toInt + 1) - x184.toInt).toNat v0))) := hp187
            refine lv_aload_n hx hb dL_law_847 rfl (lv_at hl 3 rfl) ?_
            refine lv_aload_n hx hb dL_law_848 rfl (lv_at hl 1 rfl) ?_
            refine lv_iload_n hx hb dL_law_849 rfl (lv_at hl 0 rfl) ?_
            refine lv_iconst (v := 1) hx hb dL_law_850 (by decide) ?_
            refine lv_iadd hx hb dL_law_851 ?_
            refine lv_topi (fun x188 (e188 : x188 = i + 1) => ?_)
            try have t188 : x188.toInt = i.toInt + 1 := tadd e188 rfl kp1 (by omega)
            have hin : vp_in x188 Lx := tin rfl (by omega)
            refine va_sld hx hb hX hbl hbA hW.2.2.1 hin dL_law_852 ?_
            refine lv_as x184 (by rw [e184, e183, e188]) ?_
            refine lv_aload_n hx hb dL_law_853 rfl (lv_at hl 1 rfl) ?_
            refine lv_iload_n hx hb dL_law_854 rfl (lv_at hl 0 rfl) ?_
            refine lv_iconst (v := 2) hx hb dL_law_855 (by decide) ?_
            refine lv_iadd hx hb dL_law_856 ?_
            refine lv_topi (fun x189 (e189 : x189 = i + 2) => ?_)
            try have t189 : x189.toInt = i.toInt + 2 := tadd e189 rfl kp2 (by omega)
            have hin : vp_in x189 Lx := tin rfl (by omega)
            refine va_sld hx hb hX hbl hbA hW.2.2.1 hin dL_law_857 ?_
            refine lv_as x186 (by rw [e186, e185, e189]) ?_
            refine cl2_ C (WB_R hW) (runV (x := g.2.2.1 13) (As := [.int x184, .int x186]) (rest := [.long z187]) (T := (((hv J [42, 45] [(4, 6), (4, 7), (8, 1), (8, 2), (8, 3), (8, 4), (8, 5), (8, 6), (8, 7), (8, 8), (8, 9)] u187.1), L, (hv I [] [(6, 6), (6, 7)] u187.2), P, E, N), sgM g)) C (WB_R hW) (c_X12_account_a l g (hv J [42, 45] [(4, 6), (4, 7), (8, 1), (8, 2), (8, 3), (8, 4), (8, 5), (8, 6), (8, 7), (8, 8), (8, 9)] u187.1) L (hv I [] [(6, 6), (6, 7)] u187.2) P E N H.size x184 x186 hwm hrel32) mi_X12_account tw_1432 (recv_ (T := (((hv J [42, 45] [(4, 6), (4, 7), (8, 1), (8, 2), (8, 3), (8, 4), (8, 5), (8, 6), (8, 7), (8, 8), (8, 9)] u187.1), L, (hv I [] [(6, 6), (6, 7)] u187.2), P, E, N), sgM g)) C (WB_R hW) (mm_ rfl) rfl rfl) ⟨rfl, rfl, Nat.le_of_ble_eq_true rfl, Nat.le_of_ble_eq_true rfl⟩ rfl hl.1 rfl (Nat.le_of_ble_eq_true rfl) dL_law_858 ⟨by show 1000 + 10 * k + 0 + 0 ≤ 600000; omega, by show 200000 + 20100 * k + 0 + 0 ≤ 7302250; omega⟩) (fun z190 u190 H locs hp190 hB hk hS => ?_)
            have hW : WB g A s.heap H locs ((hv (hv J [42, 45] [(4, 6), (4, 7), (8, 1), (8, 2), (8, 3), (8, 4), (8, 5), (8, 6), (8, 7), (8, 8), (8, 9)] u187.1) [100, 146, 150, 151, 152, 154, 161, 162, 163, 164] [(13, 47), (13, 48), (13, 56), (13, 57), (13, 58), (13, 59), (13, 60)] u190), L, (hv I [] [(6, 6), (6, 7)] u187.2), P, E, N) ((sgX g ++ dy) ++ sgM g) := joinR hW hB hk hS (frsub C (WB_R hW)) (fun x hx => cel_x (hv_x rfl rfl (notm hW x hx)))
            obtain ⟨hc190, hf190_0⟩ : ((z190 = (4000000000000000001 : Int64) ∧ (¬ (0 ≤ x184.toInt ∧ x184.toInt ≤ x186.toInt ∧ x186.toInt < (J 13 31).toInt))) ∨ (z190 = z190 ∧ (0 ≤ x184.toInt ∧ x184.toInt ≤ x186.toInt ∧ x186.toInt < (J 13 31).toInt) ∧ (∃ v1 v0 : Int, z190 = Int64.ofInt (v1 - v0) ∧ SUMS (fun jj rr => (INN (MJ (J 122)) (MJ (J 123)) (J 13 40).toInt 1 jj ∧ rr.toInt = 0) ∨ ∃ s o : Int32, (((J 116 jj.toNat).toInt = 6 → s.toInt = 0 ∧ o.toInt = 0) ∧ (¬ (J 116 jj.toNat).toInt = 6 → CAV (hv J [42, 45] [(4, 6), (4, 7), (8, 1), (8, 2), (8, 3), (8, 4), (8, 5), (8, 6), (8, 7), (8, 8), (8, 9)] u187.1) jj.toNat s.toInt o.toInt)) ∧ WVM (J 121) (J 122) (J 123) (J 124) (SCL (J 116 jj.toNat) (hrw jj) (J 118 jj.toNat) s o (J 120 jj.toNat) (J 13 31 - Int32.ofInt jj) (J 13 35)) (J 13 40).toInt 1 jj 0 rr) x184.toInt ((x186.toInt + 1) - x184.toInt).toNat v1 ∧ SUMS (fun jj rr => (INN (MJ (J 122)) (MJ (J 123)) (J 13 40).toInt 0 jj ∧ rr.toInt = 0) ∨ ∃ s o : Int32, (((J 116 jj.toNat).toInt = 6 → s.toInt = 0 ∧ o.toInt = 0) ∧ (¬ (J 116 jj.toNat).toInt = 6 → CAV (hv J [42, 45] [(4, 6), (4, 7), (8, 1), (8, 2), (8, 3), (8, 4), (8, 5), (8, 6), (8, 7), (8, 8), (8, 9)] u187.1) jj.toNat s.toInt o.toInt)) ∧ WVM (J 121) (J 122) (J 123) (J 124) (SCL (J 116 jj.toNat) (hrw jj) (J 118 jj.toNat) s o (J 120 jj.toNat) (J 13 31 - Int32.ofInt jj) (J 13 35)) (J 13 40).toInt 0 jj 0 rr) x184.toInt ((x186.toInt + 1) - x184.toInt).toNat v0))) ∧ (CAC (hv (hv J [42, 45] [(4, 6), (4, 7), (8, 1), (8, 2), (8, 3), (8, 4), (8, 5), (8, 6), (8, 7), (8, 8), (8, 9)] u187.1) [100, 146, 150, 151, 152, 154, 161, 162, 163, 164] [(13, 47), (13, 48), (13, 56), (13, 57), (13, 58), (13, 59), (13, 60)] u190)) := hp190
            refine W.lcmp hx hb dL_law_861 ?_
            refine lv_topi (fun x191 (e191 : x191 = lg_cmp z187 z190) => ?_)
            refine lv_if_eq (tgt := 1390) hx hb dL_law_862 (by decide) (fun c192 => ?_) (fun c192 => ?_)
            · have c192 : x191.toInt = 0 := teq rfl kp0 c192
              obtain ⟨x193, e193⟩ : ∃ y : Int32, y = i + 5 := ⟨_, rfl⟩
              refine lv_iinc (v := x193) (lv' := [(3, .int x193), (0, .ref b), (1, .ref (g.2.2.1 12)), (2, .ref (g.2.2.1 13))]) hx hb dL_law_1390 hl (k := 0) rfl (by rw [e193]; rfl) (by decide) rfl (fun ls hl => ?_)
              try have t193 : x193.toInt = i.toInt + 5 := tadd e193 rfl kp5 (by omega)
              refine lv_goto (tgt := 18) hx hb dL_law_1393 (by decide) ?_
              refine W.widen (k := 1000 + 10 * (k + 1)) (n := 200000 + 20100 * (k + 1)) (by omega) (by omega) ?_
              obtain hnew32 := rel_account k g J I P E N dy z187 x184 x186 z190 u187 u190 hk64 hwf0 hwm0 hnow0 hrl0 hac0 hrel0 hrel1 hrel2 hrel3 hrel4 hrel5 hrel6 hrel7 hrel8 hrel9 hrel10 hrel11 hrel12 hrel13 hrel14 hrel15 hrel16 hrel17 hrel18 hrel19 hrel20 hrel21 hrel22 hrel23 hrel24 hrel25 hrel26 hrel27 hrel28 hrel29 hrel30 hrel31 hrel32 hrel33 hrel34 hc187 hc190 hf190_0
              exact ih (k + 1) x193 (hv (hv J [42, 45] [(4, 6), (4, 7), (8, 1), (8, 2), (8, 3), (8, 4), (8, 5), (8, 6), (8, 7), (8, 8), (8, 9)] u187.1) [100, 146, 150, 151, 152, 154, 161, 162, 163, 164] [(13, 47), (13, 48), (13, 56), (13, 57), (13, 58), (13, 59), (13, 60)] u190) L (hv I [] [(6, 6), (6, 7)] u187.2) P E N dy H locs ls (by omega) (by omega) (by omega) hwf hwm hnow hrl hac hrel0 hrel1 hrel2 hrel3 hrel4 hrel5 hrel6 hrel7 hrel8 hrel9 hrel10 hrel11 hrel12 hrel13 hrel14 hrel15 hrel16 hrel17 hrel18 hrel19 hrel20 hrel21 hrel22 hrel23 hrel24 hrel25 hrel26 hrel27 hrel28 hrel29 hrel30 (tol_s (a := J 13 49) (k := k) hk64 (Or.inl rfl) hrel31) hnew32 hrel33 hrel34 hW (lv_sub hl [0, 1, 2, 3] rfl)
            · have c192 : ¬ x191.toInt = 0 := tne rfl kp0 c192
              exact (cmp_account k g J I P E N dy z187 x184 x186 z190 u187 u190 hk64 hwf0 hwm0 hnow0 hrl0 hac0 hrel0 hrel1 hrel2 hrel3 hrel4 hrel5 hrel6 hrel7 hrel8 hrel9 hrel10 hrel11 hrel12 hrel13 hrel14 hrel15 hrel16 hrel17 hrel18 hrel19 hrel20 hrel21 hrel22 hrel23 hrel24 hrel25 hrel26 hrel27 hrel28 hrel29 hrel30 hrel31 hrel32 hrel33 hrel34 hc187 hc190 hf190_0 (fun q => c192 ((lgi_eq e191).mpr (Int64.toInt_inj.mp q)))).elim
          · refine lv_tableIn (off := 835) (tgt := 867) hx hb dL_law_32 (Int.not_lt.mpr c6) (Int.not_lt.mpr c6b) (by rw [c6k]; rfl) (by decide) ?_
            refine lv_aload_n hx hb dL_law_867 rfl (lv_at hl 2 rfl) ?_
            refine lv_aload_n hx hb dL_law_868 rfl (lv_at hl 1 rfl) ?_
            refine lv_iload_n hx hb dL_law_869 rfl (lv_at hl 0 rfl) ?_
            refine lv_iconst (v := 1) hx hb dL_law_870 (by decide) ?_
            refine lv_iadd hx hb dL_law_871 ?_
            refine lv_topi (fun x194 (e194 : x194 = i + 1) => ?_)
            try have t194 : x194.toInt = i.toInt + 1 := tadd e194 rfl kp1 (by omega)
            have hin : vp_in x194 Lx := tin rfl (by omega)
            refine va_sld hx hb hX hbl hbA hW.2.2.1 hin dL_law_872 ?_
            refine lv_topi (fun x195 (e195 : x195 = xs x194.toNatClampNeg) => ?_)
            refine lv_aload_n hx hb dL_law_873 rfl (lv_at hl 1 rfl) ?_
            refine lv_iload_n hx hb dL_law_874 rfl (lv_at hl 0 rfl) ?_
            refine lv_iconst (v := 2) hx hb dL_law_875 (by decide) ?_
            refine lv_iadd hx hb dL_law_876 ?_
            refine lv_topi (fun x196 (e196 : x196 = i + 2) => ?_)
            try have t196 : x196.toInt = i.toInt + 2 := tadd e196 rfl kp2 (by omega)
            have hin : vp_in x196 Lx := tin rfl (by omega)
            refine va_sld hx hb hX hbl hbA hW.2.2.1 hin dL_law_877 ?_
            refine lv_topi (fun x197 (e197 : x197 = xs x196.toNatClampNeg) => ?_)
            refine lv_if_eq (tgt := 885) hx hb dL_law_878 (by decide) (fun c198 => ?_) (fun c198 => ?_)
            · have c198 : x197.toInt = 0 := teq rfl kp0 c198
              refine lv_iconst (v := 0) hx hb dL_law_885 (by decide) ?_
              refine ci2_ C (WB_L hW) (runV (x := g.2.2.1 12) (As := [.int x195, .int 0]) (rest := []) (T := ((J, L, I, P, E, N), sgX g ++ dy)) C (WB_L hW) (c_X11_complain_e l g J L I P E N dy H.size x195 (0 : Int32) hwf (Or.inl rfl)) mi_X11_complain tw_848 (recv_ (T := ((J, L, I, P, E, N), sgX g ++ dy)) C (WB_L hW) (mx_ rfl) rfl rfl) ⟨rfl, rfl, Nat.le_of_ble_eq_true rfl, Nat.le_of_ble_eq_true rfl⟩ rfl hl.1 rfl (Nat.le_of_ble_eq_true rfl) dL_law_886 ⟨by show 1000 + 10 * k + 0 ≤ 600000; omega, by show 200000 + 20100 * k + 0 ≤ 7302250; omega⟩) (fun r199 u199 H locs hp199 hB hk hS => ?_)
              have hW : WB g A s.heap H locs ((hv J [42] [] u199.1), L, (hv I [] [(2, 4)] u199.2), P, E, N) ((sgX g ++ dy) ++ sgM g) := joinL hW hB hk hS (frsub C (WB_L hW)) (okM hW (fun r h => hv_m (J := J) (R := [42]) (F := []) rfl rfl h) (fun r h => rfl))
              have hc199 : ((r199.toInt = (-1) ∧ (¬ (0 ≤ x195.toInt ∧ x195.toInt < (J 22 2).toInt)) ∧ u199.2 2 4 = I 2 4) ∨ (r199.toInt = 0 ∧ (0 ≤ x195.toInt ∧ x195.toInt < (J 22 2).toInt) ∧ (I 2 4 (elt E P 22 x195.toNatClampNeg)).toInt = 0 ∧ u199.2 2 4 = I 2 4) ∨ (r199.toInt = 1 ∧ (0 ≤ x195.toInt ∧ x195.toInt < (J 22 2).toInt) ∧ ¬ (I 2 4 (elt E P 22 x195.toNatClampNeg)).toInt = 0 ∧ (∀ b : Nat, b ≠ elt E P 22 x195.toNatClampNeg → u199.2 2 4 b = I 2 4 b) ∧ u199.2 2 4 (elt E P 22 x195.toNatClampNeg) = 0)) := hp199
              refine lv_pop hx hb dL_law_889 rfl ?_
              refine lv_aload_n hx hb dL_law_890 rfl (lv_at hl 3 rfl) ?_
              refine lv_aload_n hx hb dL_law_891 rfl (lv_at hl 1 rfl) ?_
              refine lv_iload_n hx hb dL_law_892 rfl (lv_at hl 0 rfl) ?_
              refine lv_iconst (v := 1) hx hb dL_law_893 (by decide) ?_
              refine lv_iadd hx hb dL_law_894 ?_
              refine lv_topi (fun x200 (e200 : x200 = i + 1) => ?_)
              try have t200 : x200.toInt = i.toInt + 1 := tadd e200 rfl kp1 (by omega)
              have hin : vp_in x200 Lx := tin rfl (by omega)
              refine va_sld hx hb hX hbl hbA hW.2.2.1 hin dL_law_895 ?_
              refine lv_as x195 (by rw [e195, e194, e200]) ?_
              refine lv_aload_n hx hb dL_law_896 rfl (lv_at hl 1 rfl) ?_
              refine lv_iload_n hx hb dL_law_897 rfl (lv_at hl 0 rfl) ?_
              refine lv_iconst (v := 2) hx hb dL_law_898 (by decide) ?_
              refine lv_iadd hx hb dL_law_899 ?_
              refine lv_topi (fun x201 (e201 : x201 = i + 2) => ?_)
              try have t201 : x201.toInt = i.toInt + 2 := tadd e201 rfl kp2 (by omega)
              have hin : vp_in x201 Lx := tin rfl (by omega)
              refine va_sld hx hb hX hbl hbA hW.2.2.1 hin dL_law_900 ?_
              refine lv_as x197 (by rw [e197, e196, e201]) ?_
              refine lv_if_eq (tgt := 908) hx hb dL_law_901 (by decide) (fun c202 => ?_) (fun c202 => ?_)
              · have c202 : x197.toInt = 0 := teq rfl kp0 c202
                refine lv_iconst (v := 0) hx hb dL_law_908 (by decide) ?_
                refine ci2_ C (WB_R hW) (runV (x := g.2.2.1 13) (As := [.int x195, .int 0]) (rest := []) (T := (((hv J [42] [] u199.1), L, (hv I [] [(2, 4)] u199.2), P, E, N), sgM g)) C (WB_R hW) (c_X12_complain l g (hv J [42] [] u199.1) L (hv I [] [(2, 4)] u199.2) P E N H.size x195 (0 : Int32) hwm (Or.inl rfl)) mi_X12_complain tw_1452 (recv_ (T := (((hv J [42] [] u199.1), L, (hv I [] [(2, 4)] u199.2), P, E, N), sgM g)) C (WB_R hW) (mm_ rfl) rfl rfl) ⟨rfl, rfl, Nat.le_of_ble_eq_true rfl, Nat.le_of_ble_eq_true rfl⟩ rfl hl.1 rfl (Nat.le_of_ble_eq_true rfl) dL_law_909 ⟨by show 1000 + 10 * k + 0 + 0 ≤ 600000; omega, by show 200000 + 20100 * k + 0 + 0 ≤ 7302250; omega⟩) (fun r203 u203 H locs hp203 hB hk hS => ?_)
                have hW : WB g A s.heap H locs ((hv (hv J [42] [] u199.1) [100, 112] [] u203), L, (hv I [] [(2, 4)] u199.2), P, E, N) ((sgX g ++ dy) ++ sgM g) := joinR hW hB hk hS (frsub C (WB_R hW)) (fun x hx => cel_x (hv_x rfl rfl (notm hW x hx)))
                refine lv_pop hx hb dL_law_912 rfl ?_
                refine lv_goto (tgt := 1390) hx hb dL_law_913 (by decide) ?_
                obtain ⟨x204, e204⟩ : ∃ y : Int32, y = i + 5 := ⟨_, rfl⟩
                refine lv_iinc (v := x204) (lv' := [(3, .int x204), (0, .ref b), (1, .ref (g.2.2.1 12)), (2, .ref (g.2.2.1 13))]) hx hb dL_law_1390 hl (k := 0) rfl (by rw [e204]; rfl) (by decide) rfl (fun ls hl => ?_)
                try have t204 : x204.toInt = i.toInt + 5 := tadd e204 rfl kp5 (by omega)
                refine lv_goto (tgt := 18) hx hb dL_law_1393 (by decide) ?_
                refine W.widen (k := 1000 + 10 * (k + 1)) (n := 200000 + 20100 * (k + 1)) (by omega) (by omega) ?_
                exact ih (k + 1) x204 (hv (hv J [42] [] u199.1) [100, 112] [] u203) L (hv I [] [(2, 4)] u199.2) P E N dy H locs ls (by omega) (by omega) (by omega) hwf hwm hnow hrl hac hrel0 hrel1 hrel2 hrel3 hrel4 hrel5 hrel6 hrel7 hrel8 hrel9 hrel10 hrel11 hrel12 hrel13 hrel14 hrel15 hrel16 hrel17 hrel18 hrel19 hrel20 hrel21 hrel22 hrel23 hrel24 hrel25 hrel26 hrel27 hrel28 hrel29 hrel30 (tol_s (a := J 13 49) (k := k) hk64 (Or.inl rfl) hrel31) hrel32 hrel33 hrel34 hW (lv_sub hl [0, 1, 2, 3] rfl)
              · have c202 : ¬ x197.toInt = 0 := tne rfl kp0 c202
                exfalso; omega
            · have c198 : ¬ x197.toInt = 0 := tne rfl kp0 c198
              refine lv_iconst (v := 1) hx hb dL_law_881 (by decide) ?_
              refine lv_goto (tgt := 886) hx hb dL_law_882 (by decide) ?_
              refine ci2_ C (WB_L hW) (runV (x := g.2.2.1 12) (As := [.int x195, .int 1]) (rest := []) (T := ((J, L, I, P, E, N), sgX g ++ dy)) C (WB_L hW) (c_X11_complain_e l g J L I P E N dy H.size x195 (1 : Int32) hwf (Or.inr rfl)) mi_X11_complain tw_848 (recv_ (T := ((J, L, I, P, E, N), sgX g ++ dy)) C (WB_L hW) (mx_ rfl) rfl rfl) ⟨rfl, rfl, Nat.le_of_ble_eq_true rfl, Nat.le_of_ble_eq_true rfl⟩ rfl hl.1 rfl (Nat.le_of_ble_eq_true rfl) dL_law_886 ⟨by show 1000 + 10 * k + 0 ≤ 600000; omega, by show 200000 + 20100 * k + 0 ≤ 7302250; omega⟩) (fun r205 u205 H locs hp205 hB hk hS => ?_)
              have hW : WB g A s.heap H locs ((hv J [42] [] u205.1), L, (hv I [] [(2, 4)] u205.2), P, E, N) ((sgX g ++ dy) ++ sgM g) := joinL hW hB hk hS (frsub C (WB_L hW)) (okM hW (fun r h => hv_m (J := J) (R := [42]) (F := []) rfl rfl h) (fun r h => rfl))
              have hc205 : ((r205.toInt = (-1) ∧ (¬ (0 ≤ x195.toInt ∧ x195.toInt < (J 22 2).toInt)) ∧ u205.2 2 4 = I 2 4) ∨ (r205.toInt = 0 ∧ (0 ≤ x195.toInt ∧ x195.toInt < (J 22 2).toInt) ∧ (I 2 4 (elt E P 22 x195.toNatClampNeg)).toInt = 1 ∧ u205.2 2 4 = I 2 4) ∨ (r205.toInt = 1 ∧ (0 ≤ x195.toInt ∧ x195.toInt < (J 22 2).toInt) ∧ ¬ (I 2 4 (elt E P 22 x195.toNatClampNeg)).toInt = 1 ∧ (∀ b : Nat, b ≠ elt E P 22 x195.toNatClampNeg → u205.2 2 4 b = I 2 4 b) ∧ u205.2 2 4 (elt E P 22 x195.toNatClampNeg) = 1)) := hp205
              refine lv_pop hx hb dL_law_889 rfl ?_
              refine lv_aload_n hx hb dL_law_890 rfl (lv_at hl 3 rfl) ?_
              refine lv_aload_n hx hb dL_law_891 rfl (lv_at hl 1 rfl) ?_
              refine lv_iload_n hx hb dL_law_892 rfl (lv_at hl 0 rfl) ?_
              refine lv_iconst (v := 1) hx hb dL_law_893 (by decide) ?_
              refine lv_iadd hx hb dL_law_894 ?_
              refine lv_topi (fun x206 (e206 : x206 = i + 1) => ?_)
              try have t206 : x206.toInt = i.toInt + 1 := tadd e206 rfl kp1 (by omega)
              have hin : vp_in x206 Lx := tin rfl (by omega)
              refine va_sld hx hb hX hbl hbA hW.2.2.1 hin dL_law_895 ?_
              refine lv_as x195 (by rw [e195, e194, e206]) ?_
              refine lv_aload_n hx hb dL_law_896 rfl (lv_at hl 1 rfl) ?_
              refine lv_iload_n hx hb dL_law_897 rfl (lv_at hl 0 rfl) ?_
              refine lv_iconst (v := 2) hx hb dL_law_898 (by decide) ?_
              refine lv_iadd hx hb dL_law_899 ?_
              refine lv_topi (fun x207 (e207 : x207 = i + 2) => ?_)
              try have t207 : x207.toInt = i.toInt + 2 := tadd e207 rfl kp2 (by omega)
              have hin : vp_in x207 Lx := tin rfl (by omega)
              refine va_sld hx hb hX hbl hbA hW.2.2.1 hin dL_law_900 ?_
              refine lv_as x197 (by rw [e197, e196, e207]) ?_
              refine lv_if_eq (tgt := 908) hx hb dL_law_901 (by decide) (fun c208 => ?_) (fun c208 => ?_)
              · have c208 : x197.toInt = 0 := teq rfl kp0 c208
                exfalso; omega
              · have c208 : ¬ x197.toInt = 0 := tne rfl kp0 c208
                refine lv_iconst (v := 1) hx hb dL_law_904 (by decide) ?_
                refine lv_goto (tgt := 909) hx hb dL_law_905 (by decide) ?_
                refine ci2_ C (WB_R hW) (runV (x := g.2.2.1 13) (As := [.int x195, .int 1]) (rest := []) (T := (((hv J [42] [] u205.1), L, (hv I [] [(2, 4)] u205.2), P, E, N), sgM g)) C (WB_R hW) (c_X12_complain l g (hv J [42] [] u205.1) L (hv I [] [(2, 4)] u205.2) P E N H.size x195 (1 : Int32) hwm (Or.inr rfl)) mi_X12_complain tw_1452 (recv_ (T := (((hv J [42] [] u205.1), L, (hv I [] [(2, 4)] u205.2), P, E, N), sgM g)) C (WB_R hW) (mm_ rfl) rfl rfl) ⟨rfl, rfl, Nat.le_of_ble_eq_true rfl, Nat.le_of_ble_eq_true rfl⟩ rfl hl.1 rfl (Nat.le_of_ble_eq_true rfl) dL_law_909 ⟨by show 1000 + 10 * k + 0 + 0 ≤ 600000; omega, by show 200000 + 20100 * k + 0 + 0 ≤ 7302250; omega⟩) (fun r209 u209 H locs hp209 hB hk hS => ?_)
                have hW : WB g A s.heap H locs ((hv (hv J [42] [] u205.1) [100, 112] [] u209), L, (hv I [] [(2, 4)] u205.2), P, E, N) ((sgX g ++ dy) ++ sgM g) := joinR hW hB hk hS (frsub C (WB_R hW)) (fun x hx => cel_x (hv_x rfl rfl (notm hW x hx)))
                refine lv_pop hx hb dL_law_912 rfl ?_
                refine lv_goto (tgt := 1390) hx hb dL_law_913 (by decide) ?_
                obtain ⟨x210, e210⟩ : ∃ y : Int32, y = i + 5 := ⟨_, rfl⟩
                refine lv_iinc (v := x210) (lv' := [(3, .int x210), (0, .ref b), (1, .ref (g.2.2.1 12)), (2, .ref (g.2.2.1 13))]) hx hb dL_law_1390 hl (k := 0) rfl (by rw [e210]; rfl) (by decide) rfl (fun ls hl => ?_)
                try have t210 : x210.toInt = i.toInt + 5 := tadd e210 rfl kp5 (by omega)
                refine lv_goto (tgt := 18) hx hb dL_law_1393 (by decide) ?_
                refine W.widen (k := 1000 + 10 * (k + 1)) (n := 200000 + 20100 * (k + 1)) (by omega) (by omega) ?_
                exact ih (k + 1) x210 (hv (hv J [42] [] u205.1) [100, 112] [] u209) L (hv I [] [(2, 4)] u205.2) P E N dy H locs ls (by omega) (by omega) (by omega) hwf hwm hnow hrl hac hrel0 hrel1 hrel2 hrel3 hrel4 hrel5 hrel6 hrel7 hrel8 hrel9 hrel10 hrel11 hrel12 hrel13 hrel14 hrel15 hrel16 hrel17 hrel18 hrel19 hrel20 hrel21 hrel22 hrel23 hrel24 hrel25 hrel26 hrel27 hrel28 hrel29 hrel30 (tol_s (a := J 13 49) (k := k) hk64 (Or.inl rfl) hrel31) hrel32 hrel33 hrel34 hW (lv_sub hl [0, 1, 2, 3] rfl)
          · refine lv_tableIn (off := 884) (tgt := 916) hx hb dL_law_32 (Int.not_lt.mpr c6) (Int.not_lt.mpr c6b) (by rw [c6k]; rfl) (by decide) ?_
            refine lv_aload_n hx hb dL_law_916 rfl (lv_at hl 2 rfl) ?_
            refine lv_aload_n hx hb dL_law_917 rfl (lv_at hl 1 rfl) ?_
            refine lv_iload_n hx hb dL_law_918 rfl (lv_at hl 0 rfl) ?_
            refine lv_iconst (v := 1) hx hb dL_law_919 (by decide) ?_
            refine lv_iadd hx hb dL_law_920 ?_
            refine lv_topi (fun x211 (e211 : x211 = i + 1) => ?_)
            try have t211 : x211.toInt = i.toInt + 1 := tadd e211 rfl kp1 (by omega)
            have hin : vp_in x211 Lx := tin rfl (by omega)
            refine va_sld hx hb hX hbl hbA hW.2.2.1 hin dL_law_921 ?_
            refine lv_topi (fun x212 (e212 : x212 = xs x211.toNatClampNeg) => ?_)
            refine ci2_ C (WB_L hW) (runV (x := g.2.2.1 12) (As := [.int x212]) (rest := []) (T := ((J, L, I, P, E, N), sgX g ++ dy)) C (WB_L hW) (c_X11_breaks l g J L I P E N dy H.size x212 hwf) mi_X11_breaks tw_852 (recv_ (T := ((J, L, I, P, E, N), sgX g ++ dy)) C (WB_L hW) (mx_ rfl) rfl rfl) ⟨rfl, rfl, Nat.le_of_ble_eq_true rfl, Nat.le_of_ble_eq_true rfl⟩ rfl hl.1 rfl (Nat.le_of_ble_eq_true rfl) dL_law_922 ⟨by show 1000 + 10 * k + 0 ≤ 600000; omega, by show 200000 + 20100 * k + 0 ≤ 7302250; omega⟩) (fun r213 u213 H locs hp213 hB hk hS => ?_)
            have hW : WB g A s.heap H locs ((hv J [42] [] u213), L, I, P, E, N) ((sgX g ++ dy) ++ sgM g) := joinL hW hB hk hS (frsub C (WB_L hW)) (okM hW (fun r h => hv_m (J := J) (R := [42]) (F := []) rfl rfl h) (fun r h => rfl))
            refine lv_pop hx hb dL_law_925 rfl ?_
            refine lv_aload_n hx hb dL_law_926 rfl (lv_at hl 3 rfl) ?_
            refine lv_aload_n hx hb dL_law_927 rfl (lv_at hl 1 rfl) ?_
            refine lv_iload_n hx hb dL_law_928 rfl (lv_at hl 0 rfl) ?_
            refine lv_iconst (v := 1) hx hb dL_law_929 (by decide) ?_
            refine lv_iadd hx hb dL_law_930 ?_
            refine lv_topi (fun x214 (e214 : x214 = i + 1) => ?_)
            try have t214 : x214.toInt = i.toInt + 1 := tadd e214 rfl kp1 (by omega)
            have hin : vp_in x214 Lx := tin rfl (by omega)
            refine va_sld hx hb hX hbl hbA hW.2.2.1 hin dL_law_931 ?_
            refine lv_as x212 (by rw [e212, e211, e214]) ?_
            refine ci2_ C (WB_R hW) (runV (x := g.2.2.1 13) (As := [.int x212]) (rest := []) (T := (((hv J [42] [] u213), L, I, P, E, N), sgM g)) C (WB_R hW) (c_X12_breaks l g (hv J [42] [] u213) L I P E N H.size x212 hwm) mi_X12_breaks tw_1456 (recv_ (T := (((hv J [42] [] u213), L, I, P, E, N), sgM g)) C (WB_R hW) (mm_ rfl) rfl rfl) ⟨rfl, rfl, Nat.le_of_ble_eq_true rfl, Nat.le_of_ble_eq_true rfl⟩ rfl hl.1 rfl (Nat.le_of_ble_eq_true rfl) dL_law_932 ⟨by show 1000 + 10 * k + 0 + 0 ≤ 600000; omega, by show 200000 + 20100 * k + 0 + 0 ≤ 7302250; omega⟩) (fun r215 u215 H locs hp215 hB hk hS => ?_)
            have hW : WB g A s.heap H locs ((hv (hv J [42] [] u213) [100] [] u215), L, I, P, E, N) ((sgX g ++ dy) ++ sgM g) := joinR hW hB hk hS (frsub C (WB_R hW)) (fun x hx => cel_x (hv_x rfl rfl (notm hW x hx)))
            refine lv_pop hx hb dL_law_935 rfl ?_
            refine lv_goto (tgt := 1390) hx hb dL_law_936 (by decide) ?_
            obtain ⟨x216, e216⟩ : ∃ y : Int32, y = i + 5 := ⟨_, rfl⟩
            refine lv_iinc (v := x216) (lv' := [(3, .int x216), (0, .ref b), (1, .ref (g.2.2.1 12)), (2, .ref (g.2.2.1 13))]) hx hb dL_law_1390 hl (k := 0) rfl (by rw [e216]; rfl) (by decide) rfl (fun ls hl => ?_)
            try have t216 : x216.toInt = i.toInt + 5 := tadd e216 rfl kp5 (by omega)
            refine lv_goto (tgt := 18) hx hb dL_law_1393 (by decide) ?_
            refine W.widen (k := 1000 + 10 * (k + 1)) (n := 200000 + 20100 * (k + 1)) (by omega) (by omega) ?_
            exact ih (k + 1) x216 (hv (hv J [42] [] u213) [100] [] u215) L I P E N dy H locs ls (by omega) (by omega) (by omega) hwf hwm hnow hrl hac hrel0 hrel1 hrel2 hrel3 hrel4 hrel5 hrel6 hrel7 hrel8 hrel9 hrel10 hrel11 hrel12 hrel13 hrel14 hrel15 hrel16 hrel17 hrel18 hrel19 hrel20 hrel21 hrel22 hrel23 hrel24 hrel25 hrel26 hrel27 hrel28 hrel29 hrel30 (tol_s (a := J 13 49) (k := k) hk64 (Or.inl rfl) hrel31) hrel32 hrel33 hrel34 hW (lv_sub hl [0, 1, 2, 3] rfl)
          · refine lv_tableIn (off := 907) (tgt := 939) hx hb dL_law_32 (Int.not_lt.mpr c6) (Int.not_lt.mpr c6b) (by rw [c6k]; rfl) (by decide) ?_
            refine lv_aload_n hx hb dL_law_939 rfl (lv_at hl 2 rfl) ?_
            refine lv_aload_n hx hb dL_law_940 rfl (lv_at hl 1 rfl) ?_
            refine lv_iload_n hx hb dL_law_941 rfl (lv_at hl 0 rfl) ?_
            refine lv_iconst (v := 1) hx hb dL_law_942 (by decide) ?_
            refine lv_iadd hx hb dL_law_943 ?_
            refine lv_topi (fun x217 (e217 : x217 = i + 1) => ?_)
            try have t217 : x217.toInt = i.toInt + 1 := tadd e217 rfl kp1 (by omega)
            have hin : vp_in x217 Lx := tin rfl (by omega)
            refine va_sld hx hb hX hbl hbA hW.2.2.1 hin dL_law_944 ?_
            refine lv_topi (fun x218 (e218 : x218 = xs x217.toNatClampNeg) => ?_)
            refine lv_aload_n hx hb dL_law_945 rfl (lv_at hl 1 rfl) ?_
            refine lv_iload_n hx hb dL_law_946 rfl (lv_at hl 0 rfl) ?_
            refine lv_iconst (v := 2) hx hb dL_law_947 (by decide) ?_
            refine lv_iadd hx hb dL_law_948 ?_
            refine lv_topi (fun x219 (e219 : x219 = i + 2) => ?_)
            try have t219 : x219.toInt = i.toInt + 2 := tadd e219 rfl kp2 (by omega)
            have hin : vp_in x219 Lx := tin rfl (by omega)
            refine va_sld hx hb hX hbl hbA hW.2.2.1 hin dL_law_949 ?_
            refine lv_topi (fun x220 (e220 : x220 = xs x219.toNatClampNeg) => ?_)
            refine ci2_ C (WB_L hW) (runV (x := g.2.2.1 12) (As := [.int x218, .int x220]) (rest := []) (T := ((J, L, I, P, E, N), sgX g ++ dy)) C (WB_L hW) (c_X11_could_n_n l g J L I P E N dy H.size x218 x220 hwf) mi_X11_could tw_874 (recv_ (T := ((J, L, I, P, E, N), sgX g ++ dy)) C (WB_L hW) (mx_ rfl) rfl rfl) ⟨rfl, rfl, Nat.le_of_ble_eq_true rfl, Nat.le_of_ble_eq_true rfl⟩ rfl hl.1 rfl (Nat.le_of_ble_eq_true rfl) dL_law_950 ⟨by show 1000 + 10 * k + 10 ≤ 600000; omega, by show 200000 + 20100 * k + 20100 ≤ 7302250; omega⟩) (fun r221 u221 H locs hp221 hB hk hS => ?_)
            have hW : WB g A s.heap H locs ((hv J [42] [(23, 0), (23, 2)] u221.1), L, (hv I [] [(6, 4)] u221.2.1), (hv P [33] [] u221.2.2.1), (hv1 E [23] u221.2.2.2.1), u221.2.2.2.2.1) ((sgX g ++ u221.2.2.2.2.2) ++ sgM g) := joinL hW hB hk hS (frsub C (WB_L hW)) (okM hW (fun r h => hv_m (J := J) (R := [42]) (F := [(23, 0), (23, 2)]) rfl rfl h) (fun r h => rfl))
            obtain ⟨hc221, hwf, hdd221, hf221_0⟩ := hp221
            refine lv_pop hx hb dL_law_953 rfl ?_
            refine lv_aload_n hx hb dL_law_954 rfl (lv_at hl 3 rfl) ?_
            refine lv_aload_n hx hb dL_law_955 rfl (lv_at hl 1 rfl) ?_
            refine lv_iload_n hx hb dL_law_956 rfl (lv_at hl 0 rfl) ?_
            refine lv_iconst (v := 1) hx hb dL_law_957 (by decide) ?_
            refine lv_iadd hx hb dL_law_958 ?_
            refine lv_topi (fun x222 (e222 : x222 = i + 1) => ?_)
            try have t222 : x222.toInt = i.toInt + 1 := tadd e222 rfl kp1 (by omega)
            have hin : vp_in x222 Lx := tin rfl (by omega)
            refine va_sld hx hb hX hbl hbA hW.2.2.1 hin dL_law_959 ?_
            refine lv_as x218 (by rw [e218, e217, e222]) ?_
            refine lv_aload_n hx hb dL_law_960 rfl (lv_at hl 1 rfl) ?_
            refine lv_iload_n hx hb dL_law_961 rfl (lv_at hl 0 rfl) ?_
            refine lv_iconst (v := 2) hx hb dL_law_962 (by decide) ?_
            refine lv_iadd hx hb dL_law_963 ?_
            refine lv_topi (fun x223 (e223 : x223 = i + 2) => ?_)
            try have t223 : x223.toInt = i.toInt + 2 := tadd e223 rfl kp2 (by omega)
            have hin : vp_in x223 Lx := tin rfl (by omega)
            refine va_sld hx hb hX hbl hbA hW.2.2.1 hin dL_law_964 ?_
            refine lv_as x220 (by rw [e220, e219, e223]) ?_
            refine ci2_ C (WB_R hW) (runV (x := g.2.2.1 13) (As := [.int x218, .int x220]) (rest := []) (T := (((hv J [42] [(23, 0), (23, 2)] u221.1), L, (hv I [] [(6, 4)] u221.2.1), (hv P [33] [] u221.2.2.1), (hv1 E [23] u221.2.2.2.1), u221.2.2.2.2.1), sgM g)) C (WB_R hW) (c_X12_could l g (hv J [42] [(23, 0), (23, 2)] u221.1) L (hv I [] [(6, 4)] u221.2.1) (hv P [33] [] u221.2.2.1) (hv1 E [23] u221.2.2.2.1) u221.2.2.2.2.1 H.size x218 x220 hwm) mi_X12_could tw_1467 (recv_ (T := (((hv J [42] [(23, 0), (23, 2)] u221.1), L, (hv I [] [(6, 4)] u221.2.1), (hv P [33] [] u221.2.2.1), (hv1 E [23] u221.2.2.2.1), u221.2.2.2.2.1), sgM g)) C (WB_R hW) (mm_ rfl) rfl rfl) ⟨rfl, rfl, Nat.le_of_ble_eq_true rfl, Nat.le_of_ble_eq_true rfl⟩ rfl hl.1 rfl (Nat.le_of_ble_eq_true rfl) dL_law_965 ⟨by show 1000 + 10 * k + 10 + 0 ≤ 600000; omega, by show 200000 + 20100 * k + 20100 + 0 ≤ 7302250; omega⟩) (fun r224 u224 H locs hp224 hB hk hS => ?_)
            have hW : WB g A s.heap H locs ((hv (hv J [42] [(23, 0), (23, 2)] u221.1) [100, 125, 126] [(13, 41)] u224), L, (hv I [] [(6, 4)] u221.2.1), (hv P [33] [] u221.2.2.1), (hv1 E [23] u221.2.2.2.1), u221.2.2.2.2.1) ((sgX g ++ u221.2.2.2.2.2) ++ sgM g) := joinR hW hB hk hS (frsub C (WB_R hW)) (fun x hx => cel_x (hv_x rfl rfl (notm hW x hx)))
            obtain ⟨hwm, hc224⟩ : WM (hv (hv J [42] [(23, 0), (23, 2)] u221.1) [100, 125, 126] [(13, 41)] u224) ∧ ((r224.toInt = (-1) ∧ (¬ (0 ≤ x218.toInt ∧ x218.toInt < (J 13 32).toInt)) ∧ u224 13 41 = J 13 41) ∨ (r224.toInt = (-3) ∧ (0 ≤ x218.toInt ∧ x218.toInt < (J 13 32).toInt) ∧ (∃ k : Nat, (k : Int) < (J 13 41).toInt ∧ (J 125 k).toInt = x218.toInt) ∧ u224 13 41 = J 13 41) ∨ (r224.toInt = (-4) ∧ (0 ≤ x218.toInt ∧ x218.toInt < (J 13 32).toInt ∧ x220.toInt < 1) ∧ (∀ k : Nat, (k : Int) < (J 13 41).toInt → ¬ (J 125 k).toInt = x218.toInt) ∧ u224 13 41 = J 13 41) ∨ (r224.toInt = (-6) ∧ (0 ≤ x218.toInt ∧ x218.toInt < (J 13 32).toInt ∧ 1 ≤ x220.toInt ∧ (99 < x220.toInt ∨ (J 13 41).toInt = 9)) ∧ (∀ k : Nat, (k : Int) < (J 13 41).toInt → ¬ (J 125 k).toInt = x218.toInt) ∧ u224 13 41 = J 13 41) ∨ (r224.toInt = (J 13 41).toInt ∧ (0 ≤ x218.toInt ∧ x218.toInt < (J 13 32).toInt ∧ 1 ≤ x220.toInt ∧ x220.toInt ≤ 99 ∧ (J 13 41).toInt ≤ 8) ∧ (∀ k : Nat, (k : Int) < (J 13 41).toInt → ¬ (J 125 k).toInt = x218.toInt) ∧ (u224 13 41).toInt = (J 13 41).toInt + 1)) := hp224
            refine lv_pop hx hb dL_law_968 rfl ?_
            refine lv_goto (tgt := 1390) hx hb dL_law_969 (by decide) ?_
            obtain ⟨x225, e225⟩ : ∃ y : Int32, y = i + 5 := ⟨_, rfl⟩
            refine lv_iinc (v := x225) (lv' := [(3, .int x225), (0, .ref b), (1, .ref (g.2.2.1 12)), (2, .ref (g.2.2.1 13))]) hx hb dL_law_1390 hl (k := 0) rfl (by rw [e225]; rfl) (by decide) rfl (fun ls hl => ?_)
            try have t225 : x225.toInt = i.toInt + 5 := tadd e225 rfl kp5 (by omega)
            refine lv_goto (tgt := 18) hx hb dL_law_1393 (by decide) ?_
            refine W.widen (k := 1000 + 10 * (k + 1)) (n := 200000 + 20100 * (k + 1)) (by omega) (by omega) ?_
            obtain ⟨hnew16, hnew33⟩ := rel_could k g J I P E N dy r221 x218 u221 x220 r224 u224 hk64 hwf0 hwm0 hnow0 hrl0 hac0 hrel0 hrel1 hrel2 hrel3 hrel4 hrel5 hrel6 hrel7 hrel8 hrel9 hrel10 hrel11 hrel12 hrel13 hrel14 hrel15 hrel16 hrel17 hrel18 hrel19 hrel20 hrel21 hrel22 hrel23 hrel24 hrel25 hrel26 hrel27 hrel28 hrel29 hrel30 hrel31 hrel32 hrel33 hrel34 hc221 hf221_0 hc224
            exact ih (k + 1) x225 (hv (hv J [42] [(23, 0), (23, 2)] u221.1) [100, 125, 126] [(13, 41)] u224) L (hv I [] [(6, 4)] u221.2.1) (hv P [33] [] u221.2.2.1) (hv1 E [23] u221.2.2.2.1) u221.2.2.2.2.1 u221.2.2.2.2.2 H locs ls (by omega) (by omega) (by omega) hwf hwm hnow hrl hac hrel0 hrel1 hrel2 hrel3 hrel4 hrel5 hrel6 hrel7 hrel8 hrel9 hrel10 hrel11 hrel12 hrel13 hrel14 hrel15 hnew16 hrel17 hrel18 hrel19 hrel20 hrel21 hrel22 hrel23 hrel24 hrel25 hrel26 hrel27 hrel28 hrel29 hrel30 (tol_s (a := J 13 49) (k := k) hk64 (Or.inl rfl) hrel31) hrel32 hnew33 hrel34 hW (lv_sub hl [0, 1, 2, 3] rfl)
          · refine lv_tableIn (off := 940) (tgt := 972) hx hb dL_law_32 (Int.not_lt.mpr c6) (Int.not_lt.mpr c6b) (by rw [c6k]; rfl) (by decide) ?_
            refine lv_aload_n hx hb dL_law_972 rfl (lv_at hl 2 rfl) ?_
            refine lv_aload_n hx hb dL_law_973 rfl (lv_at hl 1 rfl) ?_
            refine lv_iload_n hx hb dL_law_974 rfl (lv_at hl 0 rfl) ?_
            refine lv_iconst (v := 1) hx hb dL_law_975 (by decide) ?_
            refine lv_iadd hx hb dL_law_976 ?_
            refine lv_topi (fun x226 (e226 : x226 = i + 1) => ?_)
            try have t226 : x226.toInt = i.toInt + 1 := tadd e226 rfl kp1 (by omega)
            have hin : vp_in x226 Lx := tin rfl (by omega)
            refine va_sld hx hb hX hbl hbA hW.2.2.1 hin dL_law_977 ?_
            refine lv_topi (fun x227 (e227 : x227 = xs x226.toNatClampNeg) => ?_)
            refine ci2_ C (WB_L hW) (runV (x := g.2.2.1 12) (As := [.int x227]) (rest := []) (T := ((J, L, I, P, E, N), sgX g ++ dy)) C (WB_L hW) (c_X11_boosts_e l g J L I P E N dy H.size x227 hwf hrel21 hrel20 hrel27) mi_X11_boosts tw_878 (recv_ (T := ((J, L, I, P, E, N), sgX g ++ dy)) C (WB_L hW) (mx_ rfl) rfl rfl) ⟨rfl, rfl, Nat.le_of_ble_eq_true rfl, Nat.le_of_ble_eq_true rfl⟩ rfl hl.1 rfl (Nat.le_of_ble_eq_true rfl) dL_law_978 ⟨by show 1000 + 10 * k + 0 ≤ 600000; omega, by show 200000 + 20100 * k + 0 ≤ 7302250; omega⟩) (fun r228 u228 H locs hp228 hB hk hS => ?_)
            have hW : WB g A s.heap H locs ((hv J [42] [] u228.1), L, (hv I [] [(6, 5), (6, 6), (6, 7)] u228.2), P, E, N) ((sgX g ++ dy) ++ sgM g) := joinL hW hB hk hS (frsub C (WB_L hW)) (okM hW (fun r h => hv_m (J := J) (R := [42]) (F := []) rfl rfl h) (fun r h => rfl))
            have hf228_0 : (∀ b : Nat, (I 6 5 b).toInt = 0 → (u228.2 6 5 b).toInt = 0) := hp228
            refine lv_pop hx hb dL_law_981 rfl ?_
            refine lv_aload_n hx hb dL_law_982 rfl (lv_at hl 3 rfl) ?_
            refine lv_aload_n hx hb dL_law_983 rfl (lv_at hl 1 rfl) ?_
            refine lv_iload_n hx hb dL_law_984 rfl (lv_at hl 0 rfl) ?_
            refine lv_iconst (v := 1) hx hb dL_law_985 (by decide) ?_
            refine lv_iadd hx hb dL_law_986 ?_
            refine lv_topi (fun x229 (e229 : x229 = i + 1) => ?_)
            try have t229 : x229.toInt = i.toInt + 1 := tadd e229 rfl kp1 (by omega)
            have hin : vp_in x229 Lx := tin rfl (by omega)
            refine va_sld hx hb hX hbl hbA hW.2.2.1 hin dL_law_987 ?_
            refine lv_as x227 (by rw [e227, e226, e229]) ?_
            refine ci2_ C (WB_R hW) (runV (x := g.2.2.1 13) (As := [.int x227]) (rest := []) (T := (((hv J [42] [] u228.1), L, (hv I [] [(6, 5), (6, 6), (6, 7)] u228.2), P, E, N), sgM g)) C (WB_R hW) (c_X12_boosts_e l g (hv J [42] [] u228.1) L (hv I [] [(6, 5), (6, 6), (6, 7)] u228.2) P E N H.size x227 hwm) mi_X12_boosts tw_1471 (recv_ (T := (((hv J [42] [] u228.1), L, (hv I [] [(6, 5), (6, 6), (6, 7)] u228.2), P, E, N), sgM g)) C (WB_R hW) (mm_ rfl) rfl rfl) ⟨rfl, rfl, Nat.le_of_ble_eq_true rfl, Nat.le_of_ble_eq_true rfl⟩ rfl hl.1 rfl (Nat.le_of_ble_eq_true rfl) dL_law_988 ⟨by show 1000 + 10 * k + 0 + 0 ≤ 600000; omega, by show 200000 + 20100 * k + 0 + 0 ≤ 7302250; omega⟩) (fun r230 u230 H locs hp230 hB hk hS => ?_)
            have hW : WB g A s.heap H locs ((hv (hv J [42] [] u228.1) [100, 104, 146] [] u230), L, (hv I [] [(6, 5), (6, 6), (6, 7)] u228.2), P, E, N) ((sgX g ++ dy) ++ sgM g) := joinR hW hB hk hS (frsub C (WB_R hW)) (fun x hx => cel_x (hv_x rfl rfl (notm hW x hx)))
            have hf230_0 : ((∀ k : Nat, J 104 k = 0) → ∀ k : Nat, u230 104 k = 0) := hp230
            refine lv_pop hx hb dL_law_991 rfl ?_
            refine lv_goto (tgt := 1390) hx hb dL_law_992 (by decide) ?_
            obtain ⟨x231, e231⟩ : ∃ y : Int32, y = i + 5 := ⟨_, rfl⟩
            refine lv_iinc (v := x231) (lv' := [(3, .int x231), (0, .ref b), (1, .ref (g.2.2.1 12)), (2, .ref (g.2.2.1 13))]) hx hb dL_law_1390 hl (k := 0) rfl (by rw [e231]; rfl) (by decide) rfl (fun ls hl => ?_)
            try have t231 : x231.toInt = i.toInt + 5 := tadd e231 rfl kp5 (by omega)
            refine lv_goto (tgt := 18) hx hb dL_law_1393 (by decide) ?_
            refine W.widen (k := 1000 + 10 * (k + 1)) (n := 200000 + 20100 * (k + 1)) (by omega) (by omega) ?_
            obtain ⟨hnew25, hnew26, hnew32⟩ := rel_boosts k g J I P E N dy u228 u230 hk64 hwf0 hwm0 hnow0 hrl0 hac0 hrel0 hrel1 hrel2 hrel3 hrel4 hrel5 hrel6 hrel7 hrel8 hrel9 hrel10 hrel11 hrel12 hrel13 hrel14 hrel15 hrel16 hrel17 hrel18 hrel19 hrel20 hrel21 hrel22 hrel23 hrel24 hrel25 hrel26 hrel27 hrel28 hrel29 hrel30 hrel31 hrel32 hrel33 hrel34 hf228_0 hf230_0
            exact ih (k + 1) x231 (hv (hv J [42] [] u228.1) [100, 104, 146] [] u230) L (hv I [] [(6, 5), (6, 6), (6, 7)] u228.2) P E N dy H locs ls (by omega) (by omega) (by omega) hwf hwm hnow hrl hac hrel0 hrel1 hrel2 hrel3 hrel4 hrel5 hrel6 hrel7 hrel8 hrel9 hrel10 hrel11 hrel12 hrel13 hrel14 hrel15 hrel16 hrel17 hrel18 hrel19 hrel20 hrel21 hrel22 hrel23 hrel24 hnew25 hnew26 hrel27 hrel28 hrel29 hrel30 (tol_s (a := J 13 49) (k := k) hk64 (Or.inl rfl) hrel31) hnew32 hrel33 hrel34 hW (lv_sub hl [0, 1, 2, 3] rfl)
          · refine lv_tableIn (off := 963) (tgt := 995) hx hb dL_law_32 (Int.not_lt.mpr c6) (Int.not_lt.mpr c6b) (by rw [c6k]; rfl) (by decide) ?_
            refine lv_aload_n hx hb dL_law_995 rfl (lv_at hl 2 rfl) ?_
            refine lv_aload_n hx hb dL_law_996 rfl (lv_at hl 1 rfl) ?_
            refine lv_iload_n hx hb dL_law_997 rfl (lv_at hl 0 rfl) ?_
            refine lv_iconst (v := 1) hx hb dL_law_998 (by decide) ?_
            refine lv_iadd hx hb dL_law_999 ?_
            refine lv_topi (fun x232 (e232 : x232 = i + 1) => ?_)
            try have t232 : x232.toInt = i.toInt + 1 := tadd e232 rfl kp1 (by omega)
            have hin : vp_in x232 Lx := tin rfl (by omega)
            refine va_sld hx hb hX hbl hbA hW.2.2.1 hin dL_law_1000 ?_
            refine lv_topi (fun x233 (e233 : x233 = xs x232.toNatClampNeg) => ?_)
            refine lv_aload_n hx hb dL_law_1001 rfl (lv_at hl 1 rfl) ?_
            refine lv_iload_n hx hb dL_law_1002 rfl (lv_at hl 0 rfl) ?_
            refine lv_iconst (v := 2) hx hb dL_law_1003 (by decide) ?_
            refine lv_iadd hx hb dL_law_1004 ?_
            refine lv_topi (fun x234 (e234 : x234 = i + 2) => ?_)
            try have t234 : x234.toInt = i.toInt + 2 := tadd e234 rfl kp2 (by omega)
            have hin : vp_in x234 Lx := tin rfl (by omega)
            refine va_sld hx hb hX hbl hbA hW.2.2.1 hin dL_law_1005 ?_
            refine lv_topi (fun x235 (e235 : x235 = xs x234.toNatClampNeg) => ?_)
            refine lv_aload_n hx hb dL_law_1006 rfl (lv_at hl 1 rfl) ?_
            refine lv_iload_n hx hb dL_law_1007 rfl (lv_at hl 0 rfl) ?_
            refine lv_iconst (v := 3) hx hb dL_law_1008 (by decide) ?_
            refine lv_iadd hx hb dL_law_1009 ?_
            refine lv_topi (fun x236 (e236 : x236 = i + 3) => ?_)
            try have t236 : x236.toInt = i.toInt + 3 := tadd e236 rfl kp3 (by omega)
            have hin : vp_in x236 Lx := tin rfl (by omega)
            refine va_sld hx hb hX hbl hbA hW.2.2.1 hin dL_law_1010 ?_
            refine lv_topi (fun x237 (e237 : x237 = xs x236.toNatClampNeg) => ?_)
            refine ci2_ C (WB_L hW) (runV (x := g.2.2.1 12) (As := [.int x233, .int x235, .int x237]) (rest := []) (T := ((J, L, I, P, E, N), sgX g ++ dy)) C (WB_L hW) (c_X11_covers l g J L I P E N dy H.size x233 x235 x237 hwf) mi_X11_covers tw_895 (recv_ (T := ((J, L, I, P, E, N), sgX g ++ dy)) C (WB_L hW) (mx_ rfl) rfl rfl) ⟨rfl, rfl, Nat.le_of_ble_eq_true rfl, Nat.le_of_ble_eq_true rfl⟩ rfl hl.1 rfl (Nat.le_of_ble_eq_true rfl) dL_law_1011 ⟨by show 1000 + 10 * k + 0 ≤ 600000; omega, by show 200000 + 20100 * k + 0 ≤ 7302250; omega⟩) (fun r238 u238 H locs hp238 hB hk hS => ?_)
            have hW : WB g A s.heap H locs ((hv J [42] [] u238.1), (hv L [47] [] u238.2.1), (hv I [] [(6, 6), (6, 7)] u238.2.2), P, E, N) ((sgX g ++ dy) ++ sgM g) := joinL hW hB hk hS (frsub C (WB_L hW)) (okM hW (fun r h => hv_m (J := J) (R := [42]) (F := []) rfl rfl h) (fun r h => hv_m (J := L) (R := [47]) (F := []) rfl rfl h))
            refine lv_pop hx hb dL_law_1014 rfl ?_
            refine lv_aload_n hx hb dL_law_1015 rfl (lv_at hl 3 rfl) ?_
            refine lv_aload_n hx hb dL_law_1016 rfl (lv_at hl 1 rfl) ?_
            refine lv_iload_n hx hb dL_law_1017 rfl (lv_at hl 0 rfl) ?_
            refine lv_iconst (v := 1) hx hb dL_law_1018 (by decide) ?_
            refine lv_iadd hx hb dL_law_1019 ?_
            refine lv_topi (fun x239 (e239 : x239 = i + 1) => ?_)
            try have t239 : x239.toInt = i.toInt + 1 := tadd e239 rfl kp1 (by omega)
            have hin : vp_in x239 Lx := tin rfl (by omega)
            refine va_sld hx hb hX hbl hbA hW.2.2.1 hin dL_law_1020 ?_
            refine lv_as x233 (by rw [e233, e232, e239]) ?_
            refine lv_aload_n hx hb dL_law_1021 rfl (lv_at hl 1 rfl) ?_
            refine lv_iload_n hx hb dL_law_1022 rfl (lv_at hl 0 rfl) ?_
            refine lv_iconst (v := 2) hx hb dL_law_1023 (by decide) ?_
            refine lv_iadd hx hb dL_law_1024 ?_
            refine lv_topi (fun x240 (e240 : x240 = i + 2) => ?_)
            try have t240 : x240.toInt = i.toInt + 2 := tadd e240 rfl kp2 (by omega)
            have hin : vp_in x240 Lx := tin rfl (by omega)
            refine va_sld hx hb hX hbl hbA hW.2.2.1 hin dL_law_1025 ?_
            refine lv_as x235 (by rw [e235, e234, e240]) ?_
            refine lv_aload_n hx hb dL_law_1026 rfl (lv_at hl 1 rfl) ?_
            refine lv_iload_n hx hb dL_law_1027 rfl (lv_at hl 0 rfl) ?_
            refine lv_iconst (v := 3) hx hb dL_law_1028 (by decide) ?_
            refine lv_iadd hx hb dL_law_1029 ?_
            refine lv_topi (fun x241 (e241 : x241 = i + 3) => ?_)
            try have t241 : x241.toInt = i.toInt + 3 := tadd e241 rfl kp3 (by omega)
            have hin : vp_in x241 Lx := tin rfl (by omega)
            refine va_sld hx hb hX hbl hbA hW.2.2.1 hin dL_law_1030 ?_
            refine lv_as x237 (by rw [e237, e236, e241]) ?_
            refine ci2_ C (WB_R hW) (runV (x := g.2.2.1 13) (As := [.int x233, .int x235, .int x237]) (rest := []) (T := (((hv J [42] [] u238.1), (hv L [47] [] u238.2.1), (hv I [] [(6, 6), (6, 7)] u238.2.2), P, E, N), sgM g)) C (WB_R hW) (c_X12_covers l g (hv J [42] [] u238.1) (hv L [47] [] u238.2.1) (hv I [] [(6, 6), (6, 7)] u238.2.2) P E N H.size x233 x235 x237 hwm) mi_X12_covers tw_1475 (recv_ (T := (((hv J [42] [] u238.1), (hv L [47] [] u238.2.1), (hv I [] [(6, 6), (6, 7)] u238.2.2), P, E, N), sgM g)) C (WB_R hW) (mm_ rfl) rfl rfl) ⟨rfl, rfl, Nat.le_of_ble_eq_true rfl, Nat.le_of_ble_eq_true rfl⟩ rfl hl.1 rfl (Nat.le_of_ble_eq_true rfl) dL_law_1031 ⟨by show 1000 + 10 * k + 0 + 0 ≤ 600000; omega, by show 200000 + 20100 * k + 0 + 0 ≤ 7302250; omega⟩) (fun r242 u242 H locs hp242 hB hk hS => ?_)
            have hW : WB g A s.heap H locs ((hv (hv J [42] [] u238.1) [100, 146, 165, 166] [] u242), (hv L [47] [] u238.2.1), (hv I [] [(6, 6), (6, 7)] u238.2.2), P, E, N) ((sgX g ++ dy) ++ sgM g) := joinR hW hB hk hS (frsub C (WB_R hW)) (fun x hx => cel_x (hv_x rfl rfl (notm hW x hx)))
            refine lv_pop hx hb dL_law_1034 rfl ?_
            refine lv_goto (tgt := 1390) hx hb dL_law_1035 (by decide) ?_
            obtain ⟨x243, e243⟩ : ∃ y : Int32, y = i + 5 := ⟨_, rfl⟩
            refine lv_iinc (v := x243) (lv' := [(3, .int x243), (0, .ref b), (1, .ref (g.2.2.1 12)), (2, .ref (g.2.2.1 13))]) hx hb dL_law_1390 hl (k := 0) rfl (by rw [e243]; rfl) (by decide) rfl (fun ls hl => ?_)
            try have t243 : x243.toInt = i.toInt + 5 := tadd e243 rfl kp5 (by omega)
            refine lv_goto (tgt := 18) hx hb dL_law_1393 (by decide) ?_
            refine W.widen (k := 1000 + 10 * (k + 1)) (n := 200000 + 20100 * (k + 1)) (by omega) (by omega) ?_
            exact ih (k + 1) x243 (hv (hv J [42] [] u238.1) [100, 146, 165, 166] [] u242) (hv L [47] [] u238.2.1) (hv I [] [(6, 6), (6, 7)] u238.2.2) P E N dy H locs ls (by omega) (by omega) (by omega) hwf hwm hnow hrl hac hrel0 hrel1 hrel2 hrel3 hrel4 hrel5 hrel6 hrel7 hrel8 hrel9 hrel10 hrel11 hrel12 hrel13 hrel14 hrel15 hrel16 hrel17 hrel18 hrel19 hrel20 hrel21 hrel22 hrel23 hrel24 hrel25 hrel26 hrel27 hrel28 hrel29 hrel30 (tol_s (a := J 13 49) (k := k) hk64 (Or.inl rfl) hrel31) hrel32 hrel33 hrel34 hW (lv_sub hl [0, 1, 2, 3] rfl)
          · refine lv_tableIn (off := 1006) (tgt := 1038) hx hb dL_law_32 (Int.not_lt.mpr c6) (Int.not_lt.mpr c6b) (by rw [c6k]; rfl) (by decide) ?_
            refine lv_aload_n hx hb dL_law_1038 rfl (lv_at hl 2 rfl) ?_
            refine lv_aload_n hx hb dL_law_1039 rfl (lv_at hl 1 rfl) ?_
            refine lv_iload_n hx hb dL_law_1040 rfl (lv_at hl 0 rfl) ?_
            refine lv_iconst (v := 1) hx hb dL_law_1041 (by decide) ?_
            refine lv_iadd hx hb dL_law_1042 ?_
            refine lv_topi (fun x244 (e244 : x244 = i + 1) => ?_)
            try have t244 : x244.toInt = i.toInt + 1 := tadd e244 rfl kp1 (by omega)
            have hin : vp_in x244 Lx := tin rfl (by omega)
            refine va_sld hx hb hX hbl hbA hW.2.2.1 hin dL_law_1043 ?_
            refine lv_topi (fun x245 (e245 : x245 = xs x244.toNatClampNeg) => ?_)
            refine lv_aload_n hx hb dL_law_1044 rfl (lv_at hl 1 rfl) ?_
            refine lv_iload_n hx hb dL_law_1045 rfl (lv_at hl 0 rfl) ?_
            refine lv_iconst (v := 2) hx hb dL_law_1046 (by decide) ?_
            refine lv_iadd hx hb dL_law_1047 ?_
            refine lv_topi (fun x246 (e246 : x246 = i + 2) => ?_)
            try have t246 : x246.toInt = i.toInt + 2 := tadd e246 rfl kp2 (by omega)
            have hin : vp_in x246 Lx := tin rfl (by omega)
            refine va_sld hx hb hX hbl hbA hW.2.2.1 hin dL_law_1048 ?_
            refine lv_topi (fun x247 (e247 : x247 = xs x246.toNatClampNeg) => ?_)
            refine lv_aload_n hx hb dL_law_1049 rfl (lv_at hl 1 rfl) ?_
            refine lv_iload_n hx hb dL_law_1050 rfl (lv_at hl 0 rfl) ?_
            refine lv_iconst (v := 3) hx hb dL_law_1051 (by decide) ?_
            refine lv_iadd hx hb dL_law_1052 ?_
            refine lv_topi (fun x248 (e248 : x248 = i + 3) => ?_)
            try have t248 : x248.toInt = i.toInt + 3 := tadd e248 rfl kp3 (by omega)
            have hin : vp_in x248 Lx := tin rfl (by omega)
            refine va_sld hx hb hX hbl hbA hW.2.2.1 hin dL_law_1053 ?_
            refine lv_topi (fun x249 (e249 : x249 = xs x248.toNatClampNeg) => ?_)
            refine ci2_ C (WB_L hW) (runV (x := g.2.2.1 12) (As := [.int x245, .int x247, .int x249]) (rest := []) (T := ((J, L, I, P, E, N), sgX g ++ dy)) C (WB_L hW) (c_X11_rights l g J L I P E N dy H.size x245 x247 x249 hwf) mi_X11_rights tw_923 (recv_ (T := ((J, L, I, P, E, N), sgX g ++ dy)) C (WB_L hW) (mx_ rfl) rfl rfl) ⟨rfl, rfl, Nat.le_of_ble_eq_true rfl, Nat.le_of_ble_eq_true rfl⟩ rfl hl.1 rfl (Nat.le_of_ble_eq_true rfl) dL_law_1054 ⟨by show 1000 + 10 * k + 0 ≤ 600000; omega, by show 200000 + 20100 * k + 0 ≤ 7302250; omega⟩) (fun r250 u250 H locs hp250 hB hk hS => ?_)
            have hW : WB g A s.heap H locs ((hv J [42, 45] [(4, 6), (4, 7), (8, 1), (8, 2), (8, 3), (8, 4), (8, 5), (8, 6), (8, 7), (8, 8), (8, 9)] u250.1), (hv L [47] [] u250.2.1), (hv I [] [(6, 6), (6, 7)] u250.2.2), P, E, N) ((sgX g ++ dy) ++ sgM g) := joinL hW hB hk hS (frsub C (WB_L hW)) (okM hW (fun r h => hv_m (J := J) (R := [42, 45]) (F := [(4, 6), (4, 7), (8, 1), (8, 2), (8, 3), (8, 4), (8, 5), (8, 6), (8, 7), (8, 8), (8, 9)]) rfl rfl h) (fun r h => hv_m (J := L) (R := [47]) (F := []) rfl rfl h))
            refine lv_pop hx hb dL_law_1057 rfl ?_
            refine lv_aload_n hx hb dL_law_1058 rfl (lv_at hl 3 rfl) ?_
            refine lv_aload_n hx hb dL_law_1059 rfl (lv_at hl 1 rfl) ?_
            refine lv_iload_n hx hb dL_law_1060 rfl (lv_at hl 0 rfl) ?_
            refine lv_iconst (v := 1) hx hb dL_law_1061 (by decide) ?_
            refine lv_iadd hx hb dL_law_1062 ?_
            refine lv_topi (fun x251 (e251 : x251 = i + 1) => ?_)
            try have t251 : x251.toInt = i.toInt + 1 := tadd e251 rfl kp1 (by omega)
            have hin : vp_in x251 Lx := tin rfl (by omega)
            refine va_sld hx hb hX hbl hbA hW.2.2.1 hin dL_law_1063 ?_
            refine lv_as x245 (by rw [e245, e244, e251]) ?_
            refine lv_aload_n hx hb dL_law_1064 rfl (lv_at hl 1 rfl) ?_
            refine lv_iload_n hx hb dL_law_1065 rfl (lv_at hl 0 rfl) ?_
            refine lv_iconst (v := 2) hx hb dL_law_1066 (by decide) ?_
            refine lv_iadd hx hb dL_law_1067 ?_
            refine lv_topi (fun x252 (e252 : x252 = i + 2) => ?_)
            try have t252 : x252.toInt = i.toInt + 2 := tadd e252 rfl kp2 (by omega)
            have hin : vp_in x252 Lx := tin rfl (by omega)
            refine va_sld hx hb hX hbl hbA hW.2.2.1 hin dL_law_1068 ?_
            refine lv_as x247 (by rw [e247, e246, e252]) ?_
            refine lv_aload_n hx hb dL_law_1069 rfl (lv_at hl 1 rfl) ?_
            refine lv_iload_n hx hb dL_law_1070 rfl (lv_at hl 0 rfl) ?_
            refine lv_iconst (v := 3) hx hb dL_law_1071 (by decide) ?_
            refine lv_iadd hx hb dL_law_1072 ?_
            refine lv_topi (fun x253 (e253 : x253 = i + 3) => ?_)
            try have t253 : x253.toInt = i.toInt + 3 := tadd e253 rfl kp3 (by omega)
            have hin : vp_in x253 Lx := tin rfl (by omega)
            refine va_sld hx hb hX hbl hbA hW.2.2.1 hin dL_law_1073 ?_
            refine lv_as x249 (by rw [e249, e248, e253]) ?_
            refine ci2_ C (WB_R hW) (runV (x := g.2.2.1 13) (As := [.int x245, .int x247, .int x249]) (rest := []) (T := (((hv J [42, 45] [(4, 6), (4, 7), (8, 1), (8, 2), (8, 3), (8, 4), (8, 5), (8, 6), (8, 7), (8, 8), (8, 9)] u250.1), (hv L [47] [] u250.2.1), (hv I [] [(6, 6), (6, 7)] u250.2.2), P, E, N), sgM g)) C (WB_R hW) (c_X12_rights_k l g (hv J [42, 45] [(4, 6), (4, 7), (8, 1), (8, 2), (8, 3), (8, 4), (8, 5), (8, 6), (8, 7), (8, 8), (8, 9)] u250.1) (hv L [47] [] u250.2.1) (hv I [] [(6, 6), (6, 7)] u250.2.2) P E N H.size x245 x247 x249 hwm hrel32) mi_X12_rights tw_1491 (recv_ (T := (((hv J [42, 45] [(4, 6), (4, 7), (8, 1), (8, 2), (8, 3), (8, 4), (8, 5), (8, 6), (8, 7), (8, 8), (8, 9)] u250.1), (hv L [47] [] u250.2.1), (hv I [] [(6, 6), (6, 7)] u250.2.2), P, E, N), sgM g)) C (WB_R hW) (mm_ rfl) rfl rfl) ⟨rfl, rfl, Nat.le_of_ble_eq_true rfl, Nat.le_of_ble_eq_true rfl⟩ rfl hl.1 rfl (Nat.le_of_ble_eq_true rfl) dL_law_1074 ⟨by show 1000 + 10 * k + 0 + 0 ≤ 600000; omega, by show 200000 + 20100 * k + 0 + 0 ≤ 7302250; omega⟩) (fun r254 u254 H locs hp254 hB hk hS => ?_)
            have hW : WB g A s.heap H locs ((hv (hv J [42, 45] [(4, 6), (4, 7), (8, 1), (8, 2), (8, 3), (8, 4), (8, 5), (8, 6), (8, 7), (8, 8), (8, 9)] u250.1) [100, 146, 150, 151, 152, 154, 165, 166, 167] [(13, 47), (13, 48), (13, 56), (13, 57), (13, 58), (13, 59), (13, 60), (13, 68)] u254), (hv L [47] [] u250.2.1), (hv I [] [(6, 6), (6, 7)] u250.2.2), P, E, N) ((sgX g ++ dy) ++ sgM g) := joinR hW hB hk hS (frsub C (WB_R hW)) (fun x hx => cel_x (hv_x rfl rfl (notm hW x hx)))
            have hf254_0 : (CAC (hv (hv J [42, 45] [(4, 6), (4, 7), (8, 1), (8, 2), (8, 3), (8, 4), (8, 5), (8, 6), (8, 7), (8, 8), (8, 9)] u250.1) [100, 146, 150, 151, 152, 154, 165, 166, 167] [(13, 47), (13, 48), (13, 56), (13, 57), (13, 58), (13, 59), (13, 60), (13, 68)] u254)) := hp254
            refine lv_pop hx hb dL_law_1077 rfl ?_
            refine lv_goto (tgt := 1390) hx hb dL_law_1078 (by decide) ?_
            obtain ⟨x255, e255⟩ : ∃ y : Int32, y = i + 5 := ⟨_, rfl⟩
            refine lv_iinc (v := x255) (lv' := [(3, .int x255), (0, .ref b), (1, .ref (g.2.2.1 12)), (2, .ref (g.2.2.1 13))]) hx hb dL_law_1390 hl (k := 0) rfl (by rw [e255]; rfl) (by decide) rfl (fun ls hl => ?_)
            try have t255 : x255.toInt = i.toInt + 5 := tadd e255 rfl kp5 (by omega)
            refine lv_goto (tgt := 18) hx hb dL_law_1393 (by decide) ?_
            refine W.widen (k := 1000 + 10 * (k + 1)) (n := 200000 + 20100 * (k + 1)) (by omega) (by omega) ?_
            obtain hnew32 := rel_rights k g J I P E N dy u250 u254 hk64 hwf0 hwm0 hnow0 hrl0 hac0 hrel0 hrel1 hrel2 hrel3 hrel4 hrel5 hrel6 hrel7 hrel8 hrel9 hrel10 hrel11 hrel12 hrel13 hrel14 hrel15 hrel16 hrel17 hrel18 hrel19 hrel20 hrel21 hrel22 hrel23 hrel24 hrel25 hrel26 hrel27 hrel28 hrel29 hrel30 hrel31 hrel32 hrel33 hrel34 hf254_0
            exact ih (k + 1) x255 (hv (hv J [42, 45] [(4, 6), (4, 7), (8, 1), (8, 2), (8, 3), (8, 4), (8, 5), (8, 6), (8, 7), (8, 8), (8, 9)] u250.1) [100, 146, 150, 151, 152, 154, 165, 166, 167] [(13, 47), (13, 48), (13, 56), (13, 57), (13, 58), (13, 59), (13, 60), (13, 68)] u254) (hv L [47] [] u250.2.1) (hv I [] [(6, 6), (6, 7)] u250.2.2) P E N dy H locs ls (by omega) (by omega) (by omega) hwf hwm hnow hrl hac hrel0 hrel1 hrel2 hrel3 hrel4 hrel5 hrel6 hrel7 hrel8 hrel9 hrel10 hrel11 hrel12 hrel13 hrel14 hrel15 hrel16 hrel17 hrel18 hrel19 hrel20 hrel21 hrel22 hrel23 hrel24 hrel25 hrel26 hrel27 hrel28 hrel29 hrel30 (tol_s (a := J 13 49) (k := k) hk64 (Or.inl rfl) hrel31) hnew32 hrel33 hrel34 hW (lv_sub hl [0, 1, 2, 3] rfl)
          · refine lv_tableIn (off := 1049) (tgt := 1081) hx hb dL_law_32 (Int.not_lt.mpr c6) (Int.not_lt.mpr c6b) (by rw [c6k]; rfl) (by decide) ?_
            refine lv_aload_n hx hb dL_law_1081 rfl (lv_at hl 2 rfl) ?_
            refine lv_aload_n hx hb dL_law_1082 rfl (lv_at hl 1 rfl) ?_
            refine lv_iload_n hx hb dL_law_1083 rfl (lv_at hl 0 rfl) ?_
            refine lv_iconst (v := 1) hx hb dL_law_1084 (by decide) ?_
            refine lv_iadd hx hb dL_law_1085 ?_
            refine lv_topi (fun x256 (e256 : x256 = i + 1) => ?_)
            try have t256 : x256.toInt = i.toInt + 1 := tadd e256 rfl kp1 (by omega)
            have hin : vp_in x256 Lx := tin rfl (by omega)
            refine va_sld hx hb hX hbl hbA hW.2.2.1 hin dL_law_1086 ?_
            refine lv_topi (fun x257 (e257 : x257 = xs x256.toNatClampNeg) => ?_)
            refine lv_if_eq (tgt := 1094) hx hb dL_law_1087 (by decide) (fun c258 => ?_) (fun c258 => ?_)
            · have c258 : x257.toInt = 0 := teq rfl kp0 c258
              refine lv_iconst (v := 0) hx hb dL_law_1094 (by decide) ?_
              refine ci2_ C (WB_L hW) (runV (x := g.2.2.1 12) (As := [.int 0]) (rest := []) (T := ((J, L, I, P, E, N), sgX g ++ dy)) C (WB_L hW) (c_X11_news_e l g J L I P E N dy H.size (0 : Int32) hwf) mi_X11_news tw_933 (recv_ (T := ((J, L, I, P, E, N), sgX g ++ dy)) C (WB_L hW) (mx_ rfl) rfl rfl) ⟨rfl, rfl, Nat.le_of_ble_eq_true rfl, Nat.le_of_ble_eq_true rfl⟩ rfl hl.1 rfl (Nat.le_of_ble_eq_true rfl) dL_law_1095 ⟨by show 1000 + 10 * k + 10 ≤ 600000; omega, by show 200000 + 20100 * k + 20100 ≤ 7302250; omega⟩) (fun r259 u259 H locs hp259 hB hk hS => ?_)
              have hW : WB g A s.heap H locs ((hv J [42] [(26, 0), (26, 2)] u259.1), L, (hv I [5] [] u259.2.1), (hv P [5, 36] [] u259.2.2.1), (hv1 E [26] u259.2.2.2.1), u259.2.2.2.2.1) ((sgX g ++ u259.2.2.2.2.2) ++ sgM g) := joinL hW hB hk hS (frsub C (WB_L hW)) (okM hW (fun r h => hv_m (J := J) (R := [42]) (F := [(26, 0), (26, 2)]) rfl rfl h) (fun r h => rfl))
              obtain ⟨hc259, hwf, hdd259, hf259_0⟩ := hp259
              refine lv_pop hx hb dL_law_1098 rfl ?_
              refine lv_aload_n hx hb dL_law_1099 rfl (lv_at hl 3 rfl) ?_
              refine lv_aload_n hx hb dL_law_1100 rfl (lv_at hl 1 rfl) ?_
              refine lv_iload_n hx hb dL_law_1101 rfl (lv_at hl 0 rfl) ?_
              refine lv_iconst (v := 1) hx hb dL_law_1102 (by decide) ?_
              refine lv_iadd hx hb dL_law_1103 ?_
              refine lv_topi (fun x260 (e260 : x260 = i + 1) => ?_)
              try have t260 : x260.toInt = i.toInt + 1 := tadd e260 rfl kp1 (by omega)
              have hin : vp_in x260 Lx := tin rfl (by omega)
              refine va_sld hx hb hX hbl hbA hW.2.2.1 hin dL_law_1104 ?_
              refine lv_as x257 (by rw [e257, e256, e260]) ?_
              refine lv_if_eq (tgt := 1112) hx hb dL_law_1105 (by decide) (fun c261 => ?_) (fun c261 => ?_)
              · have c261 : x257.toInt = 0 := teq rfl kp0 c261
                refine lv_iconst (v := 0) hx hb dL_law_1112 (by decide) ?_
                refine ci2_ C (WB_R hW) (runV (x := g.2.2.1 13) (As := [.int 0]) (rest := []) (T := (((hv J [42] [(26, 0), (26, 2)] u259.1), L, (hv I [5] [] u259.2.1), (hv P [5, 36] [] u259.2.2.1), (hv1 E [26] u259.2.2.2.1), u259.2.2.2.2.1), sgM g)) C (WB_R hW) (c_X12_news_e l g (hv J [42] [(26, 0), (26, 2)] u259.1) L (hv I [5] [] u259.2.1) (hv P [5, 36] [] u259.2.2.1) (hv1 E [26] u259.2.2.2.1) u259.2.2.2.2.1 H.size (0 : Int32) hwm) mi_X12_news tw_1503 (recv_ (T := (((hv J [42] [(26, 0), (26, 2)] u259.1), L, (hv I [5] [] u259.2.1), (hv P [5, 36] [] u259.2.2.1), (hv1 E [26] u259.2.2.2.1), u259.2.2.2.2.1), sgM g)) C (WB_R hW) (mm_ rfl) rfl rfl) ⟨rfl, rfl, Nat.le_of_ble_eq_true rfl, Nat.le_of_ble_eq_true rfl⟩ rfl hl.1 rfl (Nat.le_of_ble_eq_true rfl) dL_law_1113 ⟨by show 1000 + 10 * k + 10 + 0 ≤ 600000; omega, by show 200000 + 20100 * k + 20100 + 0 ≤ 7302250; omega⟩) (fun r262 u262 H locs hp262 hB hk hS => ?_)
                have hW : WB g A s.heap H locs ((hv (hv J [42] [(26, 0), (26, 2)] u259.1) [100, 127, 128] [(13, 42)] u262), L, (hv I [5] [] u259.2.1), (hv P [5, 36] [] u259.2.2.1), (hv1 E [26] u259.2.2.2.1), u259.2.2.2.2.1) ((sgX g ++ u259.2.2.2.2.2) ++ sgM g) := joinR hW hB hk hS (frsub C (WB_R hW)) (fun x hx => cel_x (hv_x rfl rfl (notm hW x hx)))
                obtain ⟨hwm, hc262⟩ : WM (hv (hv J [42] [(26, 0), (26, 2)] u259.1) [100, 127, 128] [(13, 42)] u262) ∧ ((r262.toInt = (-6) ∧ ((J 13 42).toInt = 40) ∧ u262 13 42 = J 13 42 ∧ u262 127 = J 127 ∧ u262 128 = J 128) ∨ (r262.toInt = (J 13 42).toInt ∧ ((J 13 42).toInt ≤ 39) ∧ (u262 13 42).toInt = (J 13 42).toInt + 1 ∧ u262 127 = up2 J 127 (J 13 42).toNatClampNeg (J 13 31) 127 ∧ u262 128 = up2 J 128 (J 13 42).toNatClampNeg (-9) 128)) := hp262
                refine lv_pop hx hb dL_law_1116 rfl ?_
                refine lv_goto (tgt := 1390) hx hb dL_law_1117 (by decide) ?_
                obtain ⟨x263, e263⟩ : ∃ y : Int32, y = i + 5 := ⟨_, rfl⟩
                refine lv_iinc (v := x263) (lv' := [(3, .int x263), (0, .ref b), (1, .ref (g.2.2.1 12)), (2, .ref (g.2.2.1 13))]) hx hb dL_law_1390 hl (k := 0) rfl (by rw [e263]; rfl) (by decide) rfl (fun ls hl => ?_)
                try have t263 : x263.toInt = i.toInt + 5 := tadd e263 rfl kp5 (by omega)
                refine lv_goto (tgt := 18) hx hb dL_law_1393 (by decide) ?_
                refine W.widen (k := 1000 + 10 * (k + 1)) (n := 200000 + 20100 * (k + 1)) (by omega) (by omega) ?_
                obtain ⟨hnew10, hnew16, hnew33⟩ := rel_news k g J I P E N dy r259 u259 r262 u262 hk64 hwf0 hwm0 hnow0 hrl0 hac0 hrel0 hrel1 hrel2 hrel3 hrel4 hrel5 hrel6 hrel7 hrel8 hrel9 hrel10 hrel11 hrel12 hrel13 hrel14 hrel15 hrel16 hrel17 hrel18 hrel19 hrel20 hrel21 hrel22 hrel23 hrel24 hrel25 hrel26 hrel27 hrel28 hrel29 hrel30 hrel31 hrel32 hrel33 hrel34 hc259 hf259_0 hc262
                exact ih (k + 1) x263 (hv (hv J [42] [(26, 0), (26, 2)] u259.1) [100, 127, 128] [(13, 42)] u262) L (hv I [5] [] u259.2.1) (hv P [5, 36] [] u259.2.2.1) (hv1 E [26] u259.2.2.2.1) u259.2.2.2.2.1 u259.2.2.2.2.2 H locs ls (by omega) (by omega) (by omega) hwf hwm hnow hrl hac hrel0 hrel1 hrel2 hrel3 hrel4 hrel5 hrel6 hrel7 hrel8 hrel9 hnew10 hrel11 hrel12 hrel13 hrel14 hrel15 hnew16 hrel17 hrel18 hrel19 hrel20 hrel21 hrel22 hrel23 hrel24 hrel25 hrel26 hrel27 hrel28 hrel29 hrel30 (tol_s (a := J 13 49) (k := k) hk64 (Or.inl rfl) hrel31) hrel32 hnew33 hrel34 hW (lv_sub hl [0, 1, 2, 3] rfl)
              · have c261 : ¬ x257.toInt = 0 := tne rfl kp0 c261
                exfalso; omega
            · have c258 : ¬ x257.toInt = 0 := tne rfl kp0 c258
              refine lv_iconst (v := 1) hx hb dL_law_1090 (by decide) ?_
              refine lv_goto (tgt := 1095) hx hb dL_law_1091 (by decide) ?_
              refine ci2_ C (WB_L hW) (runV (x := g.2.2.1 12) (As := [.int 1]) (rest := []) (T := ((J, L, I, P, E, N), sgX g ++ dy)) C (WB_L hW) (c_X11_news_e l g J L I P E N dy H.size (1 : Int32) hwf) mi_X11_news tw_933 (recv_ (T := ((J, L, I, P, E, N), sgX g ++ dy)) C (WB_L hW) (mx_ rfl) rfl rfl) ⟨rfl, rfl, Nat.le_of_ble_eq_true rfl, Nat.le_of_ble_eq_true rfl⟩ rfl hl.1 rfl (Nat.le_of_ble_eq_true rfl) dL_law_1095 ⟨by show 1000 + 10 * k + 10 ≤ 600000; omega, by show 200000 + 20100 * k + 20100 ≤ 7302250; omega⟩) (fun r264 u264 H locs hp264 hB hk hS => ?_)
              have hW : WB g A s.heap H locs ((hv J [42] [(26, 0), (26, 2)] u264.1), L, (hv I [5] [] u264.2.1), (hv P [5, 36] [] u264.2.2.1), (hv1 E [26] u264.2.2.2.1), u264.2.2.2.2.1) ((sgX g ++ u264.2.2.2.2.2) ++ sgM g) := joinL hW hB hk hS (frsub C (WB_L hW)) (okM hW (fun r h => hv_m (J := J) (R := [42]) (F := [(26, 0), (26, 2)]) rfl rfl h) (fun r h => rfl))
              obtain ⟨hc264, hwf, hdd264, hf264_0⟩ := hp264
              refine lv_pop hx hb dL_law_1098 rfl ?_
              refine lv_aload_n hx hb dL_law_1099 rfl (lv_at hl 3 rfl) ?_
              refine lv_aload_n hx hb dL_law_1100 rfl (lv_at hl 1 rfl) ?_
              refine lv_iload_n hx hb dL_law_1101 rfl (lv_at hl 0 rfl) ?_
              refine lv_iconst (v := 1) hx hb dL_law_1102 (by decide) ?_
              refine lv_iadd hx hb dL_law_1103 ?_
              refine lv_topi (fun x265 (e265 : x265 = i + 1) => ?_)
              try have t265 : x265.toInt = i.toInt + 1 := tadd e265 rfl kp1 (by omega)
              have hin : vp_in x265 Lx := tin rfl (by omega)
              refine va_sld hx hb hX hbl hbA hW.2.2.1 hin dL_law_1104 ?_
              refine lv_as x257 (by rw [e257, e256, e265]) ?_
              refine lv_if_eq (tgt := 1112) hx hb dL_law_1105 (by decide) (fun c266 => ?_) (fun c266 => ?_)
              · have c266 : x257.toInt = 0 := teq rfl kp0 c266
                exfalso; omega
              · have c266 : ¬ x257.toInt = 0 := tne rfl kp0 c266
                refine lv_iconst (v := 1) hx hb dL_law_1108 (by decide) ?_
                refine lv_goto (tgt := 1113) hx hb dL_law_1109 (by decide) ?_
                refine ci2_ C (WB_R hW) (runV (x := g.2.2.1 13) (As := [.int 1]) (rest := []) (T := (((hv J [42] [(26, 0), (26, 2)] u264.1), L, (hv I [5] [] u264.2.1), (hv P [5, 36] [] u264.2.2.1), (hv1 E [26] u264.2.2.2.1), u264.2.2.2.2.1), sgM g)) C (WB_R hW) (c_X12_news_e l g (hv J [42] [(26, 0), (26, 2)] u264.1) L (hv I [5] [] u264.2.1) (hv P [5, 36] [] u264.2.2.1) (hv1 E [26] u264.2.2.2.1) u264.2.2.2.2.1 H.size (1 : Int32) hwm) mi_X12_news tw_1503 (recv_ (T := (((hv J [42] [(26, 0), (26, 2)] u264.1), L, (hv I [5] [] u264.2.1), (hv P [5, 36] [] u264.2.2.1), (hv1 E [26] u264.2.2.2.1), u264.2.2.2.2.1), sgM g)) C (WB_R hW) (mm_ rfl) rfl rfl) ⟨rfl, rfl, Nat.le_of_ble_eq_true rfl, Nat.le_of_ble_eq_true rfl⟩ rfl hl.1 rfl (Nat.le_of_ble_eq_true rfl) dL_law_1113 ⟨by show 1000 + 10 * k + 10 + 0 ≤ 600000; omega, by show 200000 + 20100 * k + 20100 + 0 ≤ 7302250; omega⟩) (fun r267 u267 H locs hp267 hB hk hS => ?_)
                have hW : WB g A s.heap H locs ((hv (hv J [42] [(26, 0), (26, 2)] u264.1) [100, 127, 128] [(13, 42)] u267), L, (hv I [5] [] u264.2.1), (hv P [5, 36] [] u264.2.2.1), (hv1 E [26] u264.2.2.2.1), u264.2.2.2.2.1) ((sgX g ++ u264.2.2.2.2.2) ++ sgM g) := joinR hW hB hk hS (frsub C (WB_R hW)) (fun x hx => cel_x (hv_x rfl rfl (notm hW x hx)))
                obtain ⟨hwm, hc267⟩ : WM (hv (hv J [42] [(26, 0), (26, 2)] u264.1) [100, 127, 128] [(13, 42)] u267) ∧ ((r267.toInt = (-6) ∧ ((J 13 42).toInt = 40) ∧ u267 13 42 = J 13 42 ∧ u267 127 = J 127 ∧ u267 128 = J 128) ∨ (r267.toInt = (J 13 42).toInt ∧ ((J 13 42).toInt ≤ 39) ∧ (u267 13 42).toInt = (J 13 42).toInt + 1 ∧ u267 127 = up2 J 127 (J 13 42).toNatClampNeg (J 13 31) 127 ∧ u267 128 = up2 J 128 (J 13 42).toNatClampNeg (-9) 128)) := hp267
                refine lv_pop hx hb dL_law_1116 rfl ?_
                refine lv_goto (tgt := 1390) hx hb dL_law_1117 (by decide) ?_
                obtain ⟨x268, e268⟩ : ∃ y : Int32, y = i + 5 := ⟨_, rfl⟩
                refine lv_iinc (v := x268) (lv' := [(3, .int x268), (0, .ref b), (1, .ref (g.2.2.1 12)), (2, .ref (g.2.2.1 13))]) hx hb dL_law_1390 hl (k := 0) rfl (by rw [e268]; rfl) (by decide) rfl (fun ls hl => ?_)
                try have t268 : x268.toInt = i.toInt + 5 := tadd e268 rfl kp5 (by omega)
                refine lv_goto (tgt := 18) hx hb dL_law_1393 (by decide) ?_
                refine W.widen (k := 1000 + 10 * (k + 1)) (n := 200000 + 20100 * (k + 1)) (by omega) (by omega) ?_
                obtain ⟨hnew10, hnew16, hnew33⟩ := rel_news k g J I P E N dy r264 u264 r267 u267 hk64 hwf0 hwm0 hnow0 hrl0 hac0 hrel0 hrel1 hrel2 hrel3 hrel4 hrel5 hrel6 hrel7 hrel8 hrel9 hrel10 hrel11 hrel12 hrel13 hrel14 hrel15 hrel16 hrel17 hrel18 hrel19 hrel20 hrel21 hrel22 hrel23 hrel24 hrel25 hrel26 hrel27 hrel28 hrel29 hrel30 hrel31 hrel32 hrel33 hrel34 hc264 hf264_0 hc267
                exact ih (k + 1) x268 (hv (hv J [42] [(26, 0), (26, 2)] u264.1) [100, 127, 128] [(13, 42)] u267) L (hv I [5] [] u264.2.1) (hv P [5, 36] [] u264.2.2.1) (hv1 E [26] u264.2.2.2.1) u264.2.2.2.2.1 u264.2.2.2.2.2 H locs ls (by omega) (by omega) (by omega) hwf hwm hnow hrl hac hrel0 hrel1 hrel2 hrel3 hrel4 hrel5 hrel6 hrel7 hrel8 hrel9 hnew10 hrel11 hrel12 hrel13 hrel14 hrel15 hnew16 hrel17 hrel18 hrel19 hrel20 hrel21 hrel22 hrel23 hrel24 hrel25 hrel26 hrel27 hrel28 hrel29 hrel30 (tol_s (a := J 13 49) (k := k) hk64 (Or.inl rfl) hrel31) hrel32 hnew33 hrel34 hW (lv_sub hl [0, 1, 2, 3] rfl)
          · refine lv_tableIn (off := 1088) (tgt := 1120) hx hb dL_law_32 (Int.not_lt.mpr c6) (Int.not_lt.mpr c6b) (by rw [c6k]; rfl) (by decide) ?_
            refine lv_aload_n hx hb dL_law_1120 rfl (lv_at hl 2 rfl) ?_
            refine lv_aload_n hx hb dL_law_1121 rfl (lv_at hl 1 rfl) ?_
            refine lv_iload_n hx hb dL_law_1122 rfl (lv_at hl 0 rfl) ?_
            refine lv_iconst (v := 1) hx hb dL_law_1123 (by decide) ?_
            refine lv_iadd hx hb dL_law_1124 ?_
            refine lv_topi (fun x269 (e269 : x269 = i + 1) => ?_)
            try have t269 : x269.toInt = i.toInt + 1 := tadd e269 rfl kp1 (by omega)
            have hin : vp_in x269 Lx := tin rfl (by omega)
            refine va_sld hx hb hX hbl hbA hW.2.2.1 hin dL_law_1125 ?_
            refine lv_topi (fun x270 (e270 : x270 = xs x269.toNatClampNeg) => ?_)
            refine lv_aload_n hx hb dL_law_1126 rfl (lv_at hl 1 rfl) ?_
            refine lv_iload_n hx hb dL_law_1127 rfl (lv_at hl 0 rfl) ?_
            refine lv_iconst (v := 2) hx hb dL_law_1128 (by decide) ?_
            refine lv_iadd hx hb dL_law_1129 ?_
            refine lv_topi (fun x271 (e271 : x271 = i + 2) => ?_)
            try have t271 : x271.toInt = i.toInt + 2 := tadd e271 rfl kp2 (by omega)
            have hin : vp_in x271 Lx := tin rfl (by omega)
            refine va_sld hx hb hX hbl hbA hW.2.2.1 hin dL_law_1130 ?_
            refine lv_topi (fun x272 (e272 : x272 = xs x271.toNatClampNeg) => ?_)
            refine ci2_ C (WB_L hW) (runV (x := g.2.2.1 12) (As := [.int x270, .int x272]) (rest := []) (T := ((J, L, I, P, E, N), sgX g ++ dy)) C (WB_L hW) (c_X11_printed_e l g J L I P E N dy H.size x270 x272 hwf) mi_X11_printed tw_955 (recv_ (T := ((J, L, I, P, E, N), sgX g ++ dy)) C (WB_L hW) (mx_ rfl) rfl rfl) ⟨rfl, rfl, Nat.le_of_ble_eq_true rfl, Nat.le_of_ble_eq_true rfl⟩ rfl hl.1 rfl (Nat.le_of_ble_eq_true rfl) dL_law_1131 ⟨by show 1000 + 10 * k + 0 ≤ 600000; omega, by show 200000 + 20100 * k + 0 ≤ 7302250; omega⟩) (fun r273 u273 H locs hp273 hB hk hS => ?_)
            have hW : WB g A s.heap H locs ((hv J [42] [] u273.1), L, (hv I [] [(5, 1)] u273.2), P, E, N) ((sgX g ++ dy) ++ sgM g) := joinL hW hB hk hS (frsub C (WB_L hW)) (okM hW (fun r h => hv_m (J := J) (R := [42]) (F := []) rfl rfl h) (fun r h => rfl))
            have hc273 : ((r273.toInt = (-1) ∧ (¬ (0 ≤ x270.toInt ∧ x270.toInt < (J 26 2).toInt)) ∧ u273.2 5 1 = I 5 1) ∨ (r273.toInt = (-3) ∧ (0 ≤ x270.toInt ∧ x270.toInt < (J 26 2).toInt ∧ ¬ (I 5 1 (elt E P 26 x270.toNatClampNeg)).toInt = -1) ∧ u273.2 5 1 = I 5 1) ∨ (r273.toInt = (-4) ∧ (0 ≤ x270.toInt ∧ x270.toInt < (J 26 2).toInt ∧ (I 5 1 (elt E P 26 x270.toNatClampNeg)).toInt = -1 ∧ x272.toInt < (J 3 1).toInt) ∧ u273.2 5 1 = I 5 1) ∨ (r273.toInt = (-6) ∧ (0 ≤ x270.toInt ∧ x270.toInt < (J 26 2).toInt ∧ (I 5 1 (elt E P 26 x270.toNatClampNeg)).toInt = -1 ∧ (J 3 1).toInt ≤ x272.toInt ∧ 9999 < x272.toInt) ∧ u273.2 5 1 = I 5 1) ∨ (r273.toInt = 1 ∧ (0 ≤ x270.toInt ∧ x270.toInt < (J 26 2).toInt ∧ (I 5 1 (elt E P 26 x270.toNatClampNeg)).toInt = -1 ∧ (J 3 1).toInt ≤ x272.toInt ∧ x272.toInt ≤ 9999) ∧ (∀ b : Nat, b ≠ elt E P 26 x270.toNatClampNeg → u273.2 5 1 b = I 5 1 b) ∧ u273.2 5 1 (elt E P 26 x270.toNatClampNeg) = x272)) := hp273
            refine lv_pop hx hb dL_law_1134 rfl ?_
            refine lv_aload_n hx hb dL_law_1135 rfl (lv_at hl 3 rfl) ?_
            refine lv_aload_n hx hb dL_law_1136 rfl (lv_at hl 1 rfl) ?_
            refine lv_iload_n hx hb dL_law_1137 rfl (lv_at hl 0 rfl) ?_
            refine lv_iconst (v := 1) hx hb dL_law_1138 (by decide) ?_
            refine lv_iadd hx hb dL_law_1139 ?_
            refine lv_topi (fun x274 (e274 : x274 = i + 1) => ?_)
            try have t274 : x274.toInt = i.toInt + 1 := tadd e274 rfl kp1 (by omega)
            have hin : vp_in x274 Lx := tin rfl (by omega)
            refine va_sld hx hb hX hbl hbA hW.2.2.1 hin dL_law_1140 ?_
            refine lv_as x270 (by rw [e270, e269, e274]) ?_
            refine lv_aload_n hx hb dL_law_1141 rfl (lv_at hl 1 rfl) ?_
            refine lv_iload_n hx hb dL_law_1142 rfl (lv_at hl 0 rfl) ?_
            refine lv_iconst (v := 2) hx hb dL_law_1143 (by decide) ?_
            refine lv_iadd hx hb dL_law_1144 ?_
            refine lv_topi (fun x275 (e275 : x275 = i + 2) => ?_)
            try have t275 : x275.toInt = i.toInt + 2 := tadd e275 rfl kp2 (by omega)
            have hin : vp_in x275 Lx := tin rfl (by omega)
            refine va_sld hx hb hX hbl hbA hW.2.2.1 hin dL_law_1145 ?_
            refine lv_as x272 (by rw [e272, e271, e275]) ?_
            refine ci2_ C (WB_R hW) (runV (x := g.2.2.1 13) (As := [.int x270, .int x272]) (rest := []) (T := (((hv J [42] [] u273.1), L, (hv I [] [(5, 1)] u273.2), P, E, N), sgM g)) C (WB_R hW) (c_X12_printed_e l g (hv J [42] [] u273.1) L (hv I [] [(5, 1)] u273.2) P E N H.size x270 x272 hwm) mi_X12_printed tw_1507 (recv_ (T := (((hv J [42] [] u273.1), L, (hv I [] [(5, 1)] u273.2), P, E, N), sgM g)) C (WB_R hW) (mm_ rfl) rfl rfl) ⟨rfl, rfl, Nat.le_of_ble_eq_true rfl, Nat.le_of_ble_eq_true rfl⟩ rfl hl.1 rfl (Nat.le_of_ble_eq_true rfl) dL_law_1146 ⟨by show 1000 + 10 * k + 0 + 0 ≤ 600000; omega, by show 200000 + 20100 * k + 0 + 0 ≤ 7302250; omega⟩) (fun r276 u276 H locs hp276 hB hk hS => ?_)
            have hW : WB g A s.heap H locs ((hv (hv J [42] [] u273.1) [100, 128] [] u276), L, (hv I [] [(5, 1)] u273.2), P, E, N) ((sgX g ++ dy) ++ sgM g) := joinR hW hB hk hS (frsub C (WB_R hW)) (fun x hx => cel_x (hv_x rfl rfl (notm hW x hx)))
            refine lv_pop hx hb dL_law_1149 rfl ?_
            refine lv_goto (tgt := 1390) hx hb dL_law_1150 (by decide) ?_
            obtain ⟨x277, e277⟩ : ∃ y : Int32, y = i + 5 := ⟨_, rfl⟩
            refine lv_iinc (v := x277) (lv' := [(3, .int x277), (0, .ref b), (1, .ref (g.2.2.1 12)), (2, .ref (g.2.2.1 13))]) hx hb dL_law_1390 hl (k := 0) rfl (by rw [e277]; rfl) (by decide) rfl (fun ls hl => ?_)
            try have t277 : x277.toInt = i.toInt + 5 := tadd e277 rfl kp5 (by omega)
            refine lv_goto (tgt := 18) hx hb dL_law_1393 (by decide) ?_
            refine W.widen (k := 1000 + 10 * (k + 1)) (n := 200000 + 20100 * (k + 1)) (by omega) (by omega) ?_
            exact ih (k + 1) x277 (hv (hv J [42] [] u273.1) [100, 128] [] u276) L (hv I [] [(5, 1)] u273.2) P E N dy H locs ls (by omega) (by omega) (by omega) hwf hwm hnow hrl hac hrel0 hrel1 hrel2 hrel3 hrel4 hrel5 hrel6 hrel7 hrel8 hrel9 hrel10 hrel11 hrel12 hrel13 hrel14 hrel15 hrel16 hrel17 hrel18 hrel19 hrel20 hrel21 hrel22 hrel23 hrel24 hrel25 hrel26 hrel27 hrel28 hrel29 hrel30 (tol_s (a := J 13 49) (k := k) hk64 (Or.inl rfl) hrel31) hrel32 hrel33 hrel34 hW (lv_sub hl [0, 1, 2, 3] rfl)
          · refine lv_tableIn (off := 1121) (tgt := 1153) hx hb dL_law_32 (Int.not_lt.mpr c6) (Int.not_lt.mpr c6b) (by rw [c6k]; rfl) (by decide) ?_
            refine lv_aload_n hx hb dL_law_1153 rfl (lv_at hl 2 rfl) ?_
            refine lv_aload_n hx hb dL_law_1154 rfl (lv_at hl 1 rfl) ?_
            refine lv_iload_n hx hb dL_law_1155 rfl (lv_at hl 0 rfl) ?_
            refine lv_iconst (v := 1) hx hb dL_law_1156 (by decide) ?_
            refine lv_iadd hx hb dL_law_1157 ?_
            refine lv_topi (fun x278 (e278 : x278 = i + 1) => ?_)
            try have t278 : x278.toInt = i.toInt + 1 := tadd e278 rfl kp1 (by omega)
            have hin : vp_in x278 Lx := tin rfl (by omega)
            refine va_sld hx hb hX hbl hbA hW.2.2.1 hin dL_law_1158 ?_
            refine lv_topi (fun x279 (e279 : x279 = xs x278.toNatClampNeg) => ?_)
            refine ci2_ C (WB_L hW) (runV (x := g.2.2.1 12) (As := [.int x279]) (rest := []) (T := ((J, L, I, P, E, N), sgX g ++ dy)) C (WB_L hW) (c_X11_lag_e l g J L I P E N dy H.size x279 hwf hrel9) mi_X11_lag tw_959 (recv_ (T := ((J, L, I, P, E, N), sgX g ++ dy)) C (WB_L hW) (mx_ rfl) rfl rfl) ⟨rfl, rfl, Nat.le_of_ble_eq_true rfl, Nat.le_of_ble_eq_true rfl⟩ rfl hl.1 rfl (Nat.le_of_ble_eq_true rfl) dL_law_1159 ⟨by show 1000 + 10 * k + 0 ≤ 600000; omega, by show 200000 + 20100 * k + 0 ≤ 7302250; omega⟩) (fun r280 u280 H locs hp280 hB hk hS => ?_)
            have hW : WB g A s.heap H locs ((hv J [42] [] u280), L, I, P, E, N) ((sgX g ++ dy) ++ sgM g) := joinL hW hB hk hS (frsub C (WB_L hW)) (okM hW (fun r h => hv_m (J := J) (R := [42]) (F := []) rfl rfl h) (fun r h => rfl))
            have hc280 : ((r280.toInt = (-1) ∧ (¬ (0 ≤ x279.toInt ∧ x279.toInt < (J 3 1).toInt))) ∨ (r280.toInt = (-3) ∧ (0 ≤ x279.toInt ∧ x279.toInt < (J 3 1).toInt ∧ ¬ (J 116 x279.toNatClampNeg).toInt = 0)) ∨ (r280.toInt = (-9) ∧ (0 ≤ x279.toInt ∧ x279.toInt < (J 3 1).toInt ∧ (J 116 x279.toNatClampNeg).toInt = 0 ∧ ¬ (0 ≤ (J 119 x279.toNatClampNeg).toInt ∧ (J 119 x279.toNatClampNeg).toInt < (J 26 2).toInt))) ∨ (r280 = x279 - I 5 0 (elt E P 26 (J 119 x279.toNatClampNeg).toNatClampNeg) ∧ (0 ≤ x279.toInt ∧ x279.toInt < (J 3 1).toInt ∧ (J 116 x279.toNatClampNeg).toInt = 0 ∧ 0 ≤ (J 119 x279.toNatClampNeg).toInt ∧ (J 119 x279.toNatClampNeg).toInt < (J 26 2).toInt))) := hp280
            refine lv_pop hx hb dL_law_1162 rfl ?_
            refine lv_aload_n hx hb dL_law_1163 rfl (lv_at hl 3 rfl) ?_
            refine lv_aload_n hx hb dL_law_1164 rfl (lv_at hl 1 rfl) ?_
            refine lv_iload_n hx hb dL_law_1165 rfl (lv_at hl 0 rfl) ?_
            refine lv_iconst (v := 1) hx hb dL_law_1166 (by decide) ?_
            refine lv_iadd hx hb dL_law_1167 ?_
            refine lv_topi (fun x281 (e281 : x281 = i + 1) => ?_)
            try have t281 : x281.toInt = i.toInt + 1 := tadd e281 rfl kp1 (by omega)
            have hin : vp_in x281 Lx := tin rfl (by omega)
            refine va_sld hx hb hX hbl hbA hW.2.2.1 hin dL_law_1168 ?_
            refine lv_as x279 (by rw [e279, e278, e281]) ?_
            refine ci2_ C (WB_R hW) (runV (x := g.2.2.1 13) (As := [.int x279]) (rest := []) (T := (((hv J [42] [] u280), L, I, P, E, N), sgM g)) C (WB_R hW) (c_X12_lag_e l g (hv J [42] [] u280) L I P E N H.size x279 hwm) mi_X12_lag tw_1511 (recv_ (T := (((hv J [42] [] u280), L, I, P, E, N), sgM g)) C (WB_R hW) (mm_ rfl) rfl rfl) ⟨rfl, rfl, Nat.le_of_ble_eq_true rfl, Nat.le_of_ble_eq_true rfl⟩ rfl hl.1 rfl (Nat.le_of_ble_eq_true rfl) dL_law_1169 ⟨by show 1000 + 10 * k + 0 + 0 ≤ 600000; omega, by show 200000 + 20100 * k + 0 + 0 ≤ 7302250; omega⟩) (fun r282 u282 H locs hp282 hB hk hS => ?_)
            have hW : WB g A s.heap H locs ((hv (hv J [42] [] u280) [100] [] u282), L, I, P, E, N) ((sgX g ++ dy) ++ sgM g) := joinR hW hB hk hS (frsub C (WB_R hW)) (fun x hx => cel_x (hv_x rfl rfl (notm hW x hx)))
            refine lv_pop hx hb dL_law_1172 rfl ?_
            refine lv_goto (tgt := 1390) hx hb dL_law_1173 (by decide) ?_
            obtain ⟨x283, e283⟩ : ∃ y : Int32, y = i + 5 := ⟨_, rfl⟩
            refine lv_iinc (v := x283) (lv' := [(3, .int x283), (0, .ref b), (1, .ref (g.2.2.1 12)), (2, .ref (g.2.2.1 13))]) hx hb dL_law_1390 hl (k := 0) rfl (by rw [e283]; rfl) (by decide) rfl (fun ls hl => ?_)
            try have t283 : x283.toInt = i.toInt + 5 := tadd e283 rfl kp5 (by omega)
            refine lv_goto (tgt := 18) hx hb dL_law_1393 (by decide) ?_
            refine W.widen (k := 1000 + 10 * (k + 1)) (n := 200000 + 20100 * (k + 1)) (by omega) (by omega) ?_
            exact ih (k + 1) x283 (hv (hv J [42] [] u280) [100] [] u282) L I P E N dy H locs ls (by omega) (by omega) (by omega) hwf hwm hnow hrl hac hrel0 hrel1 hrel2 hrel3 hrel4 hrel5 hrel6 hrel7 hrel8 hrel9 hrel10 hrel11 hrel12 hrel13 hrel14 hrel15 hrel16 hrel17 hrel18 hrel19 hrel20 hrel21 hrel22 hrel23 hrel24 hrel25 hrel26 hrel27 hrel28 hrel29 hrel30 (tol_s (a := J 13 49) (k := k) hk64 (Or.inl rfl) hrel31) hrel32 hrel33 hrel34 hW (lv_sub hl [0, 1, 2, 3] rfl)
          · refine lv_tableIn (off := 1144) (tgt := 1176) hx hb dL_law_32 (Int.not_lt.mpr c6) (Int.not_lt.mpr c6b) (by rw [c6k]; rfl) (by decide) ?_
            refine lv_aload_n hx hb dL_law_1176 rfl (lv_at hl 2 rfl) ?_
            refine lv_aload_n hx hb dL_law_1177 rfl (lv_at hl 1 rfl) ?_
            refine lv_iload_n hx hb dL_law_1178 rfl (lv_at hl 0 rfl) ?_
            refine lv_iconst (v := 1) hx hb dL_law_1179 (by decide) ?_
            refine lv_iadd hx hb dL_law_1180 ?_
            refine lv_topi (fun x284 (e284 : x284 = i + 1) => ?_)
            try have t284 : x284.toInt = i.toInt + 1 := tadd e284 rfl kp1 (by omega)
            have hin : vp_in x284 Lx := tin rfl (by omega)
            refine va_sld hx hb hX hbl hbA hW.2.2.1 hin dL_law_1181 ?_
            refine lv_topi (fun x285 (e285 : x285 = xs x284.toNatClampNeg) => ?_)
            refine ci2_ C (WB_L hW) (runV (x := g.2.2.1 12) (As := [.int x285]) (rest := []) (T := ((J, L, I, P, E, N), sgX g ++ dy)) C (WB_L hW) (c_X11_fresh_e l g J L I P E N dy H.size x285 hwf hrel9) mi_X11_fresh tw_966 (recv_ (T := ((J, L, I, P, E, N), sgX g ++ dy)) C (WB_L hW) (mx_ rfl) rfl rfl) ⟨rfl, rfl, Nat.le_of_ble_eq_true rfl, Nat.le_of_ble_eq_true rfl⟩ rfl hl.1 rfl (Nat.le_of_ble_eq_true rfl) dL_law_1182 ⟨by show 1000 + 10 * k + 0 ≤ 600000; omega, by show 200000 + 20100 * k + 0 ≤ 7302250; omega⟩) (fun r286 u286 H locs hp286 hB hk hS => ?_)
            have hW : WB g A s.heap H locs ((hv J [42] [] u286), L, I, P, E, N) ((sgX g ++ dy) ++ sgM g) := joinL hW hB hk hS (frsub C (WB_L hW)) (okM hW (fun r h => hv_m (J := J) (R := [42]) (F := []) rfl rfl h) (fun r h => rfl))
            have hc286 : ((r286.toInt = (-1) ∧ (¬ (0 ≤ x285.toInt ∧ x285.toInt < (J 3 1).toInt))) ∨ (r286.toInt = (-3) ∧ (0 ≤ x285.toInt ∧ x285.toInt < (J 3 1).toInt ∧ ¬ (J 116 x285.toNatClampNeg).toInt = 0)) ∨ (r286.toInt = (-9) ∧ (0 ≤ x285.toInt ∧ x285.toInt < (J 3 1).toInt ∧ (J 116 x285.toNatClampNeg).toInt = 0 ∧ ¬ (0 ≤ (J 119 x285.toNatClampNeg).toInt ∧ (J 119 x285.toNatClampNeg).toInt < (J 26 2).toInt))) ∨ (r286.toInt = 1 ∧ (0 ≤ x285.toInt ∧ x285.toInt < (J 3 1).toInt ∧ (J 116 x285.toNatClampNeg).toInt = 0 ∧ 0 ≤ (J 119 x285.toNatClampNeg).toInt ∧ (J 119 x285.toNatClampNeg).toInt < (J 26 2).toInt ∧ ((I 5 2 (elt E P 26 (J 119 x285.toNatClampNeg).toNatClampNeg)).toInt = x285.toInt ∧ ((I 5 1 (elt E P 26 (J 119 x285.toNatClampNeg).toNatClampNeg)).toInt = -1 ∨ x285.toInt < (I 5 1 (elt E P 26 (J 119 x285.toNatClampNeg).toNatClampNeg)).toInt)))) ∨ (r286.toInt = 0 ∧ (0 ≤ x285.toInt ∧ x285.toInt < (J 3 1).toInt ∧ (J 116 x285.toNatClampNeg).toInt = 0 ∧ 0 ≤ (J 119 x285.toNatClampNeg).toInt ∧ (J 119 x285.toNatClampNeg).toInt < (J 26 2).toInt ∧ ¬ ((I 5 2 (elt E P 26 (J 119 x285.toNatClampNeg).toNatClampNeg)).toInt = x285.toInt ∧ ((I 5 1 (elt E P 26 (J 119 x285.toNatClampNeg).toNatClampNeg)).toInt = -1 ∨ x285.toInt < (I 5 1 (elt E P 26 (J 119 x285.toNatClampNeg).toNatClampNeg)).toInt))))) := hp286
            refine lv_pop hx hb dL_law_1185 rfl ?_
            refine lv_aload_n hx hb dL_law_1186 rfl (lv_at hl 3 rfl) ?_
            refine lv_aload_n hx hb dL_law_1187 rfl (lv_at hl 1 rfl) ?_
            refine lv_iload_n hx hb dL_law_1188 rfl (lv_at hl 0 rfl) ?_
            refine lv_iconst (v := 1) hx hb dL_law_1189 (by decide) ?_
            refine lv_iadd hx hb dL_law_1190 ?_
            refine lv_topi (fun x287 (e287 : x287 = i + 1) => ?_)
            try have t287 : x287.toInt = i.toInt + 1 := tadd e287 rfl kp1 (by omega)
            have hin : vp_in x287 Lx := tin rfl (by omega)
            refine va_sld hx hb hX hbl hbA hW.2.2.1 hin dL_law_1191 ?_
            refine lv_as x285 (by rw [e285, e284, e287]) ?_
            refine ci2_ C (WB_R hW) (runV (x := g.2.2.1 13) (As := [.int x285]) (rest := []) (T := (((hv J [42] [] u286), L, I, P, E, N), sgM g)) C (WB_R hW) (c_X12_fresh_e l g (hv J [42] [] u286) L I P E N H.size x285 hwm) mi_X12_fresh tw_1515 (recv_ (T := (((hv J [42] [] u286), L, I, P, E, N), sgM g)) C (WB_R hW) (mm_ rfl) rfl rfl) ⟨rfl, rfl, Nat.le_of_ble_eq_true rfl, Nat.le_of_ble_eq_true rfl⟩ rfl hl.1 rfl (Nat.le_of_ble_eq_true rfl) dL_law_1192 ⟨by show 1000 + 10 * k + 0 + 0 ≤ 600000; omega, by show 200000 + 20100 * k + 0 + 0 ≤ 7302250; omega⟩) (fun r288 u288 H locs hp288 hB hk hS => ?_)
            have hW : WB g A s.heap H locs ((hv (hv J [42] [] u286) [100] [] u288), L, I, P, E, N) ((sgX g ++ dy) ++ sgM g) := joinR hW hB hk hS (frsub C (WB_R hW)) (fun x hx => cel_x (hv_x rfl rfl (notm hW x hx)))
            refine lv_pop hx hb dL_law_1195 rfl ?_
            refine lv_goto (tgt := 1390) hx hb dL_law_1196 (by decide) ?_
            obtain ⟨x289, e289⟩ : ∃ y : Int32, y = i + 5 := ⟨_, rfl⟩
            refine lv_iinc (v := x289) (lv' := [(3, .int x289), (0, .ref b), (1, .ref (g.2.2.1 12)), (2, .ref (g.2.2.1 13))]) hx hb dL_law_1390 hl (k := 0) rfl (by rw [e289]; rfl) (by decide) rfl (fun ls hl => ?_)
            try have t289 : x289.toInt = i.toInt + 5 := tadd e289 rfl kp5 (by omega)
            refine lv_goto (tgt := 18) hx hb dL_law_1393 (by decide) ?_
            refine W.widen (k := 1000 + 10 * (k + 1)) (n := 200000 + 20100 * (k + 1)) (by omega) (by omega) ?_
            exact ih (k + 1) x289 (hv (hv J [42] [] u286) [100] [] u288) L I P E N dy H locs ls (by omega) (by omega) (by omega) hwf hwm hnow hrl hac hrel0 hrel1 hrel2 hrel3 hrel4 hrel5 hrel6 hrel7 hrel8 hrel9 hrel10 hrel11 hrel12 hrel13 hrel14 hrel15 hrel16 hrel17 hrel18 hrel19 hrel20 hrel21 hrel22 hrel23 hrel24 hrel25 hrel26 hrel27 hrel28 hrel29 hrel30 (tol_s (a := J 13 49) (k := k) hk64 (Or.inl rfl) hrel31) hrel32 hrel33 hrel34 hW (lv_sub hl [0, 1, 2, 3] rfl)
          · refine lv_tableIn (off := 1167) (tgt := 1199) hx hb dL_law_32 (Int.not_lt.mpr c6) (Int.not_lt.mpr c6b) (by rw [c6k]; rfl) (by decide) ?_
            refine lv_aload_n hx hb dL_law_1199 rfl (lv_at hl 2 rfl) ?_
            refine lv_aload_n hx hb dL_law_1200 rfl (lv_at hl 1 rfl) ?_
            refine lv_iload_n hx hb dL_law_1201 rfl (lv_at hl 0 rfl) ?_
            refine lv_iconst (v := 1) hx hb dL_law_1202 (by decide) ?_
            refine lv_iadd hx hb dL_law_1203 ?_
            refine lv_topi (fun x290 (e290 : x290 = i + 1) => ?_)
            try have t290 : x290.toInt = i.toInt + 1 := tadd e290 rfl kp1 (by omega)
            have hin : vp_in x290 Lx := tin rfl (by omega)
            refine va_sld hx hb hX hbl hbA hW.2.2.1 hin dL_law_1204 ?_
            refine lv_topi (fun x291 (e291 : x291 = xs x290.toNatClampNeg) => ?_)
            refine ci2_ C (WB_L hW) (runV (x := g.2.2.1 12) (As := [.int x291]) (rest := []) (T := ((J, L, I, P, E, N), sgX g ++ dy)) C (WB_L hW) (c_X11_advert_e l g J L I P E N dy H.size x291 hwf hac) mi_X11_advert tw_974 (recv_ (T := ((J, L, I, P, E, N), sgX g ++ dy)) C (WB_L hW) (mx_ rfl) rfl rfl) ⟨rfl, rfl, Nat.le_of_ble_eq_true rfl, Nat.le_of_ble_eq_true rfl⟩ rfl hl.1 rfl (Nat.le_of_ble_eq_true rfl) dL_law_1205 ⟨by show 1000 + 10 * k + 0 ≤ 600000; omega, by show 200000 + 20100 * k + 0 ≤ 7302250; omega⟩) (fun r292 u292 H locs hp292 hB hk hS => ?_)
            have hW : WB g A s.heap H locs ((hv J [40, 42] [(12, 10)] u292), L, I, P, E, N) ((sgX g ++ dy) ++ sgM g) := joinL hW hB hk hS (frsub C (WB_L hW)) (okM hW (fun r h => hv_m (J := J) (R := [40, 42]) (F := [(12, 10)]) rfl rfl h) (fun r h => rfl))
            obtain ⟨hc292, hf292_0⟩ : ((r292.toInt = (-4) ∧ (x291.toInt < 0) ∧ u292 12 10 = J 12 10 ∧ u292 40 = J 40) ∨ (r292.toInt = (-6) ∧ (0 ≤ x291.toInt ∧ (9 < x291.toInt ∨ 200 ≤ (J 12 10).toInt)) ∧ u292 12 10 = J 12 10 ∧ u292 40 = J 40) ∨ (r292.toInt = (J 12 10).toInt / 5 ∧ (0 ≤ x291.toInt ∧ x291.toInt ≤ 9 ∧ (J 12 10).toInt ≤ 199) ∧ (u292 12 10).toInt = (J 12 10).toInt + 1 ∧ u292 40 = up2 J 40 (J 12 10).toNatClampNeg x291 40)) ∧ (0 ≤ (u292 12 10).toInt) := hp292
            have hac := hf292_0
            refine lv_pop hx hb dL_law_1208 rfl ?_
            refine lv_aload_n hx hb dL_law_1209 rfl (lv_at hl 3 rfl) ?_
            refine lv_aload_n hx hb dL_law_1210 rfl (lv_at hl 1 rfl) ?_
            refine lv_iload_n hx hb dL_law_1211 rfl (lv_at hl 0 rfl) ?_
            refine lv_iconst (v := 1) hx hb dL_law_1212 (by decide) ?_
            refine lv_iadd hx hb dL_law_1213 ?_
            refine lv_topi (fun x293 (e293 : x293 = i + 1) => ?_)
            try have t293 : x293.toInt = i.toInt + 1 := tadd e293 rfl kp1 (by omega)
            have hin : vp_in x293 Lx := tin rfl (by omega)
            refine va_sld hx hb hX hbl hbA hW.2.2.1 hin dL_law_1214 ?_
            refine lv_as x291 (by rw [e291, e290, e293]) ?_
            refine ci2_ C (WB_R hW) (runV (x := g.2.2.1 13) (As := [.int x291]) (rest := []) (T := (((hv J [40, 42] [(12, 10)] u292), L, I, P, E, N), sgM g)) C (WB_R hW) (c_X12_advert l g (hv J [40, 42] [(12, 10)] u292) L I P E N H.size x291 hwm) mi_X12_advert tw_1519 (recv_ (T := (((hv J [40, 42] [(12, 10)] u292), L, I, P, E, N), sgM g)) C (WB_R hW) (mm_ rfl) rfl rfl) ⟨rfl, rfl, Nat.le_of_ble_eq_true rfl, Nat.le_of_ble_eq_true rfl⟩ rfl hl.1 rfl (Nat.le_of_ble_eq_true rfl) dL_law_1215 ⟨by show 1000 + 10 * k + 0 + 0 ≤ 600000; omega, by show 200000 + 20100 * k + 0 + 0 ≤ 7302250; omega⟩) (fun r294 u294 H locs hp294 hB hk hS => ?_)
            have hW : WB g A s.heap H locs ((hv (hv J [40, 42] [(12, 10)] u292) [100, 129] [(13, 43)] u294), L, I, P, E, N) ((sgX g ++ dy) ++ sgM g) := joinR hW hB hk hS (frsub C (WB_R hW)) (fun x hx => cel_x (hv_x rfl rfl (notm hW x hx)))
            obtain ⟨hwm, hc294⟩ : WM (hv (hv J [40, 42] [(12, 10)] u292) [100, 129] [(13, 43)] u294) ∧ ((r294.toInt = (-4) ∧ (x291.toInt < 0) ∧ u294 13 43 = J 13 43) ∨ (r294.toInt = (-6) ∧ (0 ≤ x291.toInt ∧ (9 < x291.toInt ∨ (J 13 43).toInt = 200)) ∧ u294 13 43 = J 13 43) ∨ (r294.toInt = (J 13 43).toInt / 5 ∧ (0 ≤ x291.toInt ∧ x291.toInt ≤ 9 ∧ (J 13 43).toInt ≤ 199) ∧ (u294 13 43).toInt = (J 13 43).toInt + 1)) := hp294
            refine lv_pop hx hb dL_law_1218 rfl ?_
            refine lv_goto (tgt := 1390) hx hb dL_law_1219 (by decide) ?_
            obtain ⟨x295, e295⟩ : ∃ y : Int32, y = i + 5 := ⟨_, rfl⟩
            refine lv_iinc (v := x295) (lv' := [(3, .int x295), (0, .ref b), (1, .ref (g.2.2.1 12)), (2, .ref (g.2.2.1 13))]) hx hb dL_law_1390 hl (k := 0) rfl (by rw [e295]; rfl) (by decide) rfl (fun ls hl => ?_)
            try have t295 : x295.toInt = i.toInt + 5 := tadd e295 rfl kp5 (by omega)
            refine lv_goto (tgt := 18) hx hb dL_law_1393 (by decide) ?_
            refine W.widen (k := 1000 + 10 * (k + 1)) (n := 200000 + 20100 * (k + 1)) (by omega) (by omega) ?_
            exact ih (k + 1) x295 (hv (hv J [40, 42] [(12, 10)] u292) [100, 129] [(13, 43)] u294) L I P E N dy H locs ls (by omega) (by omega) (by omega) hwf hwm hnow hrl hac hrel0 hrel1 hrel2 hrel3 hrel4 hrel5 hrel6 hrel7 hrel8 hrel9 hrel10 hrel11 hrel12 hrel13 hrel14 hrel15 hrel16 hrel17 hrel18 hrel19 hrel20 hrel21 hrel22 hrel23 hrel24 hrel25 hrel26 hrel27 hrel28 hrel29 hrel30 (tol_s (a := J 13 49) (k := k) hk64 (Or.inl rfl) hrel31) hrel32 hrel33 hrel34 hW (lv_sub hl [0, 1, 2, 3] rfl)
          · refine lv_tableIn (off := 1190) (tgt := 1222) hx hb dL_law_32 (Int.not_lt.mpr c6) (Int.not_lt.mpr c6b) (by rw [c6k]; rfl) (by decide) ?_
            refine lv_aload_n hx hb dL_law_1222 rfl (lv_at hl 2 rfl) ?_
            refine lv_aload_n hx hb dL_law_1223 rfl (lv_at hl 1 rfl) ?_
            refine lv_iload_n hx hb dL_law_1224 rfl (lv_at hl 0 rfl) ?_
            refine lv_iconst (v := 1) hx hb dL_law_1225 (by decide) ?_
            refine lv_iadd hx hb dL_law_1226 ?_
            refine lv_topi (fun x296 (e296 : x296 = i + 1) => ?_)
            try have t296 : x296.toInt = i.toInt + 1 := tadd e296 rfl kp1 (by omega)
            have hin : vp_in x296 Lx := tin rfl (by omega)
            refine va_sld hx hb hX hbl hbA hW.2.2.1 hin dL_law_1227 ?_
            refine lv_topi (fun x297 (e297 : x297 = xs x296.toNatClampNeg) => ?_)
            refine lv_aload_n hx hb dL_law_1228 rfl (lv_at hl 1 rfl) ?_
            refine lv_iload_n hx hb dL_law_1229 rfl (lv_at hl 0 rfl) ?_
            refine lv_iconst (v := 2) hx hb dL_law_1230 (by decide) ?_
            refine lv_iadd hx hb dL_law_1231 ?_
            refine lv_topi (fun x298 (e298 : x298 = i + 2) => ?_)
            try have t298 : x298.toInt = i.toInt + 2 := tadd e298 rfl kp2 (by omega)
            have hin : vp_in x298 Lx := tin rfl (by omega)
            refine va_sld hx hb hX hbl hbA hW.2.2.1 hin dL_law_1232 ?_
            refine lv_topi (fun x299 (e299 : x299 = xs x298.toNatClampNeg) => ?_)
            refine ci2_ C (WB_L hW) (runV (x := g.2.2.1 12) (As := [.int x297, .int x299]) (rest := []) (T := ((J, L, I, P, E, N), sgX g ++ dy)) C (WB_L hW) (c_X11_sold_e l g J L I P E N dy H.size x297 x299 hwf hac) mi_X11_sold tw_978 (recv_ (T := ((J, L, I, P, E, N), sgX g ++ dy)) C (WB_L hW) (mx_ rfl) rfl rfl) ⟨rfl, rfl, Nat.le_of_ble_eq_true rfl, Nat.le_of_ble_eq_true rfl⟩ rfl hl.1 rfl (Nat.le_of_ble_eq_true rfl) dL_law_1233 ⟨by show 1000 + 10 * k + 0 ≤ 600000; omega, by show 200000 + 20100 * k + 0 ≤ 7302250; omega⟩) (fun r300 u300 H locs hp300 hB hk hS => ?_)
            have hW : WB g A s.heap H locs ((hv J [42] [] u300), L, I, P, E, N) ((sgX g ++ dy) ++ sgM g) := joinL hW hB hk hS (frsub C (WB_L hW)) (okM hW (fun r h => hv_m (J := J) (R := [42]) (F := []) rfl rfl h) (fun r h => rfl))
            obtain ⟨hc300, hf300_0⟩ : ((r300.toInt = (-4) ∧ (x299.toInt < 0)) ∨ (r300.toInt = (-6) ∧ (5 ≤ x299.toInt)) ∨ (r300.toInt = (-9) ∧ (0 ≤ x299.toInt ∧ x299.toInt ≤ 4 ∧ (x297.toInt < 0 ∨ 40 ≤ x297.toInt ∨ (J 12 10).toInt ≤ 5 * x297.toInt + x299.toInt ∨ 200 ≤ 5 * x297.toInt + x299.toInt))) ∨ (r300 = r300 ∧ (0 ≤ x299.toInt ∧ x299.toInt ≤ 4 ∧ 0 ≤ x297.toInt ∧ x297.toInt ≤ 39 ∧ 5 * x297.toInt + x299.toInt < (J 12 10).toInt ∧ 5 * x297.toInt + x299.toInt < 200))) ∧ (0 ≤ x299.toInt ∧ x299.toInt ≤ 4 ∧ 0 ≤ x297.toInt ∧ x297.toInt ≤ 39 ∧ 5 * x297.toInt + x299.toInt < (J 12 10).toInt ∧ 5 * x297.toInt + x299.toInt < 200 → r300 = J 40 (5 * x297.toInt + x299.toInt).toNat) := hp300
            refine lv_pop hx hb dL_law_1236 rfl ?_
            refine lv_aload_n hx hb dL_law_1237 rfl (lv_at hl 3 rfl) ?_
            refine lv_aload_n hx hb dL_law_1238 rfl (lv_at hl 1 rfl) ?_
            refine lv_iload_n hx hb dL_law_1239 rfl (lv_at hl 0 rfl) ?_
            refine lv_iconst (v := 1) hx hb dL_law_1240 (by decide) ?_
            refine lv_iadd hx hb dL_law_1241 ?_
            refine lv_topi (fun x301 (e301 : x301 = i + 1) => ?_)
            try have t301 : x301.toInt = i.toInt + 1 := tadd e301 rfl kp1 (by omega)
            have hin : vp_in x301 Lx := tin rfl (by omega)
            refine va_sld hx hb hX hbl hbA hW.2.2.1 hin dL_law_1242 ?_
            refine lv_as x297 (by rw [e297, e296, e301]) ?_
            refine lv_aload_n hx hb dL_law_1243 rfl (lv_at hl 1 rfl) ?_
            refine lv_iload_n hx hb dL_law_1244 rfl (lv_at hl 0 rfl) ?_
            refine lv_iconst (v := 2) hx hb dL_law_1245 (by decide) ?_
            refine lv_iadd hx hb dL_law_1246 ?_
            refine lv_topi (fun x302 (e302 : x302 = i + 2) => ?_)
            try have t302 : x302.toInt = i.toInt + 2 := tadd e302 rfl kp2 (by omega)
            have hin : vp_in x302 Lx := tin rfl (by omega)
            refine va_sld hx hb hX hbl hbA hW.2.2.1 hin dL_law_1247 ?_
            refine lv_as x299 (by rw [e299, e298, e302]) ?_
            refine ci2_ C (WB_R hW) (runV (x := g.2.2.1 13) (As := [.int x297, .int x299]) (rest := []) (T := (((hv J [42] [] u300), L, I, P, E, N), sgM g)) C (WB_R hW) (c_X12_sold l g (hv J [42] [] u300) L I P E N H.size x297 x299 hwm) mi_X12_sold tw_1523 (recv_ (T := (((hv J [42] [] u300), L, I, P, E, N), sgM g)) C (WB_R hW) (mm_ rfl) rfl rfl) ⟨rfl, rfl, Nat.le_of_ble_eq_true rfl, Nat.le_of_ble_eq_true rfl⟩ rfl hl.1 rfl (Nat.le_of_ble_eq_true rfl) dL_law_1248 ⟨by show 1000 + 10 * k + 0 + 0 ≤ 600000; omega, by show 200000 + 20100 * k + 0 + 0 ≤ 7302250; omega⟩) (fun r303 u303 H locs hp303 hB hk hS => ?_)
            have hW : WB g A s.heap H locs ((hv (hv J [42] [] u300) [100] [] u303), L, I, P, E, N) ((sgX g ++ dy) ++ sgM g) := joinR hW hB hk hS (frsub C (WB_R hW)) (fun x hx => cel_x (hv_x rfl rfl (notm hW x hx)))
            refine lv_pop hx hb dL_law_1251 rfl ?_
            refine lv_goto (tgt := 1390) hx hb dL_law_1252 (by decide) ?_
            obtain ⟨x304, e304⟩ : ∃ y : Int32, y = i + 5 := ⟨_, rfl⟩
            refine lv_iinc (v := x304) (lv' := [(3, .int x304), (0, .ref b), (1, .ref (g.2.2.1 12)), (2, .ref (g.2.2.1 13))]) hx hb dL_law_1390 hl (k := 0) rfl (by rw [e304]; rfl) (by decide) rfl (fun ls hl => ?_)
            try have t304 : x304.toInt = i.toInt + 5 := tadd e304 rfl kp5 (by omega)
            refine lv_goto (tgt := 18) hx hb dL_law_1393 (by decide) ?_
            refine W.widen (k := 1000 + 10 * (k + 1)) (n := 200000 + 20100 * (k + 1)) (by omega) (by omega) ?_
            exact ih (k + 1) x304 (hv (hv J [42] [] u300) [100] [] u303) L I P E N dy H locs ls (by omega) (by omega) (by omega) hwf hwm hnow hrl hac hrel0 hrel1 hrel2 hrel3 hrel4 hrel5 hrel6 hrel7 hrel8 hrel9 hrel10 hrel11 hrel12 hrel13 hrel14 hrel15 hrel16 hrel17 hrel18 hrel19 hrel20 hrel21 hrel22 hrel23 hrel24 hrel25 hrel26 hrel27 hrel28 hrel29 hrel30 (tol_s (a := J 13 49) (k := k) hk64 (Or.inl rfl) hrel31) hrel32 hrel33 hrel34 hW (lv_sub hl [0, 1, 2, 3] rfl)
          · refine lv_tableIn (off := 1223) (tgt := 1255) hx hb dL_law_32 (Int.not_lt.mpr c6) (Int.not_lt.mpr c6b) (by rw [c6k]; rfl) (by decide) ?_
            refine lv_aload_n hx hb dL_law_1255 rfl (lv_at hl 2 rfl) ?_
            refine lv_aload_n hx hb dL_law_1256 rfl (lv_at hl 1 rfl) ?_
            refine lv_iload_n hx hb dL_law_1257 rfl (lv_at hl 0 rfl) ?_
            refine lv_iconst (v := 1) hx hb dL_law_1258 (by decide) ?_
            refine lv_iadd hx hb dL_law_1259 ?_
            refine lv_topi (fun x305 (e305 : x305 = i + 1) => ?_)
            try have t305 : x305.toInt = i.toInt + 1 := tadd e305 rfl kp1 (by omega)
            have hin : vp_in x305 Lx := tin rfl (by omega)
            refine va_sld hx hb hX hbl hbA hW.2.2.1 hin dL_law_1260 ?_
            refine lv_topi (fun x306 (e306 : x306 = xs x305.toNatClampNeg) => ?_)
            refine ci2_ C (WB_L hW) (runV (x := g.2.2.1 12) (As := [.int x306]) (rest := []) (T := ((J, L, I, P, E, N), sgX g ++ dy)) C (WB_L hW) (c_X11_put_e l g J L I P E N dy H.size x306 hwf hrl) mi_X11_put tw_982 (recv_ (T := ((J, L, I, P, E, N), sgX g ++ dy)) C (WB_L hW) (mx_ rfl) rfl rfl) ⟨rfl, rfl, Nat.le_of_ble_eq_true rfl, Nat.le_of_ble_eq_true rfl⟩ rfl hl.1 rfl (Nat.le_of_ble_eq_true rfl) dL_law_1261 ⟨by show 1000 + 10 * k + 0 ≤ 600000; omega, by show 200000 + 20100 * k + 0 ≤ 7302250; omega⟩) (fun r307 u307 H locs hp307 hB hk hS => ?_)
            have hW : WB g A s.heap H locs ((hv J [41, 42] [(12, 11)] u307), L, I, P, E, N) ((sgX g ++ dy) ++ sgM g) := joinL hW hB hk hS (frsub C (WB_L hW)) (okM hW (fun r h => hv_m (J := J) (R := [41, 42]) (F := [(12, 11)]) rfl rfl h) (fun r h => rfl))
            obtain ⟨hc307, hf307_0⟩ : ((r307.toInt = (-4) ∧ (x306.toInt < -32768) ∧ u307 12 11 = J 12 11 ∧ u307 41 = J 41) ∨ (r307.toInt = (-6) ∧ (-32768 ≤ x306.toInt ∧ (32767 < x306.toInt ∨ 60 ≤ (J 12 11).toInt)) ∧ u307 12 11 = J 12 11 ∧ u307 41 = J 41) ∨ (r307.toInt = (J 12 11).toInt + 1 ∧ (-32768 ≤ x306.toInt ∧ x306.toInt ≤ 32767 ∧ (J 12 11).toInt ≤ 59) ∧ (u307 12 11).toInt = (J 12 11).toInt + 1 ∧ u307 41 = up2 J 41 (J 12 11).toNatClampNeg x306 41)) ∧ (0 ≤ (u307 12 11).toInt) := hp307
            have hrl := hf307_0
            refine lv_pop hx hb dL_law_1264 rfl ?_
            refine lv_aload_n hx hb dL_law_1265 rfl (lv_at hl 3 rfl) ?_
            refine lv_aload_n hx hb dL_law_1266 rfl (lv_at hl 1 rfl) ?_
            refine lv_iload_n hx hb dL_law_1267 rfl (lv_at hl 0 rfl) ?_
            refine lv_iconst (v := 1) hx hb dL_law_1268 (by decide) ?_
            refine lv_iadd hx hb dL_law_1269 ?_
            refine lv_topi (fun x308 (e308 : x308 = i + 1) => ?_)
            try have t308 : x308.toInt = i.toInt + 1 := tadd e308 rfl kp1 (by omega)
            have hin : vp_in x308 Lx := tin rfl (by omega)
            refine va_sld hx hb hX hbl hbA hW.2.2.1 hin dL_law_1270 ?_
            refine lv_as x306 (by rw [e306, e305, e308]) ?_
            refine ci2_ C (WB_R hW) (runV (x := g.2.2.1 13) (As := [.int x306]) (rest := []) (T := (((hv J [41, 42] [(12, 11)] u307), L, I, P, E, N), sgM g)) C (WB_R hW) (c_X12_put_e l g (hv J [41, 42] [(12, 11)] u307) L I P E N H.size x306 hwm) mi_X12_put tw_1527 (recv_ (T := (((hv J [41, 42] [(12, 11)] u307), L, I, P, E, N), sgM g)) C (WB_R hW) (mm_ rfl) rfl rfl) ⟨rfl, rfl, Nat.le_of_ble_eq_true rfl, Nat.le_of_ble_eq_true rfl⟩ rfl hl.1 rfl (Nat.le_of_ble_eq_true rfl) dL_law_1271 ⟨by show 1000 + 10 * k + 0 + 0 ≤ 600000; omega, by show 200000 + 20100 * k + 0 + 0 ≤ 7302250; omega⟩) (fun r309 u309 H locs hp309 hB hk hS => ?_)
            have hW : WB g A s.heap H locs ((hv (hv J [41, 42] [(12, 11)] u307) [100, 130] [(13, 44)] u309), L, I, P, E, N) ((sgX g ++ dy) ++ sgM g) := joinR hW hB hk hS (frsub C (WB_R hW)) (fun x hx => cel_x (hv_x rfl rfl (notm hW x hx)))
            obtain ⟨hwm, hc309⟩ : WM (hv (hv J [41, 42] [(12, 11)] u307) [100, 130] [(13, 44)] u309) ∧ ((r309.toInt = (-4) ∧ (x306.toInt < -32768) ∧ u309 13 44 = J 13 44 ∧ u309 130 = J 130) ∨ (r309.toInt = (-6) ∧ (-32768 ≤ x306.toInt ∧ (32767 < x306.toInt ∨ (J 13 44).toInt = 60)) ∧ u309 13 44 = J 13 44 ∧ u309 130 = J 130) ∨ (r309.toInt = (J 13 44).toInt + 1 ∧ (-32768 ≤ x306.toInt ∧ x306.toInt ≤ 32767 ∧ (J 13 44).toInt ≤ 59) ∧ (u309 13 44).toInt = (J 13 44).toInt + 1 ∧ u309 130 = up2 J 130 (J 13 44).toNatClampNeg x306 130)) := hp309
            refine lv_pop hx hb dL_law_1274 rfl ?_
            refine lv_goto (tgt := 1390) hx hb dL_law_1275 (by decide) ?_
            obtain ⟨x310, e310⟩ : ∃ y : Int32, y = i + 5 := ⟨_, rfl⟩
            refine lv_iinc (v := x310) (lv' := [(3, .int x310), (0, .ref b), (1, .ref (g.2.2.1 12)), (2, .ref (g.2.2.1 13))]) hx hb dL_law_1390 hl (k := 0) rfl (by rw [e310]; rfl) (by decide) rfl (fun ls hl => ?_)
            try have t310 : x310.toInt = i.toInt + 5 := tadd e310 rfl kp5 (by omega)
            refine lv_goto (tgt := 18) hx hb dL_law_1393 (by decide) ?_
            refine W.widen (k := 1000 + 10 * (k + 1)) (n := 200000 + 20100 * (k + 1)) (by omega) (by omega) ?_
            obtain ⟨hnew17, hnew18⟩ := rel_put k g J I P E N dy r307 x306 u307 r309 u309 hk64 hwf0 hwm0 hnow0 hrl0 hac0 hrel0 hrel1 hrel2 hrel3 hrel4 hrel5 hrel6 hrel7 hrel8 hrel9 hrel10 hrel11 hrel12 hrel13 hrel14 hrel15 hrel16 hrel17 hrel18 hrel19 hrel20 hrel21 hrel22 hrel23 hrel24 hrel25 hrel26 hrel27 hrel28 hrel29 hrel30 hrel31 hrel32 hrel33 hrel34 hc307 hf307_0 hc309
            exact ih (k + 1) x310 (hv (hv J [41, 42] [(12, 11)] u307) [100, 130] [(13, 44)] u309) L I P E N dy H locs ls (by omega) (by omega) (by omega) hwf hwm hnow hrl hac hrel0 hrel1 hrel2 hrel3 hrel4 hrel5 hrel6 hrel7 hrel8 hrel9 hrel10 hrel11 hrel12 hrel13 hrel14 hrel15 hrel16 hnew17 hnew18 hrel19 hrel20 hrel21 hrel22 hrel23 hrel24 hrel25 hrel26 hrel27 hrel28 hrel29 hrel30 (tol_s (a := J 13 49) (k := k) hk64 (Or.inl rfl) hrel31) hrel32 hrel33 hrel34 hW (lv_sub hl [0, 1, 2, 3] rfl)
          · refine lv_tableIn (off := 1246) (tgt := 1278) hx hb dL_law_32 (Int.not_lt.mpr c6) (Int.not_lt.mpr c6b) (by rw [c6k]; rfl) (by decide) ?_
            refine lv_aload_n hx hb dL_law_1278 rfl (lv_at hl 2 rfl) ?_
            refine ci2_ C (WB_L hW) (runV (x := g.2.2.1 12) (As := []) (rest := []) (T := ((J, L, I, P, E, N), sgX g ++ dy)) C (WB_L hW) (c_X11_judge_e l g J L I P E N dy H.size  hwf hrl) mi_X11_judge tw_986 (recv_ (T := ((J, L, I, P, E, N), sgX g ++ dy)) C (WB_L hW) (mx_ rfl) rfl rfl) ⟨rfl, rfl, Nat.le_of_ble_eq_true rfl, Nat.le_of_ble_eq_true rfl⟩ rfl hl.1 rfl (Nat.le_of_ble_eq_true rfl) dL_law_1279 ⟨by show 1000 + 10 * k + 0 ≤ 600000; omega, by show 200000 + 20100 * k + 0 ≤ 7302250; omega⟩) (fun r311 u311 H locs hp311 hB hk hS => ?_)
            have hW : WB g A s.heap H locs ((hv J [] [(12, 11)] u311), L, I, P, E, N) ((sgX g ++ dy) ++ sgM g) := joinL hW hB hk hS (frsub C (WB_L hW)) (okM hW (fun r h => hv_m (J := J) (R := []) (F := [(12, 11)]) rfl rfl h) (fun r h => rfl))
            obtain ⟨hf311_0, hf311_1, hf311_2⟩ : (0 ≤ (u311 12 11).toInt) ∧ ((u311 12 11).toInt = 0) ∧ (JDG (J 41) (J 12 11).toInt r311.toInt) := hp311
            have hrl := hf311_0
            refine lv_pop hx hb dL_law_1282 rfl ?_
            refine lv_aload_n hx hb dL_law_1283 rfl (lv_at hl 3 rfl) ?_
            refine ci2_ C (WB_R hW) (runV (x := g.2.2.1 13) (As := []) (rest := []) (T := (((hv J [] [(12, 11)] u311), L, I, P, E, N), sgM g)) C (WB_R hW) (c_X12_judge_e l g (hv J [] [(12, 11)] u311) L I P E N H.size  hwm) mi_X12_judge tw_1531 (recv_ (T := (((hv J [] [(12, 11)] u311), L, I, P, E, N), sgM g)) C (WB_R hW) (mm_ rfl) rfl rfl) ⟨rfl, rfl, Nat.le_of_ble_eq_true rfl, Nat.le_of_ble_eq_true rfl⟩ rfl hl.1 rfl (Nat.le_of_ble_eq_true rfl) dL_law_1284 ⟨by show 1000 + 10 * k + 0 + 0 ≤ 600000; omega, by show 200000 + 20100 * k + 0 + 0 ≤ 7302250; omega⟩) (fun r312 u312 H locs hp312 hB hk hS => ?_)
            have hW : WB g A s.heap H locs ((hv (hv J [] [(12, 11)] u311) [] [(13, 44)] u312), L, I, P, E, N) ((sgX g ++ dy) ++ sgM g) := joinR hW hB hk hS (frsub C (WB_R hW)) (fun x hx => cel_x (hv_x rfl rfl (notm hW x hx)))
            obtain ⟨hwm, hf312_0, hf312_1⟩ : WM (hv (hv J [] [(12, 11)] u311) [] [(13, 44)] u312) ∧ ((u312 13 44).toInt = 0) ∧ (JDG (J 130) (J 13 44).toInt r312.toInt) := hp312
            refine lv_pop hx hb dL_law_1287 rfl ?_
            refine lv_goto (tgt := 1390) hx hb dL_law_1288 (by decide) ?_
            obtain ⟨x313, e313⟩ : ∃ y : Int32, y = i + 5 := ⟨_, rfl⟩
            refine lv_iinc (v := x313) (lv' := [(3, .int x313), (0, .ref b), (1, .ref (g.2.2.1 12)), (2, .ref (g.2.2.1 13))]) hx hb dL_law_1390 hl (k := 0) rfl (by rw [e313]; rfl) (by decide) rfl (fun ls hl => ?_)
            try have t313 : x313.toInt = i.toInt + 5 := tadd e313 rfl kp5 (by omega)
            refine lv_goto (tgt := 18) hx hb dL_law_1393 (by decide) ?_
            refine W.widen (k := 1000 + 10 * (k + 1)) (n := 200000 + 20100 * (k + 1)) (by omega) (by omega) ?_
            obtain ⟨hnew17, hnew18⟩ := rel_judge k g J I P E N dy u311 r311 u312 r312 hk64 hwf0 hwm0 hnow0 hrl0 hac0 hrel0 hrel1 hrel2 hrel3 hrel4 hrel5 hrel6 hrel7 hrel8 hrel9 hrel10 hrel11 hrel12 hrel13 hrel14 hrel15 hrel16 hrel17 hrel18 hrel19 hrel20 hrel21 hrel22 hrel23 hrel24 hrel25 hrel26 hrel27 hrel28 hrel29 hrel30 hrel31 hrel32 hrel33 hrel34 hf311_0 hf311_1 hf311_2 hf312_0 hf312_1
            exact ih (k + 1) x313 (hv (hv J [] [(12, 11)] u311) [] [(13, 44)] u312) L I P E N dy H locs ls (by omega) (by omega) (by omega) hwf hwm hnow hrl hac hrel0 hrel1 hrel2 hrel3 hrel4 hrel5 hrel6 hrel7 hrel8 hrel9 hrel10 hrel11 hrel12 hrel13 hrel14 hrel15 hrel16 hnew17 hnew18 hrel19 hrel20 hrel21 hrel22 hrel23 hrel24 hrel25 hrel26 hrel27 hrel28 hrel29 hrel30 (tol_s (a := J 13 49) (k := k) hk64 (Or.inl rfl) hrel31) hrel32 hrel33 hrel34 hW (lv_sub hl [0, 1, 2, 3] rfl)
          · refine lv_tableIn (off := 1259) (tgt := 1291) hx hb dL_law_32 (Int.not_lt.mpr c6) (Int.not_lt.mpr c6b) (by rw [c6k]; rfl) (by decide) ?_
            refine lv_aload_n hx hb dL_law_1291 rfl (lv_at hl 2 rfl) ?_
            refine lv_aload_n hx hb dL_law_1292 rfl (lv_at hl 1 rfl) ?_
            refine lv_iload_n hx hb dL_law_1293 rfl (lv_at hl 0 rfl) ?_
            refine lv_iconst (v := 1) hx hb dL_law_1294 (by decide) ?_
            refine lv_iadd hx hb dL_law_1295 ?_
            refine lv_topi (fun x314 (e314 : x314 = i + 1) => ?_)
            try have t314 : x314.toInt = i.toInt + 1 := tadd e314 rfl kp1 (by omega)
            have hin : vp_in x314 Lx := tin rfl (by omega)
            refine va_sld hx hb hX hbl hbA hW.2.2.1 hin dL_law_1296 ?_
            refine lv_topi (fun x315 (e315 : x315 = xs x314.toNatClampNeg) => ?_)
            refine lv_aload_n hx hb dL_law_1297 rfl (lv_at hl 1 rfl) ?_
            refine lv_iload_n hx hb dL_law_1298 rfl (lv_at hl 0 rfl) ?_
            refine lv_iconst (v := 2) hx hb dL_law_1299 (by decide) ?_
            refine lv_iadd hx hb dL_law_1300 ?_
            refine lv_topi (fun x316 (e316 : x316 = i + 2) => ?_)
            try have t316 : x316.toInt = i.toInt + 2 := tadd e316 rfl kp2 (by omega)
            have hin : vp_in x316 Lx := tin rfl (by omega)
            refine va_sld hx hb hX hbl hbA hW.2.2.1 hin dL_law_1301 ?_
            refine lv_topi (fun x317 (e317 : x317 = xs x316.toNatClampNeg) => ?_)
            refine lv_aload_n hx hb dL_law_1302 rfl (lv_at hl 1 rfl) ?_
            refine lv_iload_n hx hb dL_law_1303 rfl (lv_at hl 0 rfl) ?_
            refine lv_iconst (v := 3) hx hb dL_law_1304 (by decide) ?_
            refine lv_iadd hx hb dL_law_1305 ?_
            refine lv_topi (fun x318 (e318 : x318 = i + 3) => ?_)
            try have t318 : x318.toInt = i.toInt + 3 := tadd e318 rfl kp3 (by omega)
            have hin : vp_in x318 Lx := tin rfl (by omega)
            refine va_sld hx hb hX hbl hbA hW.2.2.1 hin dL_law_1306 ?_
            refine lv_topi (fun x319 (e319 : x319 = xs x318.toNatClampNeg) => ?_)
            refine lv_aload_n hx hb dL_law_1307 rfl (lv_at hl 1 rfl) ?_
            refine lv_iload_n hx hb dL_law_1308 rfl (lv_at hl 0 rfl) ?_
            refine lv_iconst (v := 4) hx hb dL_law_1309 (by decide) ?_
            refine lv_iadd hx hb dL_law_1310 ?_
            refine lv_topi (fun x320 (e320 : x320 = i + 4) => ?_)
            try have t320 : x320.toInt = i.toInt + 4 := tadd e320 rfl kp4 (by omega)
            have hin : vp_in x320 Lx := tin rfl (by omega)
            refine va_sld hx hb hX hbl hbA hW.2.2.1 hin dL_law_1311 ?_
            refine lv_topi (fun x321 (e321 : x321 = xs x320.toNatClampNeg) => ?_)
            refine ci2_ C (WB_L hW) (runV (x := g.2.2.1 12) (As := [.int x315, .int x317, .int x319, .int x321]) (rest := []) (T := ((J, L, I, P, E, N), sgX g ++ dy)) C (WB_L hW) (c_X11_order l g J L I P E N dy H.size x315 x317 x319 x321 hwf) mi_X11_order tw_990 (recv_ (T := ((J, L, I, P, E, N), sgX g ++ dy)) C (WB_L hW) (mx_ rfl) rfl rfl) ⟨rfl, rfl, Nat.le_of_ble_eq_true rfl, Nat.le_of_ble_eq_true rfl⟩ rfl hl.1 rfl (Nat.le_of_ble_eq_true rfl) dL_law_1312 ⟨by show 1000 + 10 * k + 0 ≤ 600000; omega, by show 200000 + 20100 * k + 0 ≤ 7302250; omega⟩) (fun r322 u322 H locs hp322 hB hk hS => ?_)
            have hW : WB g A s.heap H locs ((hv J [42] [] u322), L, I, P, E, N) ((sgX g ++ dy) ++ sgM g) := joinL hW hB hk hS (frsub C (WB_L hW)) (okM hW (fun r h => hv_m (J := J) (R := [42]) (F := []) rfl rfl h) (fun r h => rfl))
            refine lv_pop hx hb dL_law_1315 rfl ?_
            refine lv_aload_n hx hb dL_law_1316 rfl (lv_at hl 3 rfl) ?_
            refine lv_aload_n hx hb dL_law_1317 rfl (lv_at hl 1 rfl) ?_
            refine lv_iload_n hx hb dL_law_1318 rfl (lv_at hl 0 rfl) ?_
            refine lv_iconst (v := 1) hx hb dL_law_1319 (by decide) ?_
            refine lv_iadd hx hb dL_law_1320 ?_
            refine lv_topi (fun x323 (e323 : x323 = i + 1) => ?_)
            try have t323 : x323.toInt = i.toInt + 1 := tadd e323 rfl kp1 (by omega)
            have hin : vp_in x323 Lx := tin rfl (by omega)
            refine va_sld hx hb hX hbl hbA hW.2.2.1 hin dL_law_1321 ?_
            refine lv_as x315 (by rw [e315, e314, e323]) ?_
            refine lv_aload_n hx hb dL_law_1322 rfl (lv_at hl 1 rfl) ?_
            refine lv_iload_n hx hb dL_law_1323 rfl (lv_at hl 0 rfl) ?_
            refine lv_iconst (v := 2) hx hb dL_law_1324 (by decide) ?_
            refine lv_iadd hx hb dL_law_1325 ?_
            refine lv_topi (fun x324 (e324 : x324 = i + 2) => ?_)
            try have t324 : x324.toInt = i.toInt + 2 := tadd e324 rfl kp2 (by omega)
            have hin : vp_in x324 Lx := tin rfl (by omega)
            refine va_sld hx hb hX hbl hbA hW.2.2.1 hin dL_law_1326 ?_
            refine lv_as x317 (by rw [e317, e316, e324]) ?_
            refine lv_aload_n hx hb dL_law_1327 rfl (lv_at hl 1 rfl) ?_
            refine lv_iload_n hx hb dL_law_1328 rfl (lv_at hl 0 rfl) ?_
            refine lv_iconst (v := 3) hx hb dL_law_1329 (by decide) ?_
            refine lv_iadd hx hb dL_law_1330 ?_
            refine lv_topi (fun x325 (e325 : x325 = i + 3) => ?_)
            try have t325 : x325.toInt = i.toInt + 3 := tadd e325 rfl kp3 (by omega)
            have hin : vp_in x325 Lx := tin rfl (by omega)
            refine va_sld hx hb hX hbl hbA hW.2.2.1 hin dL_law_1331 ?_
            refine lv_as x319 (by rw [e319, e318, e325]) ?_
            refine lv_aload_n hx hb dL_law_1332 rfl (lv_at hl 1 rfl) ?_
            refine lv_iload_n hx hb dL_law_1333 rfl (lv_at hl 0 rfl) ?_
            refine lv_iconst (v := 4) hx hb dL_law_1334 (by decide) ?_
            refine lv_iadd hx hb dL_law_1335 ?_
            refine lv_topi (fun x326 (e326 : x326 = i + 4) => ?_)
            try have t326 : x326.toInt = i.toInt + 4 := tadd e326 rfl kp4 (by omega)
            have hin : vp_in x326 Lx := tin rfl (by omega)
            refine va_sld hx hb hX hbl hbA hW.2.2.1 hin dL_law_1336 ?_
            refine lv_as x321 (by rw [e321, e320, e326]) ?_
            refine ci2_ C (WB_R hW) (runV (x := g.2.2.1 13) (As := [.int x315, .int x317, .int x319, .int x321]) (rest := []) (T := (((hv J [42] [] u322), L, I, P, E, N), sgM g)) C (WB_R hW) (c_X12_order l g (hv J [42] [] u322) L I P E N H.size x315 x317 x319 x321 hwm) mi_X12_order tw_1535 (recv_ (T := (((hv J [42] [] u322), L, I, P, E, N), sgM g)) C (WB_R hW) (mm_ rfl) rfl rfl) ⟨rfl, rfl, Nat.le_of_ble_eq_true rfl, Nat.le_of_ble_eq_true rfl⟩ rfl hl.1 rfl (Nat.le_of_ble_eq_true rfl) dL_law_1337 ⟨by show 1000 + 10 * k + 0 + 0 ≤ 600000; omega, by show 200000 + 20100 * k + 0 + 0 ≤ 7302250; omega⟩) (fun r327 u327 H locs hp327 hB hk hS => ?_)
            have hW : WB g A s.heap H locs ((hv (hv J [42] [] u322) [100, 169] [] u327), L, I, P, E, N) ((sgX g ++ dy) ++ sgM g) := joinR hW hB hk hS (frsub C (WB_R hW)) (fun x hx => cel_x (hv_x rfl rfl (notm hW x hx)))
            refine lv_pop hx hb dL_law_1340 rfl ?_
            refine lv_goto (tgt := 1390) hx hb dL_law_1341 (by decide) ?_
            obtain ⟨x328, e328⟩ : ∃ y : Int32, y = i + 5 := ⟨_, rfl⟩
            refine lv_iinc (v := x328) (lv' := [(3, .int x328), (0, .ref b), (1, .ref (g.2.2.1 12)), (2, .ref (g.2.2.1 13))]) hx hb dL_law_1390 hl (k := 0) rfl (by rw [e328]; rfl) (by decide) rfl (fun ls hl => ?_)
            try have t328 : x328.toInt = i.toInt + 5 := tadd e328 rfl kp5 (by omega)
            refine lv_goto (tgt := 18) hx hb dL_law_1393 (by decide) ?_
            refine W.widen (k := 1000 + 10 * (k + 1)) (n := 200000 + 20100 * (k + 1)) (by omega) (by omega) ?_
            exact ih (k + 1) x328 (hv (hv J [42] [] u322) [100, 169] [] u327) L I P E N dy H locs ls (by omega) (by omega) (by omega) hwf hwm hnow hrl hac hrel0 hrel1 hrel2 hrel3 hrel4 hrel5 hrel6 hrel7 hrel8 hrel9 hrel10 hrel11 hrel12 hrel13 hrel14 hrel15 hrel16 hrel17 hrel18 hrel19 hrel20 hrel21 hrel22 hrel23 hrel24 hrel25 hrel26 hrel27 hrel28 hrel29 hrel30 (tol_s (a := J 13 49) (k := k) hk64 (Or.inl rfl) hrel31) hrel32 hrel33 hrel34 hW (lv_sub hl [0, 1, 2, 3] rfl)
          · refine lv_tableIn (off := 1312) (tgt := 1344) hx hb dL_law_32 (Int.not_lt.mpr c6) (Int.not_lt.mpr c6b) (by rw [c6k]; rfl) (by decide) ?_
            refine lv_aload_n hx hb dL_law_1344 rfl (lv_at hl 2 rfl) ?_
            refine lv_aload_n hx hb dL_law_1345 rfl (lv_at hl 1 rfl) ?_
            refine lv_iload_n hx hb dL_law_1346 rfl (lv_at hl 0 rfl) ?_
            refine lv_iconst (v := 1) hx hb dL_law_1347 (by decide) ?_
            refine lv_iadd hx hb dL_law_1348 ?_
            refine lv_topi (fun x329 (e329 : x329 = i + 1) => ?_)
            try have t329 : x329.toInt = i.toInt + 1 := tadd e329 rfl kp1 (by omega)
            have hin : vp_in x329 Lx := tin rfl (by omega)
            refine va_sld hx hb hX hbl hbA hW.2.2.1 hin dL_law_1349 ?_
            refine lv_topi (fun x330 (e330 : x330 = xs x329.toNatClampNeg) => ?_)
            refine ci2_ C (WB_L hW) (runV (x := g.2.2.1 12) (As := [.int x330]) (rest := []) (T := ((J, L, I, P, E, N), sgX g ++ dy)) C (WB_L hW) (c_X11_check_e l g J L I P E N dy H.size x330 hwf hrl (show (J 12 11).toInt ≤ 60 from by omega) hrel9 ⟨hnow.1, hnow.2.1⟩) mi_X11_check tw_1001 (recv_ (T := ((J, L, I, P, E, N), sgX g ++ dy)) C (WB_L hW) (mx_ rfl) rfl rfl) ⟨rfl, rfl, Nat.le_of_ble_eq_true rfl, Nat.le_of_ble_eq_true rfl⟩ rfl hl.1 rfl (Nat.le_of_ble_eq_true rfl) dL_law_1350 ⟨by show 1000 + 10 * k + 0 ≤ 600000; omega, by show 200000 + 20100 * k + 0 ≤ 7302250; omega⟩) (fun r331 u331 H locs hp331 hB hk hS => ?_)
            have hW : WB g A s.heap H locs ((hv J [42] [(12, 11)] u331), L, I, P, E, N) ((sgX g ++ dy) ++ sgM g) := joinL hW hB hk hS (frsub C (WB_L hW)) (okM hW (fun r h => hv_m (J := J) (R := [42]) (F := [(12, 11)]) rfl rfl h) (fun r h => rfl))
            obtain ⟨hc331, hf331_0⟩ : ((r331.toInt = (-1) ∧ (¬ (0 ≤ x330.toInt ∧ x330.toInt < (J 3 1).toInt ∧ (J 12 11).toInt ≤ (J 3 1).toInt - x330.toInt)) ∧ u331 12 11 = J 12 11 ∧ u331 41 = J 41) ∨ (r331 = r331 ∧ (0 ≤ x330.toInt ∧ x330.toInt < (J 3 1).toInt ∧ (J 12 11).toInt ≤ (J 3 1).toInt - x330.toInt) ∧ (u331 12 11).toInt = 0 ∧ u331 41 = J 41 ∧ CHK (J 41) (J 116) x330.toInt (J 12 11).toInt r331.toInt)) ∧ (0 ≤ (u331 12 11).toInt) := hp331
            have hrl := hf331_0
            refine lv_pop hx hb dL_law_1353 rfl ?_
            refine lv_aload_n hx hb dL_law_1354 rfl (lv_at hl 3 rfl) ?_
            refine lv_aload_n hx hb dL_law_1355 rfl (lv_at hl 1 rfl) ?_
            refine lv_iload_n hx hb dL_law_1356 rfl (lv_at hl 0 rfl) ?_
            refine lv_iconst (v := 1) hx hb dL_law_1357 (by decide) ?_
            refine lv_iadd hx hb dL_law_1358 ?_
            refine lv_topi (fun x332 (e332 : x332 = i + 1) => ?_)
            try have t332 : x332.toInt = i.toInt + 1 := tadd e332 rfl kp1 (by omega)
            have hin : vp_in x332 Lx := tin rfl (by omega)
            refine va_sld hx hb hX hbl hbA hW.2.2.1 hin dL_law_1359 ?_
            refine lv_as x330 (by rw [e330, e329, e332]) ?_
            refine ci2_ C (WB_R hW) (runV (x := g.2.2.1 13) (As := [.int x330]) (rest := []) (T := (((hv J [42] [(12, 11)] u331), L, I, P, E, N), sgM g)) C (WB_R hW) (c_X12_check_e l g (hv J [42] [(12, 11)] u331) L I P E N H.size x330 hwm) mi_X12_check tw_1540 (recv_ (T := (((hv J [42] [(12, 11)] u331), L, I, P, E, N), sgM g)) C (WB_R hW) (mm_ rfl) rfl rfl) ⟨rfl, rfl, Nat.le_of_ble_eq_true rfl, Nat.le_of_ble_eq_true rfl⟩ rfl hl.1 rfl (Nat.le_of_ble_eq_true rfl) dL_law_1360 ⟨by show 1000 + 10 * k + 0 + 0 ≤ 600000; omega, by show 200000 + 20100 * k + 0 + 0 ≤ 7302250; omega⟩) (fun r333 u333 H locs hp333 hB hk hS => ?_)
            have hW : WB g A s.heap H locs ((hv (hv J [42] [(12, 11)] u331) [100] [(13, 44)] u333), L, I, P, E, N) ((sgX g ++ dy) ++ sgM g) := joinR hW hB hk hS (frsub C (WB_R hW)) (fun x hx => cel_x (hv_x rfl rfl (notm hW x hx)))
            obtain ⟨hwm, hc333⟩ : WM (hv (hv J [42] [(12, 11)] u331) [100] [(13, 44)] u333) ∧ ((r333.toInt = (-1) ∧ (¬ (0 ≤ x330.toInt ∧ x330.toInt < (J 13 31).toInt ∧ (J 13 44).toInt ≤ (J 13 31).toInt - x330.toInt)) ∧ u333 13 44 = J 13 44 ∧ u333 130 = J 130) ∨ (r333 = r333 ∧ (0 ≤ x330.toInt ∧ x330.toInt < (J 13 31).toInt ∧ (J 13 44).toInt ≤ (J 13 31).toInt - x330.toInt) ∧ (u333 13 44).toInt = 0 ∧ u333 130 = J 130 ∧ CHK (J 130) (J 116) x330.toInt (J 13 44).toInt r333.toInt)) := hp333
            refine lv_pop hx hb dL_law_1363 rfl ?_
            refine lv_goto (tgt := 1390) hx hb dL_law_1364 (by decide) ?_
            obtain ⟨x334, e334⟩ : ∃ y : Int32, y = i + 5 := ⟨_, rfl⟩
            refine lv_iinc (v := x334) (lv' := [(3, .int x334), (0, .ref b), (1, .ref (g.2.2.1 12)), (2, .ref (g.2.2.1 13))]) hx hb dL_law_1390 hl (k := 0) rfl (by rw [e334]; rfl) (by decide) rfl (fun ls hl => ?_)
            try have t334 : x334.toInt = i.toInt + 5 := tadd e334 rfl kp5 (by omega)
            refine lv_goto (tgt := 18) hx hb dL_law_1393 (by decide) ?_
            refine W.widen (k := 1000 + 10 * (k + 1)) (n := 200000 + 20100 * (k + 1)) (by omega) (by omega) ?_
            obtain ⟨hnew17, hnew18⟩ := rel_check k g J I P E N dy r331 x330 u331 r333 u333 hk64 hwf0 hwm0 hnow0 hrl0 hac0 hrel0 hrel1 hrel2 hrel3 hrel4 hrel5 hrel6 hrel7 hrel8 hrel9 hrel10 hrel11 hrel12 hrel13 hrel14 hrel15 hrel16 hrel17 hrel18 hrel19 hrel20 hrel21 hrel22 hrel23 hrel24 hrel25 hrel26 hrel27 hrel28 hrel29 hrel30 hrel31 hrel32 hrel33 hrel34 hc331 hf331_0 hc333
            exact ih (k + 1) x334 (hv (hv J [42] [(12, 11)] u331) [100] [(13, 44)] u333) L I P E N dy H locs ls (by omega) (by omega) (by omega) hwf hwm hnow hrl hac hrel0 hrel1 hrel2 hrel3 hrel4 hrel5 hrel6 hrel7 hrel8 hrel9 hrel10 hrel11 hrel12 hrel13 hrel14 hrel15 hrel16 hnew17 hnew18 hrel19 hrel20 hrel21 hrel22 hrel23 hrel24 hrel25 hrel26 hrel27 hrel28 hrel29 hrel30 (tol_s (a := J 13 49) (k := k) hk64 (Or.inl rfl) hrel31) hrel32 hrel33 hrel34 hW (lv_sub hl [0, 1, 2, 3] rfl)
          · refine lv_tableIn (off := 1335) (tgt := 1367) hx hb dL_law_32 (Int.not_lt.mpr c6) (Int.not_lt.mpr c6b) (by rw [c6k]; rfl) (by decide) ?_
            refine lv_aload_n hx hb dL_law_1367 rfl (lv_at hl 2 rfl) ?_
            refine lv_aload_n hx hb dL_law_1368 rfl (lv_at hl 1 rfl) ?_
            refine lv_iload_n hx hb dL_law_1369 rfl (lv_at hl 0 rfl) ?_
            refine lv_iconst (v := 1) hx hb dL_law_1370 (by decide) ?_
            refine lv_iadd hx hb dL_law_1371 ?_
            refine lv_topi (fun x335 (e335 : x335 = i + 1) => ?_)
            try have t335 : x335.toInt = i.toInt + 1 := tadd e335 rfl kp1 (by omega)
            have hin : vp_in x335 Lx := tin rfl (by omega)
            refine va_sld hx hb hX hbl hbA hW.2.2.1 hin dL_law_1372 ?_
            refine lv_topi (fun x336 (e336 : x336 = xs x335.toNatClampNeg) => ?_)
            refine ci2_ C (WB_L hW) (runV (x := g.2.2.1 12) (As := [.int x336]) (rest := []) (T := ((J, L, I, P, E, N), sgX g ++ dy)) C (WB_L hW) (c_X11_count l g J L I P E N dy H.size x336 hwf) mi_X11_count tw_1005 (recv_ (T := ((J, L, I, P, E, N), sgX g ++ dy)) C (WB_L hW) (mx_ rfl) rfl rfl) ⟨rfl, rfl, Nat.le_of_ble_eq_true rfl, Nat.le_of_ble_eq_true rfl⟩ rfl hl.1 rfl (Nat.le_of_ble_eq_true rfl) dL_law_1373 ⟨by show 1000 + 10 * k + 0 ≤ 600000; omega, by show 200000 + 20100 * k + 0 ≤ 7302250; omega⟩) (fun r337 u337 H locs hp337 hB hk hS => ?_)
            have hW : WB g A s.heap H locs (J, L, I, P, E, N) ((sgX g ++ dy) ++ sgM g) := joinL hW hB hk hS (frsub C (WB_L hW)) (okM hW (fun r h => rfl) (fun r h => rfl))
            refine lv_pop hx hb dL_law_1376 rfl ?_
            refine lv_aload_n hx hb dL_law_1377 rfl (lv_at hl 3 rfl) ?_
            refine lv_aload_n hx hb dL_law_1378 rfl (lv_at hl 1 rfl) ?_
            refine lv_iload_n hx hb dL_law_1379 rfl (lv_at hl 0 rfl) ?_
            refine lv_iconst (v := 1) hx hb dL_law_1380 (by decide) ?_
            refine lv_iadd hx hb dL_law_1381 ?_
            refine lv_topi (fun x338 (e338 : x338 = i + 1) => ?_)
            try have t338 : x338.toInt = i.toInt + 1 := tadd e338 rfl kp1 (by omega)
            have hin : vp_in x338 Lx := tin rfl (by omega)
            refine va_sld hx hb hX hbl hbA hW.2.2.1 hin dL_law_1382 ?_
            refine lv_as x336 (by rw [e336, e335, e338]) ?_
            refine ci2_ C (WB_R hW) (runV (x := g.2.2.1 13) (As := [.int x336]) (rest := []) (T := ((J, L, I, P, E, N), sgM g)) C (WB_R hW) (c_X12_count l g J L I P E N H.size x336 hwm) mi_X12_count tw_1544 (recv_ (T := ((J, L, I, P, E, N), sgM g)) C (WB_R hW) (mm_ rfl) rfl rfl) ⟨rfl, rfl, Nat.le_of_ble_eq_true rfl, Nat.le_of_ble_eq_true rfl⟩ rfl hl.1 rfl (Nat.le_of_ble_eq_true rfl) dL_law_1383 ⟨by show 1000 + 10 * k + 0 + 0 ≤ 600000; omega, by show 200000 + 20100 * k + 0 + 0 ≤ 7302250; omega⟩) (fun r339 u339 H locs hp339 hB hk hS => ?_)
            have hW : WB g A s.heap H locs (J, L, I, P, E, N) ((sgX g ++ dy) ++ sgM g) := joinR hW hB hk hS (frsub C (WB_R hW)) (fun _ _ => rfl)
            refine lv_pop hx hb dL_law_1386 rfl ?_
            refine lv_goto (tgt := 1390) hx hb dL_law_1387 (by decide) ?_
            obtain ⟨x340, e340⟩ : ∃ y : Int32, y = i + 5 := ⟨_, rfl⟩
            refine lv_iinc (v := x340) (lv' := [(3, .int x340), (0, .ref b), (1, .ref (g.2.2.1 12)), (2, .ref (g.2.2.1 13))]) hx hb dL_law_1390 hl (k := 0) rfl (by rw [e340]; rfl) (by decide) rfl (fun ls hl => ?_)
            try have t340 : x340.toInt = i.toInt + 5 := tadd e340 rfl kp5 (by omega)
            refine lv_goto (tgt := 18) hx hb dL_law_1393 (by decide) ?_
            refine W.widen (k := 1000 + 10 * (k + 1)) (n := 200000 + 20100 * (k + 1)) (by omega) (by omega) ?_
            exact ih (k + 1) x340 J L I P E N dy H locs ls (by omega) (by omega) (by omega) hwf hwm hnow hrl hac hrel0 hrel1 hrel2 hrel3 hrel4 hrel5 hrel6 hrel7 hrel8 hrel9 hrel10 hrel11 hrel12 hrel13 hrel14 hrel15 hrel16 hrel17 hrel18 hrel19 hrel20 hrel21 hrel22 hrel23 hrel24 hrel25 hrel26 hrel27 hrel28 hrel29 hrel30 (tol_s (a := J 13 49) (k := k) hk64 (Or.inl rfl) hrel31) hrel32 hrel33 hrel34 hW (lv_sub hl [0, 1, 2, 3] rfl)
