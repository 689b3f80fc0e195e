set_option maxHeartbeats 40000000 in
set_option maxRecDepth 100000 in
theorem law_loop {p : Program} {l : Launch} {e : Env} {s : State} {m : MethodId} {below : List Frame} {meth : Method} {c : Code} {b Lx : Nat} {xs : Nat → Int32} (hL : Lx ≤ 320) (C0 : lw_At p s m meth c b Lx xs) {g : gG} {A : Nat → Prop} (hA : ∀ q, A q → s.heap.size ≤ q) (C : CC g A p m c code 4 s (#[Value.ref b]) "EarPaperLaw") : ∀ (n k : Nat) (i : Int32) (J : Nat → Nat → Int32) (L : Nat → Nat → Int64) (I : Nat → Nat → Nat → Int32) (P : Nat → Nat → Nat → Option Nat) (E : Nat → Option Nat) (N : Nat → Nat) (dy : List (Nat × Nat)) (H : Heap) (locs : List Loc) (ls : Array Slot), 5 * k ≤ Lx → Lx < 5 * k + n → i.toInt = 5 * (k : Int) → WXF g J P E N dy → WM J → (0 ≤ (J 3 1).toInt ∧ (J 3 1).toInt ≤ 9999 ∧ (J 27 2).toInt ≤ (J 3 1).toInt) → 0 ≤ (J 12 11).toInt → 0 ≤ (J 12 10).toInt → ((J 24 2).toInt = (J 13 37).toInt) → WB g A s.heap H locs (J, L, I, P, E, N) ((sgX g ++ dy) ++ sgM g) → lv_has ls 4 [(3, .int i), (0, .ref b), (1, .ref (g.2.2.1 12)), (2, .ref (g.2.2.1 13))] → W p l e room_1 s m #[Value.ref b] below meth c H locs (1000 + 10 * k) (200000 + 20100 * k) (lw_Z below #[Value.ref b] s) (F0 m 18 ls []) := by
  obtain ⟨hx, hb, hr, hml, hown, hts0, hX, hbl, hlocks, hgv⟩ := C0
  have hts := C.1.2.2.2.2
  have hbA : ¬ A b := fun q => by have := hA b q; omega
  intro n
  induction n with
  | zero => intro k i J L I P E N dy H locs ls h1 h2; exact absurd h2 (by omega)
  | succ n ih =>
    intro k i J L I P E N dy H locs ls hk5 hkn hi hwf hwm hnow hrl hac hrel0 hW hl
    have hwf0 := hwf
    have hwm0 := hwm
    have hlo20 : 0 ≤ (J 20 2).toInt := hwf.1.1.1
    have hlo22 : 0 ≤ (J 22 2).toInt := hwf.1.2.2.1.1
    refine lv_iload_n hx hb dL_law_18 rfl (lv_at hl 0 rfl) ?_
    refine lv_aload_n hx hb dL_law_19 rfl (lv_at hl 1 rfl) ?_
    obtain ⟨x1, e1⟩ : ∃ y : Int32, y = Int32.ofNat Lx := ⟨_, rfl⟩
    have t1 : x1.toInt = (Lx : Int) := by rw [e1]; exact Int32.toInt_ofNat_of_lt (by omega)
    refine va_slen hx hb hX hbl hbA hW.2.2.1 dL_law_20 ?_
    refine lv_as x1 e1.symm ?_
    refine lv_iconst (v := 5) hx hb dL_law_21 (by decide) ?_
    refine lv_isub hx hb dL_law_22 ?_
    refine lv_topi (fun x2 (e2 : x2 = x1 - 5) => ?_)
    try have t2 : x2.toInt = x1.toInt - 5 := tsub e2 rfl kp5 (by omega)
    refine lv_icmp_gt (tgt := 1395) hx hb dL_law_23 (by decide) (fun c3 => ?_) (fun c3 => ?_)
    · have c3 : x2.toInt < i.toInt := tlt rfl rfl c3
      refine lv_iconst (v := 1) hx hb dL_law_1395 (by decide) ?_
      refine va_forget (fun q hq => hA _ (hW.2.2.1.2.2 q hq)) ?_
      refine W.widen (k := 600000) (n := 7302250) (by omega) (by omega) ?_
      exact lw_ret hx hb hr hlocks dL_law_1396
    · have c3 : i.toInt ≤ x2.toInt := tnlt rfl rfl c3
      refine lv_aload_n hx hb dL_law_26 rfl (lv_at hl 1 rfl) ?_
      refine lv_iload_n hx hb dL_law_27 rfl (lv_at hl 0 rfl) ?_
      have hin : vp_in i Lx := tin rfl (by omega)
      refine va_sld hx hb hX hbl hbA hW.2.2.1 hin dL_law_28 ?_
      refine lv_topi (fun x4 (e4 : x4 = xs i.toNatClampNeg) => ?_)
      refine lv_bipush (v := 63) hx hb dL_law_29 (by decide) ?_
      refine lv_iand hx hb dL_law_31 ?_
      refine lv_topi (fun x5 (e5 : x5 = x4 &&& 63) => ?_)
      rcases Int.lt_or_le x5.toInt 0 with c6 | c6
      · refine lv_tableOut (tgt := 1389) hx hb dL_law_32 (Or.inl c6) (by decide) ?_
        obtain ⟨x7, e7⟩ : ∃ y : Int32, y = i + 5 := ⟨_, rfl⟩
        refine lv_iinc (v := x7) (lv' := [(3, .int x7), (0, .ref b), (1, .ref (g.2.2.1 12)), (2, .ref (g.2.2.1 13))]) hx hb dL_law_1389 hl (k := 0) rfl (by rw [e7]; rfl) (by decide) rfl (fun ls hl => ?_)
        try have t7 : x7.toInt = i.toInt + 5 := tadd e7 rfl kp5 (by omega)
        refine lv_goto (tgt := 18) hx hb dL_law_1392 (by decide) ?_
        refine W.widen (k := 1000 + 10 * (k + 1)) (n := 200000 + 20100 * (k + 1)) (by omega) (by omega) ?_
        exact ih (k + 1) x7 J L I P E N dy H locs ls (by omega) (by omega) (by omega) hwf hwm hnow hrl hac hrel0 hW (lv_sub hl [0, 1, 2, 3] rfl)
      · rcases Int.lt_or_le 36 x5.toInt with c6b | c6b
        · refine lv_tableOut (tgt := 1389) hx hb dL_law_32 (Or.inr c6b) (by decide) ?_
          obtain ⟨x8, e8⟩ : ∃ y : Int32, y = i + 5 := ⟨_, rfl⟩
          refine lv_iinc (v := x8) (lv' := [(3, .int x8), (0, .ref b), (1, .ref (g.2.2.1 12)), (2, .ref (g.2.2.1 13))]) hx hb dL_law_1389 hl (k := 0) rfl (by rw [e8]; rfl) (by decide) rfl (fun ls hl => ?_)
          try have t8 : x8.toInt = i.toInt + 5 := tadd e8 rfl kp5 (by omega)
          refine lv_goto (tgt := 18) hx hb dL_law_1392 (by decide) ?_
          refine W.widen (k := 1000 + 10 * (k + 1)) (n := 200000 + 20100 * (k + 1)) (by omega) (by omega) ?_
          exact ih (k + 1) x8 J L I P E N dy H locs ls (by omega) (by omega) (by omega) hwf hwm hnow hrl hac hrel0 hW (lv_sub hl [0, 1, 2, 3] rfl)
        · rcases (show x5.toInt = 0 ∨ x5.toInt = 1 ∨ x5.toInt = 2 ∨ x5.toInt = 3 ∨ x5.toInt = 4 ∨ x5.toInt = 5 ∨ x5.toInt = 6 ∨ x5.toInt = 7 ∨ x5.toInt = 8 ∨ x5.toInt = 9 ∨ x5.toInt = 10 ∨ x5.toInt = 11 ∨ x5.toInt = 12 ∨ x5.toInt = 13 ∨ x5.toInt = 14 ∨ x5.toInt = 15 ∨ x5.toInt = 16 ∨ x5.toInt = 17 ∨ x5.toInt = 18 ∨ x5.toInt = 19 ∨ x5.toInt = 20 ∨ x5.toInt = 21 ∨ x5.toInt = 22 ∨ x5.toInt = 23 ∨ x5.toInt = 24 ∨ x5.toInt = 25 ∨ x5.toInt = 26 ∨ x5.toInt = 27 ∨ x5.toInt = 28 ∨ x5.toInt = 29 ∨ x5.toInt = 30 ∨ x5.toInt = 31 ∨ x5.toInt = 32 ∨ x5.toInt = 33 ∨ x5.toInt = 34 ∨ x5.toInt = 35 ∨ x5.toInt = 36 by omega) with c6k | c6k | c6k | c6k | c6k | c6k | c6k | c6k | c6k | c6k | c6k | c6k | c6k | c6k | c6k | c6k | c6k | c6k | c6k | c6k | c6k | c6k | c6k | c6k | c6k | c6k | c6k | c6k | c6k | c6k | c6k | c6k | c6k | c6k | c6k | c6k | c6k
          · refine lv_tableIn (off := 164) (tgt := 196) hx hb dL_law_32 (Int.not_lt.mpr c6) (Int.not_lt.mpr c6b) (by rw [c6k]; rfl) (by decide) ?_
            refine lv_aload_n hx hb dL_law_196 rfl (lv_at hl 2 rfl) ?_
            refine lv_aload_n hx hb dL_law_197 rfl (lv_at hl 1 rfl) ?_
            refine lv_iload_n hx hb dL_law_198 rfl (lv_at hl 0 rfl) ?_
            refine lv_iconst (v := 1) hx hb dL_law_199 (by decide) ?_
            refine lv_iadd hx hb dL_law_200 ?_
            refine lv_topi (fun x9 (e9 : x9 = i + 1) => ?_)
            try have t9 : x9.toInt = i.toInt + 1 := tadd e9 rfl kp1 (by omega)
            have hin : vp_in x9 Lx := tin rfl (by omega)
            refine va_sld hx hb hX hbl hbA hW.2.2.1 hin dL_law_201 ?_
            refine lv_topi (fun x10 (e10 : x10 = xs x9.toNatClampNeg) => ?_)
            refine ci2_ C (WB_L hW) (runV (x := g.2.2.1 12) (As := [.int x10]) (rest := []) (T := ((J, L, I, P, E, N), sgX g ++ dy)) C (WB_L hW) (c_X11_pass l g J L I P E N dy H.size x10 hwf ⟨hnow.1, hnow.2.1⟩ hnow.2.2) mi_X11_pass tw_407 (recv_ (T := ((J, L, I, P, E, N), sgX g ++ dy)) C (WB_L hW) (mx_ rfl) rfl rfl) ⟨rfl, rfl, Nat.le_of_ble_eq_true rfl, Nat.le_of_ble_eq_true rfl⟩ rfl hl.1 rfl (Nat.le_of_ble_eq_true rfl) dL_law_202 ⟨by show 1000 + 10 * k + 10 ≤ 600000; omega, by show 200000 + 20100 * k + 20100 ≤ 7302250; omega⟩) (fun r11 u11 H locs hp11 hB hk hS => ?_)
            have hW : WB g A s.heap H locs ((hv J [42] [(3, 1), (3, 2), (3, 3), (27, 0), (27, 2)] u11.1), L, (hv I [9] [] u11.2.1), (hv P [9, 37] [] u11.2.2.1), (hv1 E [27] u11.2.2.2.1), u11.2.2.2.2.1) ((sgX g ++ u11.2.2.2.2.2) ++ sgM g) := joinL hW hB hk hS (frsub C (WB_L hW)) (okM hW (fun r h => hv_m (J := J) (R := [42]) (F := [(3, 1), (3, 2), (3, 3), (27, 0), (27, 2)]) rfl rfl h) (fun r h => rfl))
            obtain ⟨hwf, hdd11, hf11_0⟩ := hp11
            have hnow := hf11_0
            refine lv_pop hx hb dL_law_205 rfl ?_
            refine lv_aload_n hx hb dL_law_206 rfl (lv_at hl 3 rfl) ?_
            refine lv_aload_n hx hb dL_law_207 rfl (lv_at hl 1 rfl) ?_
            refine lv_iload_n hx hb dL_law_208 rfl (lv_at hl 0 rfl) ?_
            refine lv_iconst (v := 1) hx hb dL_law_209 (by decide) ?_
            refine lv_iadd hx hb dL_law_210 ?_
            refine lv_topi (fun x12 (e12 : x12 = i + 1) => ?_)
            try have t12 : x12.toInt = i.toInt + 1 := tadd e12 rfl kp1 (by omega)
            have hin : vp_in x12 Lx := tin rfl (by omega)
            refine va_sld hx hb hX hbl hbA hW.2.2.1 hin dL_law_211 ?_
            refine lv_as x10 (by rw [e10, e9, e12]) ?_
            refine ci2_ C (WB_R hW) (runV (x := g.2.2.1 13) (As := [.int x10]) (rest := []) (T := (((hv J [42] [(3, 1), (3, 2), (3, 3), (27, 0), (27, 2)] u11.1), L, (hv I [9] [] u11.2.1), (hv P [9, 37] [] u11.2.2.1), (hv1 E [27] u11.2.2.2.1), u11.2.2.2.2.1), sgM g)) C (WB_R hW) (c_X12_pass l g (hv J [42] [(3, 1), (3, 2), (3, 3), (27, 0), (27, 2)] u11.1) L (hv I [9] [] u11.2.1) (hv P [9, 37] [] u11.2.2.1) (hv1 E [27] u11.2.2.2.1) u11.2.2.2.2.1 H.size x10 hwm) mi_X12_pass tw_1235 (recv_ (T := (((hv J [42] [(3, 1), (3, 2), (3, 3), (27, 0), (27, 2)] u11.1), L, (hv I [9] [] u11.2.1), (hv P [9, 37] [] u11.2.2.1), (hv1 E [27] u11.2.2.2.1), u11.2.2.2.2.1), sgM g)) C (WB_R hW) (mm_ rfl) rfl rfl) ⟨rfl, rfl, Nat.le_of_ble_eq_true rfl, Nat.le_of_ble_eq_true rfl⟩ rfl hl.1 rfl (Nat.le_of_ble_eq_true rfl) dL_law_212 ⟨by show 1000 + 10 * k + 10 + 0 ≤ 600000; omega, by show 200000 + 20100 * k + 20100 + 0 ≤ 7302250; omega⟩) (fun r13 u13 H locs hp13 hB hk hS => ?_)
            have hW : WB g A s.heap H locs ((hv (hv J [42] [(3, 1), (3, 2), (3, 3), (27, 0), (27, 2)] u11.1) [100, 116, 117, 118, 119, 120] [(13, 31)] u13), L, (hv I [9] [] u11.2.1), (hv P [9, 37] [] u11.2.2.1), (hv1 E [27] u11.2.2.2.1), u11.2.2.2.2.1) ((sgX g ++ u11.2.2.2.2.2) ++ sgM g) := joinR hW hB hk hS (frsub C (WB_R hW)) (fun x hx => cel_x (hv_x rfl rfl (notm hW x hx)))
            obtain ⟨hwm, hc13⟩ : WM (hv (hv J [42] [(3, 1), (3, 2), (3, 3), (27, 0), (27, 2)] u11.1) [100, 116, 117, 118, 119, 120] [(13, 31)] u13) ∧ ((r13.toInt = (-4) ∧ (x10.toInt < 1) ∧ u13 13 31 = J 13 31) ∨ (r13.toInt = (-6) ∧ (1 ≤ x10.toInt ∧ 9999 - (J 13 31).toInt < x10.toInt) ∧ u13 13 31 = J 13 31) ∨ (r13.toInt = (J 13 31).toInt + x10.toInt ∧ (1 ≤ x10.toInt ∧ x10.toInt ≤ 9999 - (J 13 31).toInt) ∧ (u13 13 31).toInt = (J 13 31).toInt + x10.toInt)) := hp13
            refine lv_pop hx hb dL_law_215 rfl ?_
            refine lv_goto (tgt := 1389) hx hb dL_law_216 (by decide) ?_
            obtain ⟨x14, e14⟩ : ∃ y : Int32, y = i + 5 := ⟨_, rfl⟩
            refine lv_iinc (v := x14) (lv' := [(3, .int x14), (0, .ref b), (1, .ref (g.2.2.1 12)), (2, .ref (g.2.2.1 13))]) hx hb dL_law_1389 hl (k := 0) rfl (by rw [e14]; rfl) (by decide) rfl (fun ls hl => ?_)
            try have t14 : x14.toInt = i.toInt + 5 := tadd e14 rfl kp5 (by omega)
            refine lv_goto (tgt := 18) hx hb dL_law_1392 (by decide) ?_
            refine W.widen (k := 1000 + 10 * (k + 1)) (n := 200000 + 20100 * (k + 1)) (by omega) (by omega) ?_
            exact ih (k + 1) x14 (hv (hv J [42] [(3, 1), (3, 2), (3, 3), (27, 0), (27, 2)] u11.1) [100, 116, 117, 118, 119, 120] [(13, 31)] u13) L (hv I [9] [] u11.2.1) (hv P [9, 37] [] u11.2.2.1) (hv1 E [27] u11.2.2.2.1) u11.2.2.2.2.1 u11.2.2.2.2.2 H locs ls (by omega) (by omega) (by omega) hwf hwm hnow hrl hac hrel0 hW (lv_sub hl [0, 1, 2, 3] rfl)
          · refine lv_tableIn (off := 187) (tgt := 219) hx hb dL_law_32 (Int.not_lt.mpr c6) (Int.not_lt.mpr c6b) (by rw [c6k]; rfl) (by decide) ?_
            refine lv_aload_n hx hb dL_law_219 rfl (lv_at hl 2 rfl) ?_
            refine lv_aload_n hx hb dL_law_220 rfl (lv_at hl 1 rfl) ?_
            refine lv_iload_n hx hb dL_law_221 rfl (lv_at hl 0 rfl) ?_
            refine lv_iconst (v := 1) hx hb dL_law_222 (by decide) ?_
            refine lv_iadd hx hb dL_law_223 ?_
            refine lv_topi (fun x15 (e15 : x15 = i + 1) => ?_)
            try have t15 : x15.toInt = i.toInt + 1 := tadd e15 rfl kp1 (by omega)
            have hin : vp_in x15 Lx := tin rfl (by omega)
            refine va_sld hx hb hX hbl hbA hW.2.2.1 hin dL_law_224 ?_
            refine lv_topi (fun x16 (e16 : x16 = xs x15.toNatClampNeg) => ?_)
            refine lv_aload_n hx hb dL_law_225 rfl (lv_at hl 1 rfl) ?_
            refine lv_iload_n hx hb dL_law_226 rfl (lv_at hl 0 rfl) ?_
            refine lv_iconst (v := 2) hx hb dL_law_227 (by decide) ?_
            refine lv_iadd hx hb dL_law_228 ?_
            refine lv_topi (fun x17 (e17 : x17 = i + 2) => ?_)
            try have t17 : x17.toInt = i.toInt + 2 := tadd e17 rfl kp2 (by omega)
            have hin : vp_in x17 Lx := tin rfl (by omega)
            refine va_sld hx hb hX hbl hbA hW.2.2.1 hin dL_law_229 ?_
            refine lv_topi (fun x18 (e18 : x18 = xs x17.toNatClampNeg) => ?_)
            refine ci2_ C (WB_L hW) (runV (x := g.2.2.1 12) (As := [.int x16, .int x18]) (rest := []) (T := ((J, L, I, P, E, N), sgX g ++ dy)) C (WB_L hW) (c_X11_node_e l g J L I P E N dy H.size x16 x18 hwf) mi_X11_node tw_459 (recv_ (T := ((J, L, I, P, E, N), sgX g ++ dy)) C (WB_L hW) (mx_ rfl) rfl rfl) ⟨rfl, rfl, Nat.le_of_ble_eq_true rfl, Nat.le_of_ble_eq_true rfl⟩ rfl hl.1 rfl (Nat.le_of_ble_eq_true rfl) dL_law_230 ⟨by show 1000 + 10 * k + 10 ≤ 600000; omega, by show 200000 + 20100 * k + 20100 ≤ 7302250; omega⟩) (fun r19 u19 H locs hp19 hB hk hS => ?_)
            have hW : WB g A s.heap H locs ((hv J [42] [(20, 0), (20, 2)] u19.1), L, (hv I [6] [] u19.2.1), (hv P [6, 30] [] u19.2.2.1), (hv1 E [20] u19.2.2.2.1), u19.2.2.2.2.1) ((sgX g ++ u19.2.2.2.2.2) ++ sgM g) := joinL hW hB hk hS (frsub C (WB_L hW)) (okM hW (fun r h => hv_m (J := J) (R := [42]) (F := [(20, 0), (20, 2)]) rfl rfl h) (fun r h => rfl))
            obtain ⟨hc19, hwf, hdd19⟩ := hp19
            refine lv_pop hx hb dL_law_233 rfl ?_
            refine lv_aload_n hx hb dL_law_234 rfl (lv_at hl 3 rfl) ?_
            refine lv_aload_n hx hb dL_law_235 rfl (lv_at hl 1 rfl) ?_
            refine lv_iload_n hx hb dL_law_236 rfl (lv_at hl 0 rfl) ?_
            refine lv_iconst (v := 1) hx hb dL_law_237 (by decide) ?_
            refine lv_iadd hx hb dL_law_238 ?_
            refine lv_topi (fun x20 (e20 : x20 = i + 1) => ?_)
            try have t20 : x20.toInt = i.toInt + 1 := tadd e20 rfl kp1 (by omega)
            have hin : vp_in x20 Lx := tin rfl (by omega)
            refine va_sld hx hb hX hbl hbA hW.2.2.1 hin dL_law_239 ?_
            refine lv_as x16 (by rw [e16, e15, e20]) ?_
            refine lv_aload_n hx hb dL_law_240 rfl (lv_at hl 1 rfl) ?_
            refine lv_iload_n hx hb dL_law_241 rfl (lv_at hl 0 rfl) ?_
            refine lv_iconst (v := 2) hx hb dL_law_242 (by decide) ?_
            refine lv_iadd hx hb dL_law_243 ?_
            refine lv_topi (fun x21 (e21 : x21 = i + 2) => ?_)
            try have t21 : x21.toInt = i.toInt + 2 := tadd e21 rfl kp2 (by omega)
            have hin : vp_in x21 Lx := tin rfl (by omega)
            refine va_sld hx hb hX hbl hbA hW.2.2.1 hin dL_law_244 ?_
            refine lv_as x18 (by rw [e18, e17, e21]) ?_
            refine ci2_ C (WB_R hW) (runV (x := g.2.2.1 13) (As := [.int x16, .int x18]) (rest := []) (T := (((hv J [42] [(20, 0), (20, 2)] u19.1), L, (hv I [6] [] u19.2.1), (hv P [6, 30] [] u19.2.2.1), (hv1 E [20] u19.2.2.2.1), u19.2.2.2.2.1), sgM g)) C (WB_R hW) (c_X12_node l g (hv J [42] [(20, 0), (20, 2)] u19.1) L (hv I [6] [] u19.2.1) (hv P [6, 30] [] u19.2.2.1) (hv1 E [20] u19.2.2.2.1) u19.2.2.2.2.1 H.size x16 x18 hwm) mi_X12_node tw_1247 (recv_ (T := (((hv J [42] [(20, 0), (20, 2)] u19.1), L, (hv I [6] [] u19.2.1), (hv P [6, 30] [] u19.2.2.1), (hv1 E [20] u19.2.2.2.1), u19.2.2.2.2.1), sgM g)) C (WB_R hW) (mm_ rfl) rfl rfl) ⟨rfl, rfl, Nat.le_of_ble_eq_true rfl, Nat.le_of_ble_eq_true rfl⟩ rfl hl.1 rfl (Nat.le_of_ble_eq_true rfl) dL_law_245 ⟨by show 1000 + 10 * k + 10 + 0 ≤ 600000; omega, by show 200000 + 20100 * k + 20100 + 0 ≤ 7302250; omega⟩) (fun r22 u22 H locs hp22 hB hk hS => ?_)
            have hW : WB g A s.heap H locs ((hv (hv J [42] [(20, 0), (20, 2)] u19.1) [100, 101, 102] [(13, 32), (13, 49)] u22), L, (hv I [6] [] u19.2.1), (hv P [6, 30] [] u19.2.2.1), (hv1 E [20] u19.2.2.2.1), u19.2.2.2.2.1) ((sgX g ++ u19.2.2.2.2.2) ++ sgM g) := joinR hW hB hk hS (frsub C (WB_R hW)) (fun x hx => cel_x (hv_x rfl rfl (notm hW x hx)))
            obtain ⟨hwm, hc22⟩ : WM (hv (hv J [42] [(20, 0), (20, 2)] u19.1) [100, 101, 102] [(13, 32), (13, 49)] u22) ∧ ((r22.toInt = (-1) ∧ (¬ (0 ≤ x16.toInt ∧ x16.toInt < (J 13 32).toInt)) ∧ u22 13 32 = J 13 32) ∨ (r22.toInt = (-4) ∧ (0 ≤ x16.toInt ∧ x16.toInt < (J 13 32).toInt ∧ x18.toInt < 1) ∧ u22 13 32 = J 13 32) ∨ (r22.toInt = (-6) ∧ (0 ≤ x16.toInt ∧ x16.toInt < (J 13 32).toInt ∧ 1 ≤ x18.toInt ∧ (99 < x18.toInt ∨ (J 13 32).toInt = 20)) ∧ u22 13 32 = J 13 32) ∨ (r22.toInt = (J 13 32).toInt ∧ (0 ≤ x16.toInt ∧ x16.toInt < (J 13 32).toInt ∧ 1 ≤ x18.toInt ∧ x18.toInt ≤ 99 ∧ (J 13 32).toInt ≤ 19) ∧ (u22 13 32).toInt = (J 13 32).toInt + 1)) := hp22
            refine lv_pop hx hb dL_law_248 rfl ?_
            refine lv_goto (tgt := 1389) hx hb dL_law_249 (by decide) ?_
            obtain ⟨x23, e23⟩ : ∃ y : Int32, y = i + 5 := ⟨_, rfl⟩
            refine lv_iinc (v := x23) (lv' := [(3, .int x23), (0, .ref b), (1, .ref (g.2.2.1 12)), (2, .ref (g.2.2.1 13))]) hx hb dL_law_1389 hl (k := 0) rfl (by rw [e23]; rfl) (by decide) rfl (fun ls hl => ?_)
            try have t23 : x23.toInt = i.toInt + 5 := tadd e23 rfl kp5 (by omega)
            refine lv_goto (tgt := 18) hx hb dL_law_1392 (by decide) ?_
            refine W.widen (k := 1000 + 10 * (k + 1)) (n := 200000 + 20100 * (k + 1)) (by omega) (by omega) ?_
            exact ih (k + 1) x23 (hv (hv J [42] [(20, 0), (20, 2)] u19.1) [100, 101, 102] [(13, 32), (13, 49)] u22) L (hv I [6] [] u19.2.1) (hv P [6, 30] [] u19.2.2.1) (hv1 E [20] u19.2.2.2.1) u19.2.2.2.2.1 u19.2.2.2.2.2 H locs ls (by omega) (by omega) (by omega) hwf hwm hnow hrl hac hrel0 hW (lv_sub hl [0, 1, 2, 3] rfl)
          · refine lv_tableIn (off := 220) (tgt := 252) hx hb dL_law_32 (Int.not_lt.mpr c6) (Int.not_lt.mpr c6b) (by rw [c6k]; rfl) (by decide) ?_
            refine lv_aload_n hx hb dL_law_252 rfl (lv_at hl 2 rfl) ?_
            refine lv_aload_n hx hb dL_law_253 rfl (lv_at hl 1 rfl) ?_
            refine lv_iload_n hx hb dL_law_254 rfl (lv_at hl 0 rfl) ?_
            refine lv_iconst (v := 1) hx hb dL_law_255 (by decide) ?_
            refine lv_iadd hx hb dL_law_256 ?_
            refine lv_topi (fun x24 (e24 : x24 = i + 1) => ?_)
            try have t24 : x24.toInt = i.toInt + 1 := tadd e24 rfl kp1 (by omega)
            have hin : vp_in x24 Lx := tin rfl (by omega)
            refine va_sld hx hb hX hbl hbA hW.2.2.1 hin dL_law_257 ?_
            refine lv_topi (fun x25 (e25 : x25 = xs x24.toNatClampNeg) => ?_)
            refine lv_aload_n hx hb dL_law_258 rfl (lv_at hl 1 rfl) ?_
            refine lv_iload_n hx hb dL_law_259 rfl (lv_at hl 0 rfl) ?_
            refine lv_iconst (v := 2) hx hb dL_law_260 (by decide) ?_
            refine lv_iadd hx hb dL_law_261 ?_
            refine lv_topi (fun x26 (e26 : x26 = i + 2) => ?_)
            try have t26 : x26.toInt = i.toInt + 2 := tadd e26 rfl kp2 (by omega)
            have hin : vp_in x26 Lx := tin rfl (by omega)
            refine va_sld hx hb hX hbl hbA hW.2.2.1 hin dL_law_262 ?_
            refine lv_topi (fun x27 (e27 : x27 = xs x26.toNatClampNeg) => ?_)
            refine ci2_ C (WB_L hW) (runV (x := g.2.2.1 12) (As := [.int x25, .int x27]) (rest := []) (T := ((J, L, I, P, E, N), sgX g ++ dy)) C (WB_L hW) (c_X11_boost_e l g J L I P E N dy H.size x25 x27 hwf) mi_X11_boost tw_489 (recv_ (T := ((J, L, I, P, E, N), sgX g ++ dy)) C (WB_L hW) (mx_ rfl) rfl rfl) ⟨rfl, rfl, Nat.le_of_ble_eq_true rfl, Nat.le_of_ble_eq_true rfl⟩ rfl hl.1 rfl (Nat.le_of_ble_eq_true rfl) dL_law_263 ⟨by show 1000 + 10 * k + 0 ≤ 600000; omega, by show 200000 + 20100 * k + 0 ≤ 7302250; omega⟩) (fun r28 u28 H locs hp28 hB hk hS => ?_)
            have hW : WB g A s.heap H locs ((hv J [42] [] u28.1), L, (hv I [] [(6, 3)] u28.2), P, E, N) ((sgX g ++ dy) ++ sgM g) := joinL hW hB hk hS (frsub C (WB_L hW)) (okM hW (fun r h => hv_m (J := J) (R := [42]) (F := []) rfl rfl h) (fun r h => rfl))
            have hc28 : ((r28.toInt = (-1) ∧ (¬ (0 ≤ x25.toInt ∧ x25.toInt < (J 20 2).toInt)) ∧ u28.2 6 3 = I 6 3) ∨ (r28.toInt = (-4) ∧ (0 ≤ x25.toInt ∧ x25.toInt < (J 20 2).toInt ∧ x27.toInt < 0) ∧ u28.2 6 3 = I 6 3) ∨ (r28.toInt = (-6) ∧ (0 ≤ x25.toInt ∧ x25.toInt < (J 20 2).toInt ∧ 99 < x27.toInt) ∧ u28.2 6 3 = I 6 3) ∨ (r28 = I 6 3 (elt E P 20 x25.toNatClampNeg) ∧ (0 ≤ x25.toInt ∧ x25.toInt < (J 20 2).toInt ∧ 0 ≤ x27.toInt ∧ x27.toInt ≤ 99) ∧ (∀ b : Nat, b ≠ elt E P 20 x25.toNatClampNeg → u28.2 6 3 b = I 6 3 b) ∧ u28.2 6 3 (elt E P 20 x25.toNatClampNeg) = x27)) := hp28
            refine lv_pop hx hb dL_law_266 rfl ?_
            refine lv_aload_n hx hb dL_law_267 rfl (lv_at hl 3 rfl) ?_
            refine lv_aload_n hx hb dL_law_268 rfl (lv_at hl 1 rfl) ?_
            refine lv_iload_n hx hb dL_law_269 rfl (lv_at hl 0 rfl) ?_
            refine lv_iconst (v := 1) hx hb dL_law_270 (by decide) ?_
            refine lv_iadd hx hb dL_law_271 ?_
            refine lv_topi (fun x29 (e29 : x29 = i + 1) => ?_)
            try have t29 : x29.toInt = i.toInt + 1 := tadd e29 rfl kp1 (by omega)
            have hin : vp_in x29 Lx := tin rfl (by omega)
            refine va_sld hx hb hX hbl hbA hW.2.2.1 hin dL_law_272 ?_
            refine lv_as x25 (by rw [e25, e24, e29]) ?_
            refine lv_aload_n hx hb dL_law_273 rfl (lv_at hl 1 rfl) ?_
            refine lv_iload_n hx hb dL_law_274 rfl (lv_at hl 0 rfl) ?_
            refine lv_iconst (v := 2) hx hb dL_law_275 (by decide) ?_
            refine lv_iadd hx hb dL_law_276 ?_
            refine lv_topi (fun x30 (e30 : x30 = i + 2) => ?_)
            try have t30 : x30.toInt = i.toInt + 2 := tadd e30 rfl kp2 (by omega)
            have hin : vp_in x30 Lx := tin rfl (by omega)
            refine va_sld hx hb hX hbl hbA hW.2.2.1 hin dL_law_277 ?_
            refine lv_as x27 (by rw [e27, e26, e30]) ?_
            refine ci2_ C (WB_R hW) (runV (x := g.2.2.1 13) (As := [.int x25, .int x27]) (rest := []) (T := (((hv J [42] [] u28.1), L, (hv I [] [(6, 3)] u28.2), P, E, N), sgM g)) C (WB_R hW) (c_X12_boost l g (hv J [42] [] u28.1) L (hv I [] [(6, 3)] u28.2) P E N H.size x25 x27 hwm) mi_X12_boost tw_1261 (recv_ (T := (((hv J [42] [] u28.1), L, (hv I [] [(6, 3)] u28.2), P, E, N), sgM g)) C (WB_R hW) (mm_ rfl) rfl rfl) ⟨rfl, rfl, Nat.le_of_ble_eq_true rfl, Nat.le_of_ble_eq_true rfl⟩ rfl hl.1 rfl (Nat.le_of_ble_eq_true rfl) dL_law_278 ⟨by show 1000 + 10 * k + 0 + 0 ≤ 600000; omega, by show 200000 + 20100 * k + 0 + 0 ≤ 7302250; omega⟩) (fun r31 u31 H locs hp31 hB hk hS => ?_)
            have hW : WB g A s.heap H locs ((hv (hv J [42] [] u28.1) [100, 103] [(13, 49)] u31), L, (hv I [] [(6, 3)] u28.2), P, E, N) ((sgX g ++ dy) ++ sgM g) := joinR hW hB hk hS (frsub C (WB_R hW)) (fun x hx => cel_x (hv_x rfl rfl (notm hW x hx)))
            refine lv_pop hx hb dL_law_281 rfl ?_
            refine lv_goto (tgt := 1389) hx hb dL_law_282 (by decide) ?_
            obtain ⟨x32, e32⟩ : ∃ y : Int32, y = i + 5 := ⟨_, rfl⟩
            refine lv_iinc (v := x32) (lv' := [(3, .int x32), (0, .ref b), (1, .ref (g.2.2.1 12)), (2, .ref (g.2.2.1 13))]) hx hb dL_law_1389 hl (k := 0) rfl (by rw [e32]; rfl) (by decide) rfl (fun ls hl => ?_)
            try have t32 : x32.toInt = i.toInt + 5 := tadd e32 rfl kp5 (by omega)
            refine lv_goto (tgt := 18) hx hb dL_law_1392 (by decide) ?_
            refine W.widen (k := 1000 + 10 * (k + 1)) (n := 200000 + 20100 * (k + 1)) (by omega) (by omega) ?_
            exact ih (k + 1) x32 (hv (hv J [42] [] u28.1) [100, 103] [(13, 49)] u31) L (hv I [] [(6, 3)] u28.2) P E N dy H locs ls (by omega) (by omega) (by omega) hwf hwm hnow hrl hac hrel0 hW (lv_sub hl [0, 1, 2, 3] rfl)
          · refine lv_tableIn (off := 253) (tgt := 285) hx hb dL_law_32 (Int.not_lt.mpr c6) (Int.not_lt.mpr c6b) (by rw [c6k]; rfl) (by decide) ?_
            refine lv_aload_n hx hb dL_law_285 rfl (lv_at hl 2 rfl) ?_
            refine lv_aload_n hx hb dL_law_286 rfl (lv_at hl 1 rfl) ?_
            refine lv_iload_n hx hb dL_law_287 rfl (lv_at hl 0 rfl) ?_
            refine lv_iconst (v := 1) hx hb dL_law_288 (by decide) ?_
            refine lv_iadd hx hb dL_law_289 ?_
            refine lv_topi (fun x33 (e33 : x33 = i + 1) => ?_)
            try have t33 : x33.toInt = i.toInt + 1 := tadd e33 rfl kp1 (by omega)
            have hin : vp_in x33 Lx := tin rfl (by omega)
            refine va_sld hx hb hX hbl hbA hW.2.2.1 hin dL_law_290 ?_
            refine lv_topi (fun x34 (e34 : x34 = xs x33.toNatClampNeg) => ?_)
            refine ci2_ C (WB_L hW) (runV (x := g.2.2.1 12) (As := [.int x34]) (rest := []) (T := ((J, L, I, P, E, N), sgX g ++ dy)) C (WB_L hW) (c_X11_weather l g J L I P E N dy H.size x34 hwf) mi_X11_weather tw_493 (recv_ (T := ((J, L, I, P, E, N), sgX g ++ dy)) C (WB_L hW) (mx_ rfl) rfl rfl) ⟨rfl, rfl, Nat.le_of_ble_eq_true rfl, Nat.le_of_ble_eq_true rfl⟩ rfl hl.1 rfl (Nat.le_of_ble_eq_true rfl) dL_law_291 ⟨by show 1000 + 10 * k + 0 ≤ 600000; omega, by show 200000 + 20100 * k + 0 ≤ 7302250; omega⟩) (fun r35 u35 H locs hp35 hB hk hS => ?_)
            have hW : WB g A s.heap H locs ((hv J [42] [(4, 4)] u35), L, I, P, E, N) ((sgX g ++ dy) ++ sgM g) := joinL hW hB hk hS (frsub C (WB_L hW)) (okM hW (fun r h => hv_m (J := J) (R := [42]) (F := [(4, 4)]) rfl rfl h) (fun r h => rfl))
            have hc35 : ((r35.toInt = (-4) ∧ (x34.toInt < 0) ∧ u35 4 4 = J 4 4) ∨ (r35.toInt = (-6) ∧ (20 < x34.toInt) ∧ u35 4 4 = J 4 4) ∨ (r35 = J 4 4 ∧ (0 ≤ x34.toInt ∧ x34.toInt ≤ 20) ∧ u35 4 4 = x34)) := hp35
            refine lv_pop hx hb dL_law_294 rfl ?_
            refine lv_aload_n hx hb dL_law_295 rfl (lv_at hl 3 rfl) ?_
            refine lv_aload_n hx hb dL_law_296 rfl (lv_at hl 1 rfl) ?_
            refine lv_iload_n hx hb dL_law_297 rfl (lv_at hl 0 rfl) ?_
            refine lv_iconst (v := 1) hx hb dL_law_298 (by decide) ?_
            refine lv_iadd hx hb dL_law_299 ?_
            refine lv_topi (fun x36 (e36 : x36 = i + 1) => ?_)
            try have t36 : x36.toInt = i.toInt + 1 := tadd e36 rfl kp1 (by omega)
            have hin : vp_in x36 Lx := tin rfl (by omega)
            refine va_sld hx hb hX hbl hbA hW.2.2.1 hin dL_law_300 ?_
            refine lv_as x34 (by rw [e34, e33, e36]) ?_
            refine ci2_ C (WB_R hW) (runV (x := g.2.2.1 13) (As := [.int x34]) (rest := []) (T := (((hv J [42] [(4, 4)] u35), L, I, P, E, N), sgM g)) C (WB_R hW) (c_X12_weather l g (hv J [42] [(4, 4)] u35) L I P E N H.size x34 hwm) mi_X12_weather tw_1265 (recv_ (T := (((hv J [42] [(4, 4)] u35), L, I, P, E, N), sgM g)) C (WB_R hW) (mm_ rfl) rfl rfl) ⟨rfl, rfl, Nat.le_of_ble_eq_true rfl, Nat.le_of_ble_eq_true rfl⟩ rfl hl.1 rfl (Nat.le_of_ble_eq_true rfl) dL_law_301 ⟨by show 1000 + 10 * k + 0 + 0 ≤ 600000; omega, by show 200000 + 20100 * k + 0 + 0 ≤ 7302250; omega⟩) (fun r37 u37 H locs hp37 hB hk hS => ?_)
            have hW : WB g A s.heap H locs ((hv (hv J [42] [(4, 4)] u35) [100] [(13, 33)] u37), L, I, P, E, N) ((sgX g ++ dy) ++ sgM g) := joinR hW hB hk hS (frsub C (WB_R hW)) (fun x hx => cel_x (hv_x rfl rfl (notm hW x hx)))
            refine lv_pop hx hb dL_law_304 rfl ?_
            refine lv_goto (tgt := 1389) hx hb dL_law_305 (by decide) ?_
            obtain ⟨x38, e38⟩ : ∃ y : Int32, y = i + 5 := ⟨_, rfl⟩
            refine lv_iinc (v := x38) (lv' := [(3, .int x38), (0, .ref b), (1, .ref (g.2.2.1 12)), (2, .ref (g.2.2.1 13))]) hx hb dL_law_1389 hl (k := 0) rfl (by rw [e38]; rfl) (by decide) rfl (fun ls hl => ?_)
            try have t38 : x38.toInt = i.toInt + 5 := tadd e38 rfl kp5 (by omega)
            refine lv_goto (tgt := 18) hx hb dL_law_1392 (by decide) ?_
            refine W.widen (k := 1000 + 10 * (k + 1)) (n := 200000 + 20100 * (k + 1)) (by omega) (by omega) ?_
            exact ih (k + 1) x38 (hv (hv J [42] [(4, 4)] u35) [100] [(13, 33)] u37) L I P E N dy H locs ls (by omega) (by omega) (by omega) hwf hwm hnow hrl hac hrel0 hW (lv_sub hl [0, 1, 2, 3] rfl)
          · refine lv_tableIn (off := 276) (tgt := 308) hx hb dL_law_32 (Int.not_lt.mpr c6) (Int.not_lt.mpr c6b) (by rw [c6k]; rfl) (by decide) ?_
            refine lv_aload_n hx hb dL_law_308 rfl (lv_at hl 2 rfl) ?_
            refine lv_aload_n hx hb dL_law_309 rfl (lv_at hl 1 rfl) ?_
            refine lv_iload_n hx hb dL_law_310 rfl (lv_at hl 0 rfl) ?_
            refine lv_iconst (v := 1) hx hb dL_law_311 (by decide) ?_
            refine lv_iadd hx hb dL_law_312 ?_
            refine lv_topi (fun x39 (e39 : x39 = i + 1) => ?_)
            try have t39 : x39.toInt = i.toInt + 1 := tadd e39 rfl kp1 (by omega)
            have hin : vp_in x39 Lx := tin rfl (by omega)
            refine va_sld hx hb hX hbl hbA hW.2.2.1 hin dL_law_313 ?_
            refine lv_topi (fun x40 (e40 : x40 = xs x39.toNatClampNeg) => ?_)
            refine lv_aload_n hx hb dL_law_314 rfl (lv_at hl 1 rfl) ?_
            refine lv_iload_n hx hb dL_law_315 rfl (lv_at hl 0 rfl) ?_
            refine lv_iconst (v := 2) hx hb dL_law_316 (by decide) ?_
            refine lv_iadd hx hb dL_law_317 ?_
            refine lv_topi (fun x41 (e41 : x41 = i + 2) => ?_)
            try have t41 : x41.toInt = i.toInt + 2 := tadd e41 rfl kp2 (by omega)
            have hin : vp_in x41 Lx := tin rfl (by omega)
            refine va_sld hx hb hX hbl hbA hW.2.2.1 hin dL_law_318 ?_
            refine lv_topi (fun x42 (e42 : x42 = xs x41.toNatClampNeg) => ?_)
            refine lv_aload_n hx hb dL_law_319 rfl (lv_at hl 1 rfl) ?_
            refine lv_iload_n hx hb dL_law_320 rfl (lv_at hl 0 rfl) ?_
            refine lv_iconst (v := 3) hx hb dL_law_321 (by decide) ?_
            refine lv_iadd hx hb dL_law_322 ?_
            refine lv_topi (fun x43 (e43 : x43 = i + 3) => ?_)
            try have t43 : x43.toInt = i.toInt + 3 := tadd e43 rfl kp3 (by omega)
            have hin : vp_in x43 Lx := tin rfl (by omega)
            refine va_sld hx hb hX hbl hbA hW.2.2.1 hin dL_law_323 ?_
            refine lv_topi (fun x44 (e44 : x44 = xs x43.toNatClampNeg) => ?_)
            refine ci2_ C (WB_L hW) (runV (x := g.2.2.1 12) (As := [.int x40, .int x42, .int x44]) (rest := []) (T := ((J, L, I, P, E, N), sgX g ++ dy)) C (WB_L hW) (c_X11_cut l g J L I P E N dy H.size x40 x42 x44 hwf) mi_X11_cut tw_497 (recv_ (T := ((J, L, I, P, E, N), sgX g ++ dy)) C (WB_L hW) (mx_ rfl) rfl rfl) ⟨rfl, rfl, Nat.le_of_ble_eq_true rfl, Nat.le_of_ble_eq_true rfl⟩ rfl hl.1 rfl (Nat.le_of_ble_eq_true rfl) dL_law_324 ⟨by show 1000 + 10 * k + 10 ≤ 600000; omega, by show 200000 + 20100 * k + 20100 ≤ 7302250; omega⟩) (fun r45 u45 H locs hp45 hB hk hS => ?_)
            have hW : WB g A s.heap H locs ((hv J [42] [(21, 0), (21, 2)] u45.1), L, (hv I [1] [] u45.2.1), (hv P [1, 31] [] u45.2.2.1), (hv1 E [21] u45.2.2.2.1), u45.2.2.2.2.1) ((sgX g ++ u45.2.2.2.2.2) ++ sgM g) := joinL hW hB hk hS (frsub C (WB_L hW)) (okM hW (fun r h => hv_m (J := J) (R := [42]) (F := [(21, 0), (21, 2)]) rfl rfl h) (fun r h => rfl))
            obtain ⟨hwf, hdd45⟩ := hp45
            refine lv_pop hx hb dL_law_327 rfl ?_
            refine lv_aload_n hx hb dL_law_328 rfl (lv_at hl 3 rfl) ?_
            refine lv_aload_n hx hb dL_law_329 rfl (lv_at hl 1 rfl) ?_
            refine lv_iload_n hx hb dL_law_330 rfl (lv_at hl 0 rfl) ?_
            refine lv_iconst (v := 1) hx hb dL_law_331 (by decide) ?_
            refine lv_iadd hx hb dL_law_332 ?_
            refine lv_topi (fun x46 (e46 : x46 = i + 1) => ?_)
            try have t46 : x46.toInt = i.toInt + 1 := tadd e46 rfl kp1 (by omega)
            have hin : vp_in x46 Lx := tin rfl (by omega)
            refine va_sld hx hb hX hbl hbA hW.2.2.1 hin dL_law_333 ?_
            refine lv_as x40 (by rw [e40, e39, e46]) ?_
            refine lv_aload_n hx hb dL_law_334 rfl (lv_at hl 1 rfl) ?_
            refine lv_iload_n hx hb dL_law_335 rfl (lv_at hl 0 rfl) ?_
            refine lv_iconst (v := 2) hx hb dL_law_336 (by decide) ?_
            refine lv_iadd hx hb dL_law_337 ?_
            refine lv_topi (fun x47 (e47 : x47 = i + 2) => ?_)
            try have t47 : x47.toInt = i.toInt + 2 := tadd e47 rfl kp2 (by omega)
            have hin : vp_in x47 Lx := tin rfl (by omega)
            refine va_sld hx hb hX hbl hbA hW.2.2.1 hin dL_law_338 ?_
            refine lv_as x42 (by rw [e42, e41, e47]) ?_
            refine lv_aload_n hx hb dL_law_339 rfl (lv_at hl 1 rfl) ?_
            refine lv_iload_n hx hb dL_law_340 rfl (lv_at hl 0 rfl) ?_
            refine lv_iconst (v := 3) hx hb dL_law_341 (by decide) ?_
            refine lv_iadd hx hb dL_law_342 ?_
            refine lv_topi (fun x48 (e48 : x48 = i + 3) => ?_)
            try have t48 : x48.toInt = i.toInt + 3 := tadd e48 rfl kp3 (by omega)
            have hin : vp_in x48 Lx := tin rfl (by omega)
            refine va_sld hx hb hX hbl hbA hW.2.2.1 hin dL_law_343 ?_
            refine lv_as x44 (by rw [e44, e43, e48]) ?_
            refine ci2_ C (WB_R hW) (runV (x := g.2.2.1 13) (As := [.int x40, .int x42, .int x44]) (rest := []) (T := (((hv J [42] [(21, 0), (21, 2)] u45.1), L, (hv I [1] [] u45.2.1), (hv P [1, 31] [] u45.2.2.1), (hv1 E [21] u45.2.2.2.1), u45.2.2.2.2.1), sgM g)) C (WB_R hW) (c_X12_cut l g (hv J [42] [(21, 0), (21, 2)] u45.1) L (hv I [1] [] u45.2.1) (hv P [1, 31] [] u45.2.2.1) (hv1 E [21] u45.2.2.2.1) u45.2.2.2.2.1 H.size x40 x42 x44 hwm) mi_X12_cut tw_1269 (recv_ (T := (((hv J [42] [(21, 0), (21, 2)] u45.1), L, (hv I [1] [] u45.2.1), (hv P [1, 31] [] u45.2.2.1), (hv1 E [21] u45.2.2.2.1), u45.2.2.2.2.1), sgM g)) C (WB_R hW) (mm_ rfl) rfl rfl) ⟨rfl, rfl, Nat.le_of_ble_eq_true rfl, Nat.le_of_ble_eq_true rfl⟩ rfl hl.1 rfl (Nat.le_of_ble_eq_true rfl) dL_law_344 ⟨by show 1000 + 10 * k + 10 + 0 ≤ 600000; omega, by show 200000 + 20100 * k + 20100 + 0 ≤ 7302250; omega⟩) (fun r49 u49 H locs hp49 hB hk hS => ?_)
            have hW : WB g A s.heap H locs ((hv (hv J [42] [(21, 0), (21, 2)] u45.1) [100, 105, 106, 107] [(13, 34)] u49), L, (hv I [1] [] u45.2.1), (hv P [1, 31] [] u45.2.2.1), (hv1 E [21] u45.2.2.2.1), u45.2.2.2.2.1) ((sgX g ++ u45.2.2.2.2.2) ++ sgM g) := joinR hW hB hk hS (frsub C (WB_R hW)) (fun x hx => cel_x (hv_x rfl rfl (notm hW x hx)))
            have hwm : WM (hv (hv J [42] [(21, 0), (21, 2)] u45.1) [100, 105, 106, 107] [(13, 34)] u49) := hp49
            refine lv_pop hx hb dL_law_347 rfl ?_
            refine lv_goto (tgt := 1389) hx hb dL_law_348 (by decide) ?_
            obtain ⟨x50, e50⟩ : ∃ y : Int32, y = i + 5 := ⟨_, rfl⟩
            refine lv_iinc (v := x50) (lv' := [(3, .int x50), (0, .ref b), (1, .ref (g.2.2.1 12)), (2, .ref (g.2.2.1 13))]) hx hb dL_law_1389 hl (k := 0) rfl (by rw [e50]; rfl) (by decide) rfl (fun ls hl => ?_)
            try have t50 : x50.toInt = i.toInt + 5 := tadd e50 rfl kp5 (by omega)
            refine lv_goto (tgt := 18) hx hb dL_law_1392 (by decide) ?_
            refine W.widen (k := 1000 + 10 * (k + 1)) (n := 200000 + 20100 * (k + 1)) (by omega) (by omega) ?_
            exact ih (k + 1) x50 (hv (hv J [42] [(21, 0), (21, 2)] u45.1) [100, 105, 106, 107] [(13, 34)] u49) L (hv I [1] [] u45.2.1) (hv P [1, 31] [] u45.2.2.1) (hv1 E [21] u45.2.2.2.1) u45.2.2.2.2.1 u45.2.2.2.2.2 H locs ls (by omega) (by omega) (by omega) hwf hwm hnow hrl hac hrel0 hW (lv_sub hl [0, 1, 2, 3] rfl)
          · refine lv_tableIn (off := 319) (tgt := 351) hx hb dL_law_32 (Int.not_lt.mpr c6) (Int.not_lt.mpr c6b) (by rw [c6k]; rfl) (by decide) ?_
            refine lv_aload_n hx hb dL_law_351 rfl (lv_at hl 2 rfl) ?_
            refine lv_aload_n hx hb dL_law_352 rfl (lv_at hl 1 rfl) ?_
            refine lv_iload_n hx hb dL_law_353 rfl (lv_at hl 0 rfl) ?_
            refine lv_iconst (v := 1) hx hb dL_law_354 (by decide) ?_
            refine lv_iadd hx hb dL_law_355 ?_
            refine lv_topi (fun x51 (e51 : x51 = i + 1) => ?_)
            try have t51 : x51.toInt = i.toInt + 1 := tadd e51 rfl kp1 (by omega)
            have hin : vp_in x51 Lx := tin rfl (by omega)
            refine va_sld hx hb hX hbl hbA hW.2.2.1 hin dL_law_356 ?_
            refine lv_topi (fun x52 (e52 : x52 = xs x51.toNatClampNeg) => ?_)
            refine lv_aload_n hx hb dL_law_357 rfl (lv_at hl 1 rfl) ?_
            refine lv_iload_n hx hb dL_law_358 rfl (lv_at hl 0 rfl) ?_
            refine lv_iconst (v := 2) hx hb dL_law_359 (by decide) ?_
            refine lv_iadd hx hb dL_law_360 ?_
            refine lv_topi (fun x53 (e53 : x53 = i + 2) => ?_)
            try have t53 : x53.toInt = i.toInt + 2 := tadd e53 rfl kp2 (by omega)
            have hin : vp_in x53 Lx := tin rfl (by omega)
            refine va_sld hx hb hX hbl hbA hW.2.2.1 hin dL_law_361 ?_
            refine lv_topi (fun x54 (e54 : x54 = xs x53.toNatClampNeg) => ?_)
            refine ci2_ C (WB_L hW) (runV (x := g.2.2.1 12) (As := [.int x52, .int x54]) (rest := []) (T := ((J, L, I, P, E, N), sgX g ++ dy)) C (WB_L hW) (c_X11_loud l g J L I P E N dy H.size x52 x54 hwf) mi_X11_loud tw_520 (recv_ (T := ((J, L, I, P, E, N), sgX g ++ dy)) C (WB_L hW) (mx_ rfl) rfl rfl) ⟨rfl, rfl, Nat.le_of_ble_eq_true rfl, Nat.le_of_ble_eq_true rfl⟩ rfl hl.1 rfl (Nat.le_of_ble_eq_true rfl) dL_law_362 ⟨by show 1000 + 10 * k + 0 ≤ 600000; omega, by show 200000 + 20100 * k + 0 ≤ 7302250; omega⟩) (fun r55 u55 H locs hp55 hB hk hS => ?_)
            have hW : WB g A s.heap H locs ((hv J [42] [] u55.1), L, (hv I [] [(6, 6), (6, 7)] u55.2), P, E, N) ((sgX g ++ dy) ++ sgM g) := joinL hW hB hk hS (frsub C (WB_L hW)) (okM hW (fun r h => hv_m (J := J) (R := [42]) (F := []) rfl rfl h) (fun r h => rfl))
            refine lv_pop hx hb dL_law_365 rfl ?_
            refine lv_aload_n hx hb dL_law_366 rfl (lv_at hl 3 rfl) ?_
            refine lv_aload_n hx hb dL_law_367 rfl (lv_at hl 1 rfl) ?_
            refine lv_iload_n hx hb dL_law_368 rfl (lv_at hl 0 rfl) ?_
            refine lv_iconst (v := 1) hx hb dL_law_369 (by decide) ?_
            refine lv_iadd hx hb dL_law_370 ?_
            refine lv_topi (fun x56 (e56 : x56 = i + 1) => ?_)
            try have t56 : x56.toInt = i.toInt + 1 := tadd e56 rfl kp1 (by omega)
            have hin : vp_in x56 Lx := tin rfl (by omega)
            refine va_sld hx hb hX hbl hbA hW.2.2.1 hin dL_law_371 ?_
            refine lv_as x52 (by rw [e52, e51, e56]) ?_
            refine lv_aload_n hx hb dL_law_372 rfl (lv_at hl 1 rfl) ?_
            refine lv_iload_n hx hb dL_law_373 rfl (lv_at hl 0 rfl) ?_
            refine lv_iconst (v := 2) hx hb dL_law_374 (by decide) ?_
            refine lv_iadd hx hb dL_law_375 ?_
            refine lv_topi (fun x57 (e57 : x57 = i + 2) => ?_)
            try have t57 : x57.toInt = i.toInt + 2 := tadd e57 rfl kp2 (by omega)
            have hin : vp_in x57 Lx := tin rfl (by omega)
            refine va_sld hx hb hX hbl hbA hW.2.2.1 hin dL_law_376 ?_
            refine lv_as x54 (by rw [e54, e53, e57]) ?_
            refine ci2_ C (WB_R hW) (runV (x := g.2.2.1 13) (As := [.int x52, .int x54]) (rest := []) (T := (((hv J [42] [] u55.1), L, (hv I [] [(6, 6), (6, 7)] u55.2), P, E, N), sgM g)) C (WB_R hW) (c_X12_loud l g (hv J [42] [] u55.1) L (hv I [] [(6, 6), (6, 7)] u55.2) P E N H.size x52 x54 hwm) mi_X12_loud tw_1273 (recv_ (T := (((hv J [42] [] u55.1), L, (hv I [] [(6, 6), (6, 7)] u55.2), P, E, N), sgM g)) C (WB_R hW) (mm_ rfl) rfl rfl) ⟨rfl, rfl, Nat.le_of_ble_eq_true rfl, Nat.le_of_ble_eq_true rfl⟩ rfl hl.1 rfl (Nat.le_of_ble_eq_true rfl) dL_law_377 ⟨by show 1000 + 10 * k + 0 + 0 ≤ 600000; omega, by show 200000 + 20100 * k + 0 + 0 ≤ 7302250; omega⟩) (fun r58 u58 H locs hp58 hB hk hS => ?_)
            have hW : WB g A s.heap H locs ((hv (hv J [42] [] u55.1) [100, 146] [] u58), L, (hv I [] [(6, 6), (6, 7)] u55.2), P, E, N) ((sgX g ++ dy) ++ sgM g) := joinR hW hB hk hS (frsub C (WB_R hW)) (fun x hx => cel_x (hv_x rfl rfl (notm hW x hx)))
            refine lv_pop hx hb dL_law_380 rfl ?_
            refine lv_goto (tgt := 1389) hx hb dL_law_381 (by decide) ?_
            obtain ⟨x59, e59⟩ : ∃ y : Int32, y = i + 5 := ⟨_, rfl⟩
            refine lv_iinc (v := x59) (lv' := [(3, .int x59), (0, .ref b), (1, .ref (g.2.2.1 12)), (2, .ref (g.2.2.1 13))]) hx hb dL_law_1389 hl (k := 0) rfl (by rw [e59]; rfl) (by decide) rfl (fun ls hl => ?_)
            try have t59 : x59.toInt = i.toInt + 5 := tadd e59 rfl kp5 (by omega)
            refine lv_goto (tgt := 18) hx hb dL_law_1392 (by decide) ?_
            refine W.widen (k := 1000 + 10 * (k + 1)) (n := 200000 + 20100 * (k + 1)) (by omega) (by omega) ?_
            exact ih (k + 1) x59 (hv (hv J [42] [] u55.1) [100, 146] [] u58) L (hv I [] [(6, 6), (6, 7)] u55.2) P E N dy H locs ls (by omega) (by omega) (by omega) hwf hwm hnow hrl hac hrel0 hW (lv_sub hl [0, 1, 2, 3] rfl)
          · refine lv_tableIn (off := 352) (tgt := 384) hx hb dL_law_32 (Int.not_lt.mpr c6) (Int.not_lt.mpr c6b) (by rw [c6k]; rfl) (by decide) ?_
            refine lv_aload_n hx hb dL_law_384 rfl (lv_at hl 2 rfl) ?_
            refine lv_aload_n hx hb dL_law_385 rfl (lv_at hl 1 rfl) ?_
            refine lv_iload_n hx hb dL_law_386 rfl (lv_at hl 0 rfl) ?_
            refine lv_iconst (v := 1) hx hb dL_law_387 (by decide) ?_
            refine lv_iadd hx hb dL_law_388 ?_
            refine lv_topi (fun x60 (e60 : x60 = i + 1) => ?_)
            try have t60 : x60.toInt = i.toInt + 1 := tadd e60 rfl kp1 (by omega)
            have hin : vp_in x60 Lx := tin rfl (by omega)
            refine va_sld hx hb hX hbl hbA hW.2.2.1 hin dL_law_389 ?_
            refine lv_topi (fun x61 (e61 : x61 = xs x60.toNatClampNeg) => ?_)
            refine lv_aload_n hx hb dL_law_390 rfl (lv_at hl 1 rfl) ?_
            refine lv_iload_n hx hb dL_law_391 rfl (lv_at hl 0 rfl) ?_
            refine lv_iconst (v := 2) hx hb dL_law_392 (by decide) ?_
            refine lv_iadd hx hb dL_law_393 ?_
            refine lv_topi (fun x62 (e62 : x62 = i + 2) => ?_)
            try have t62 : x62.toInt = i.toInt + 2 := tadd e62 rfl kp2 (by omega)
            have hin : vp_in x62 Lx := tin rfl (by omega)
            refine va_sld hx hb hX hbl hbA hW.2.2.1 hin dL_law_394 ?_
            refine lv_topi (fun x63 (e63 : x63 = xs x62.toNatClampNeg) => ?_)
            refine lv_aload_n hx hb dL_law_395 rfl (lv_at hl 1 rfl) ?_
            refine lv_iload_n hx hb dL_law_396 rfl (lv_at hl 0 rfl) ?_
            refine lv_iconst (v := 3) hx hb dL_law_397 (by decide) ?_
            refine lv_iadd hx hb dL_law_398 ?_
            refine lv_topi (fun x64 (e64 : x64 = i + 3) => ?_)
            try have t64 : x64.toInt = i.toInt + 3 := tadd e64 rfl kp3 (by omega)
            have hin : vp_in x64 Lx := tin rfl (by omega)
            refine va_sld hx hb hX hbl hbA hW.2.2.1 hin dL_law_399 ?_
            refine lv_topi (fun x65 (e65 : x65 = xs x64.toNatClampNeg) => ?_)
            refine lv_aload_n hx hb dL_law_400 rfl (lv_at hl 1 rfl) ?_
            refine lv_iload_n hx hb dL_law_401 rfl (lv_at hl 0 rfl) ?_
            refine lv_iconst (v := 4) hx hb dL_law_402 (by decide) ?_
            refine lv_iadd hx hb dL_law_403 ?_
            refine lv_topi (fun x66 (e66 : x66 = i + 4) => ?_)
            try have t66 : x66.toInt = i.toInt + 4 := tadd e66 rfl kp4 (by omega)
            have hin : vp_in x66 Lx := tin rfl (by omega)
            refine va_sld hx hb hX hbl hbA hW.2.2.1 hin dL_law_404 ?_
            refine lv_topi (fun x67 (e67 : x67 = xs x66.toNatClampNeg) => ?_)
            refine ci2_ C (WB_L hW) (runV (x := g.2.2.1 12) (As := [.int x61, .int x63, .int x65, .int x67]) (rest := []) (T := ((J, L, I, P, E, N), sgX g ++ dy)) C (WB_L hW) (c_X11_home_e l g J L I P E N dy H.size x61 x63 x65 x67 hwf) mi_X11_home tw_537 (recv_ (T := ((J, L, I, P, E, N), sgX g ++ dy)) C (WB_L hW) (mx_ rfl) rfl rfl) ⟨rfl, rfl, Nat.le_of_ble_eq_true rfl, Nat.le_of_ble_eq_true rfl⟩ rfl hl.1 rfl (Nat.le_of_ble_eq_true rfl) dL_law_405 ⟨by show 1000 + 10 * k + 10 ≤ 600000; omega, by show 200000 + 20100 * k + 20100 ≤ 7302250; omega⟩) (fun r68 u68 H locs hp68 hB hk hS => ?_)
            have hW : WB g A s.heap H locs ((hv J [42] [(22, 0), (22, 2)] u68.1), L, (hv I [2] [] u68.2.1), (hv P [2, 32] [] u68.2.2.1), (hv1 E [22] u68.2.2.2.1), u68.2.2.2.2.1) ((sgX g ++ u68.2.2.2.2.2) ++ sgM g) := joinL hW hB hk hS (frsub C (WB_L hW)) (okM hW (fun r h => hv_m (J := J) (R := [42]) (F := [(22, 0), (22, 2)]) rfl rfl h) (fun r h => rfl))
            obtain ⟨hc68, hwf, hdd68⟩ := hp68
            refine lv_pop hx hb dL_law_408 rfl ?_
            refine lv_aload_n hx hb dL_law_409 rfl (lv_at hl 3 rfl) ?_
            refine lv_aload_n hx hb dL_law_410 rfl (lv_at hl 1 rfl) ?_
            refine lv_iload_n hx hb dL_law_411 rfl (lv_at hl 0 rfl) ?_
            refine lv_iconst (v := 1) hx hb dL_law_412 (by decide) ?_
            refine lv_iadd hx hb dL_law_413 ?_
            refine lv_topi (fun x69 (e69 : x69 = i + 1) => ?_)
            try have t69 : x69.toInt = i.toInt + 1 := tadd e69 rfl kp1 (by omega)
            have hin : vp_in x69 Lx := tin rfl (by omega)
            refine va_sld hx hb hX hbl hbA hW.2.2.1 hin dL_law_414 ?_
            refine lv_as x61 (by rw [e61, e60, e69]) ?_
            refine lv_aload_n hx hb dL_law_415 rfl (lv_at hl 1 rfl) ?_
            refine lv_iload_n hx hb dL_law_416 rfl (lv_at hl 0 rfl) ?_
            refine lv_iconst (v := 2) hx hb dL_law_417 (by decide) ?_
            refine lv_iadd hx hb dL_law_418 ?_
            refine lv_topi (fun x70 (e70 : x70 = i + 2) => ?_)
            try have t70 : x70.toInt = i.toInt + 2 := tadd e70 rfl kp2 (by omega)
            have hin : vp_in x70 Lx := tin rfl (by omega)
            refine va_sld hx hb hX hbl hbA hW.2.2.1 hin dL_law_419 ?_
            refine lv_as x63 (by rw [e63, e62, e70]) ?_
            refine lv_aload_n hx hb dL_law_420 rfl (lv_at hl 1 rfl) ?_
            refine lv_iload_n hx hb dL_law_421 rfl (lv_at hl 0 rfl) ?_
            refine lv_iconst (v := 3) hx hb dL_law_422 (by decide) ?_
            refine lv_iadd hx hb dL_law_423 ?_
            refine lv_topi (fun x71 (e71 : x71 = i + 3) => ?_)
            try have t71 : x71.toInt = i.toInt + 3 := tadd e71 rfl kp3 (by omega)
            have hin : vp_in x71 Lx := tin rfl (by omega)
            refine va_sld hx hb hX hbl hbA hW.2.2.1 hin dL_law_424 ?_
            refine lv_as x65 (by rw [e65, e64, e71]) ?_
            refine lv_aload_n hx hb dL_law_425 rfl (lv_at hl 1 rfl) ?_
            refine lv_iload_n hx hb dL_law_426 rfl (lv_at hl 0 rfl) ?_
            refine lv_iconst (v := 4) hx hb dL_law_427 (by decide) ?_
            refine lv_iadd hx hb dL_law_428 ?_
            refine lv_topi (fun x72 (e72 : x72 = i + 4) => ?_)
            try have t72 : x72.toInt = i.toInt + 4 := tadd e72 rfl kp4 (by omega)
            have hin : vp_in x72 Lx := tin rfl (by omega)
            refine va_sld hx hb hX hbl hbA hW.2.2.1 hin dL_law_429 ?_
            refine lv_as x67 (by rw [e67, e66, e72]) ?_
            refine ci2_ C (WB_R hW) (runV (x := g.2.2.1 13) (As := [.int x61, .int x63, .int x65, .int x67]) (rest := []) (T := (((hv J [42] [(22, 0), (22, 2)] u68.1), L, (hv I [2] [] u68.2.1), (hv P [2, 32] [] u68.2.2.1), (hv1 E [22] u68.2.2.2.1), u68.2.2.2.2.1), sgM g)) C (WB_R hW) (c_X12_home l g (hv J [42] [(22, 0), (22, 2)] u68.1) L (hv I [2] [] u68.2.1) (hv P [2, 32] [] u68.2.2.1) (hv1 E [22] u68.2.2.2.1) u68.2.2.2.2.1 H.size x61 x63 x65 x67 hwm) mi_X12_home tw_1285 (recv_ (T := (((hv J [42] [(22, 0), (22, 2)] u68.1), L, (hv I [2] [] u68.2.1), (hv P [2, 32] [] u68.2.2.1), (hv1 E [22] u68.2.2.2.1), u68.2.2.2.2.1), sgM g)) C (WB_R hW) (mm_ rfl) rfl rfl) ⟨rfl, rfl, Nat.le_of_ble_eq_true rfl, Nat.le_of_ble_eq_true rfl⟩ rfl hl.1 rfl (Nat.le_of_ble_eq_true rfl) dL_law_430 ⟨by show 1000 + 10 * k + 10 + 0 ≤ 600000; omega, by show 200000 + 20100 * k + 20100 + 0 ≤ 7302250; omega⟩) (fun r73 u73 H locs hp73 hB hk hS => ?_)
            have hW : WB g A s.heap H locs ((hv (hv J [42] [(22, 0), (22, 2)] u68.1) [100, 108, 109, 110, 111] [(13, 35), (13, 49)] u73), L, (hv I [2] [] u68.2.1), (hv P [2, 32] [] u68.2.2.1), (hv1 E [22] u68.2.2.2.1), u68.2.2.2.2.1) ((sgX g ++ u68.2.2.2.2.2) ++ sgM g) := joinR hW hB hk hS (frsub C (WB_R hW)) (fun x hx => cel_x (hv_x rfl rfl (notm hW x hx)))
            obtain ⟨hwm, hc73⟩ : WM (hv (hv J [42] [(22, 0), (22, 2)] u68.1) [100, 108, 109, 110, 111] [(13, 35), (13, 49)] u73) ∧ ((r73.toInt = (-1) ∧ (¬ (0 ≤ x61.toInt ∧ x61.toInt < (J 13 32).toInt)) ∧ u73 13 35 = J 13 35) ∨ (r73.toInt = (-4) ∧ (0 ≤ x61.toInt ∧ x61.toInt < (J 13 32).toInt ∧ (x63.toInt < 1 ∨ x65.toInt < 0 ∨ x67.toInt < 0)) ∧ u73 13 35 = J 13 35) ∨ (r73.toInt = (-6) ∧ (0 ≤ x61.toInt ∧ x61.toInt < (J 13 32).toInt ∧ 1 ≤ x63.toInt ∧ 0 ≤ x65.toInt ∧ 0 ≤ x67.toInt ∧ (9 < x63.toInt ∨ 16777215 < x65.toInt ∨ 16777215 < x67.toInt ∨ (J 13 35).toInt = 40)) ∧ u73 13 35 = J 13 35) ∨ (r73.toInt = (J 13 35).toInt ∧ (0 ≤ x61.toInt ∧ x61.toInt < (J 13 32).toInt ∧ 1 ≤ x63.toInt ∧ 0 ≤ x65.toInt ∧ 0 ≤ x67.toInt ∧ x63.toInt ≤ 9 ∧ x65.toInt ≤ 16777215 ∧ x67.toInt ≤ 16777215 ∧ (J 13 35).toInt ≤ 39) ∧ (u73 13 35).toInt = (J 13 35).toInt + 1)) := hp73
            refine lv_pop hx hb dL_law_433 rfl ?_
            refine lv_goto (tgt := 1389) hx hb dL_law_434 (by decide) ?_
            obtain ⟨x74, e74⟩ : ∃ y : Int32, y = i + 5 := ⟨_, rfl⟩
            refine lv_iinc (v := x74) (lv' := [(3, .int x74), (0, .ref b), (1, .ref (g.2.2.1 12)), (2, .ref (g.2.2.1 13))]) hx hb dL_law_1389 hl (k := 0) rfl (by rw [e74]; rfl) (by decide) rfl (fun ls hl => ?_)
            try have t74 : x74.toInt = i.toInt + 5 := tadd e74 rfl kp5 (by omega)
            refine lv_goto (tgt := 18) hx hb dL_law_1392 (by decide) ?_
            refine W.widen (k := 1000 + 10 * (k + 1)) (n := 200000 + 20100 * (k + 1)) (by omega) (by omega) ?_
            exact ih (k + 1) x74 (hv (hv J [42] [(22, 0), (22, 2)] u68.1) [100, 108, 109, 110, 111] [(13, 35), (13, 49)] u73) L (hv I [2] [] u68.2.1) (hv P [2, 32] [] u68.2.2.1) (hv1 E [22] u68.2.2.2.1) u68.2.2.2.2.1 u68.2.2.2.2.2 H locs ls (by omega) (by omega) (by omega) hwf hwm hnow hrl hac hrel0 hW (lv_sub hl [0, 1, 2, 3] rfl)
          · refine lv_tableIn (off := 405) (tgt := 437) hx hb dL_law_32 (Int.not_lt.mpr c6) (Int.not_lt.mpr c6b) (by rw [c6k]; rfl) (by decide) ?_
            refine lv_aload_n hx hb dL_law_437 rfl (lv_at hl 2 rfl) ?_
            refine lv_aload_n hx hb dL_law_438 rfl (lv_at hl 1 rfl) ?_
            refine lv_iload_n hx hb dL_law_439 rfl (lv_at hl 0 rfl) ?_
            refine lv_iconst (v := 1) hx hb dL_law_440 (by decide) ?_
            refine lv_iadd hx hb dL_law_441 ?_
            refine lv_topi (fun x75 (e75 : x75 = i + 1) => ?_)
            try have t75 : x75.toInt = i.toInt + 1 := tadd e75 rfl kp1 (by omega)
            have hin : vp_in x75 Lx := tin rfl (by omega)
            refine va_sld hx hb hX hbl hbA hW.2.2.1 hin dL_law_442 ?_
            refine lv_topi (fun x76 (e76 : x76 = xs x75.toNatClampNeg) => ?_)
            refine ci2_ C (WB_L hW) (runV (x := g.2.2.1 12) (As := [.int x76]) (rest := []) (T := ((J, L, I, P, E, N), sgX g ++ dy)) C (WB_L hW) (c_X11_least l g J L I P E N dy H.size x76 hwf) mi_X11_least tw_568 (recv_ (T := ((J, L, I, P, E, N), sgX g ++ dy)) C (WB_L hW) (mx_ rfl) rfl rfl) ⟨rfl, rfl, Nat.le_of_ble_eq_true rfl, Nat.le_of_ble_eq_true rfl⟩ rfl hl.1 rfl (Nat.le_of_ble_eq_true rfl) dL_law_443 ⟨by show 1000 + 10 * k + 0 ≤ 600000; omega, by show 200000 + 20100 * k + 0 ≤ 7302250; omega⟩) (fun r77 u77 H locs hp77 hB hk hS => ?_)
            have hW : WB g A s.heap H locs ((hv J [42] [(4, 5)] u77), L, I, P, E, N) ((sgX g ++ dy) ++ sgM g) := joinL hW hB hk hS (frsub C (WB_L hW)) (okM hW (fun r h => hv_m (J := J) (R := [42]) (F := [(4, 5)]) rfl rfl h) (fun r h => rfl))
            have hc77 : ((r77.toInt = (-4) ∧ (x76.toInt < 1) ∧ u77 4 5 = J 4 5) ∨ (r77.toInt = (-6) ∧ (99 < x76.toInt) ∧ u77 4 5 = J 4 5) ∨ (r77 = J 4 5 ∧ (1 ≤ x76.toInt ∧ x76.toInt ≤ 99) ∧ u77 4 5 = x76)) := hp77
            refine lv_pop hx hb dL_law_446 rfl ?_
            refine lv_aload_n hx hb dL_law_447 rfl (lv_at hl 3 rfl) ?_
            refine lv_aload_n hx hb dL_law_448 rfl (lv_at hl 1 rfl) ?_
            refine lv_iload_n hx hb dL_law_449 rfl (lv_at hl 0 rfl) ?_
            refine lv_iconst (v := 1) hx hb dL_law_450 (by decide) ?_
            refine lv_iadd hx hb dL_law_451 ?_
            refine lv_topi (fun x78 (e78 : x78 = i + 1) => ?_)
            try have t78 : x78.toInt = i.toInt + 1 := tadd e78 rfl kp1 (by omega)
            have hin : vp_in x78 Lx := tin rfl (by omega)
            refine va_sld hx hb hX hbl hbA hW.2.2.1 hin dL_law_452 ?_
            refine lv_as x76 (by rw [e76, e75, e78]) ?_
            refine ci2_ C (WB_R hW) (runV (x := g.2.2.1 13) (As := [.int x76]) (rest := []) (T := (((hv J [42] [(4, 5)] u77), L, I, P, E, N), sgM g)) C (WB_R hW) (c_X12_least l g (hv J [42] [(4, 5)] u77) L I P E N H.size x76 hwm) mi_X12_least tw_1290 (recv_ (T := (((hv J [42] [(4, 5)] u77), L, I, P, E, N), sgM g)) C (WB_R hW) (mm_ rfl) rfl rfl) ⟨rfl, rfl, Nat.le_of_ble_eq_true rfl, Nat.le_of_ble_eq_true rfl⟩ rfl hl.1 rfl (Nat.le_of_ble_eq_true rfl) dL_law_453 ⟨by show 1000 + 10 * k + 0 + 0 ≤ 600000; omega, by show 200000 + 20100 * k + 0 + 0 ≤ 7302250; omega⟩) (fun r79 u79 H locs hp79 hB hk hS => ?_)
            have hW : WB g A s.heap H locs ((hv (hv J [42] [(4, 5)] u77) [100] [(13, 36), (13, 49)] u79), L, I, P, E, N) ((sgX g ++ dy) ++ sgM g) := joinR hW hB hk hS (frsub C (WB_R hW)) (fun x hx => cel_x (hv_x rfl rfl (notm hW x hx)))
            refine lv_pop hx hb dL_law_456 rfl ?_
            refine lv_goto (tgt := 1389) hx hb dL_law_457 (by decide) ?_
            obtain ⟨x80, e80⟩ : ∃ y : Int32, y = i + 5 := ⟨_, rfl⟩
            refine lv_iinc (v := x80) (lv' := [(3, .int x80), (0, .ref b), (1, .ref (g.2.2.1 12)), (2, .ref (g.2.2.1 13))]) hx hb dL_law_1389 hl (k := 0) rfl (by rw [e80]; rfl) (by decide) rfl (fun ls hl => ?_)
            try have t80 : x80.toInt = i.toInt + 5 := tadd e80 rfl kp5 (by omega)
            refine lv_goto (tgt := 18) hx hb dL_law_1392 (by decide) ?_
            refine W.widen (k := 1000 + 10 * (k + 1)) (n := 200000 + 20100 * (k + 1)) (by omega) (by omega) ?_
            exact ih (k + 1) x80 (hv (hv J [42] [(4, 5)] u77) [100] [(13, 36), (13, 49)] u79) L I P E N dy H locs ls (by omega) (by omega) (by omega) hwf hwm hnow hrl hac hrel0 hW (lv_sub hl [0, 1, 2, 3] rfl)
          · refine lv_tableIn (off := 428) (tgt := 460) hx hb dL_law_32 (Int.not_lt.mpr c6) (Int.not_lt.mpr c6b) (by rw [c6k]; rfl) (by decide) ?_
            refine lv_aload_n hx hb dL_law_460 rfl (lv_at hl 2 rfl) ?_
            refine lv_aload_n hx hb dL_law_461 rfl (lv_at hl 1 rfl) ?_
            refine lv_iload_n hx hb dL_law_462 rfl (lv_at hl 0 rfl) ?_
            refine lv_iconst (v := 1) hx hb dL_law_463 (by decide) ?_
            refine lv_iadd hx hb dL_law_464 ?_
            refine lv_topi (fun x81 (e81 : x81 = i + 1) => ?_)
            try have t81 : x81.toInt = i.toInt + 1 := tadd e81 rfl kp1 (by omega)
            have hin : vp_in x81 Lx := tin rfl (by omega)
            refine va_sld hx hb hX hbl hbA hW.2.2.1 hin dL_law_465 ?_
            refine lv_topi (fun x82 (e82 : x82 = xs x81.toNatClampNeg) => ?_)
            refine lv_aload_n hx hb dL_law_466 rfl (lv_at hl 1 rfl) ?_
            refine lv_iload_n hx hb dL_law_467 rfl (lv_at hl 0 rfl) ?_
            refine lv_iconst (v := 2) hx hb dL_law_468 (by decide) ?_
            refine lv_iadd hx hb dL_law_469 ?_
            refine lv_topi (fun x83 (e83 : x83 = i + 2) => ?_)
            try have t83 : x83.toInt = i.toInt + 2 := tadd e83 rfl kp2 (by omega)
            have hin : vp_in x83 Lx := tin rfl (by omega)
            refine va_sld hx hb hX hbl hbA hW.2.2.1 hin dL_law_470 ?_
            refine lv_topi (fun x84 (e84 : x84 = xs x83.toNatClampNeg) => ?_)
            refine ci2_ C (WB_L hW) (runV (x := g.2.2.1 12) (As := [.int x82, .int x84]) (rest := []) (T := ((J, L, I, P, E, N), sgX g ++ dy)) C (WB_L hW) (c_X11_hears l g J L I P E N dy H.size x82 x84 hwf) mi_X11_hears tw_572 (recv_ (T := ((J, L, I, P, E, N), sgX g ++ dy)) C (WB_L hW) (mx_ rfl) rfl rfl) ⟨rfl, rfl, Nat.le_of_ble_eq_true rfl, Nat.le_of_ble_eq_true rfl⟩ rfl hl.1 rfl (Nat.le_of_ble_eq_true rfl) dL_law_471 ⟨by show 1000 + 10 * k + 0 ≤ 600000; omega, by show 200000 + 20100 * k + 0 ≤ 7302250; omega⟩) (fun r85 u85 H locs hp85 hB hk hS => ?_)
            have hW : WB g A s.heap H locs ((hv J [42] [] u85.1), L, (hv I [] [(6, 6), (6, 7)] u85.2), P, E, N) ((sgX g ++ dy) ++ sgM g) := joinL hW hB hk hS (frsub C (WB_L hW)) (okM hW (fun r h => hv_m (J := J) (R := [42]) (F := []) rfl rfl h) (fun r h => rfl))
            refine lv_pop hx hb dL_law_474 rfl ?_
            refine lv_aload_n hx hb dL_law_475 rfl (lv_at hl 3 rfl) ?_
            refine lv_aload_n hx hb dL_law_476 rfl (lv_at hl 1 rfl) ?_
            refine lv_iload_n hx hb dL_law_477 rfl (lv_at hl 0 rfl) ?_
            refine lv_iconst (v := 1) hx hb dL_law_478 (by decide) ?_
            refine lv_iadd hx hb dL_law_479 ?_
            refine lv_topi (fun x86 (e86 : x86 = i + 1) => ?_)
            try have t86 : x86.toInt = i.toInt + 1 := tadd e86 rfl kp1 (by omega)
            have hin : vp_in x86 Lx := tin rfl (by omega)
            refine va_sld hx hb hX hbl hbA hW.2.2.1 hin dL_law_480 ?_
            refine lv_as x82 (by rw [e82, e81, e86]) ?_
            refine lv_aload_n hx hb dL_law_481 rfl (lv_at hl 1 rfl) ?_
            refine lv_iload_n hx hb dL_law_482 rfl (lv_at hl 0 rfl) ?_
            refine lv_iconst (v := 2) hx hb dL_law_483 (by decide) ?_
            refine lv_iadd hx hb dL_law_484 ?_
            refine lv_topi (fun x87 (e87 : x87 = i + 2) => ?_)
            try have t87 : x87.toInt = i.toInt + 2 := tadd e87 rfl kp2 (by omega)
            have hin : vp_in x87 Lx := tin rfl (by omega)
            refine va_sld hx hb hX hbl hbA hW.2.2.1 hin dL_law_485 ?_
            refine lv_as x84 (by rw [e84, e83, e87]) ?_
            refine ci2_ C (WB_R hW) (runV (x := g.2.2.1 13) (As := [.int x82, .int x84]) (rest := []) (T := (((hv J [42] [] u85.1), L, (hv I [] [(6, 6), (6, 7)] u85.2), P, E, N), sgM g)) C (WB_R hW) (c_X12_hears l g (hv J [42] [] u85.1) L (hv I [] [(6, 6), (6, 7)] u85.2) P E N H.size x82 x84 hwm) mi_X12_hears tw_1294 (recv_ (T := (((hv J [42] [] u85.1), L, (hv I [] [(6, 6), (6, 7)] u85.2), P, E, N), sgM g)) C (WB_R hW) (mm_ rfl) rfl rfl) ⟨rfl, rfl, Nat.le_of_ble_eq_true rfl, Nat.le_of_ble_eq_true rfl⟩ rfl hl.1 rfl (Nat.le_of_ble_eq_true rfl) dL_law_486 ⟨by show 1000 + 10 * k + 0 + 0 ≤ 600000; omega, by show 200000 + 20100 * k + 0 + 0 ≤ 7302250; omega⟩) (fun r88 u88 H locs hp88 hB hk hS => ?_)
            have hW : WB g A s.heap H locs ((hv (hv J [42] [] u85.1) [100, 146] [] u88), L, (hv I [] [(6, 6), (6, 7)] u85.2), P, E, N) ((sgX g ++ dy) ++ sgM g) := joinR hW hB hk hS (frsub C (WB_R hW)) (fun x hx => cel_x (hv_x rfl rfl (notm hW x hx)))
            refine lv_pop hx hb dL_law_489 rfl ?_
            refine lv_goto (tgt := 1389) hx hb dL_law_490 (by decide) ?_
            obtain ⟨x89, e89⟩ : ∃ y : Int32, y = i + 5 := ⟨_, rfl⟩
            refine lv_iinc (v := x89) (lv' := [(3, .int x89), (0, .ref b), (1, .ref (g.2.2.1 12)), (2, .ref (g.2.2.1 13))]) hx hb dL_law_1389 hl (k := 0) rfl (by rw [e89]; rfl) (by decide) rfl (fun ls hl => ?_)
            try have t89 : x89.toInt = i.toInt + 5 := tadd e89 rfl kp5 (by omega)
            refine lv_goto (tgt := 18) hx hb dL_law_1392 (by decide) ?_
            refine W.widen (k := 1000 + 10 * (k + 1)) (n := 200000 + 20100 * (k + 1)) (by omega) (by omega) ?_
            exact ih (k + 1) x89 (hv (hv J [42] [] u85.1) [100, 146] [] u88) L (hv I [] [(6, 6), (6, 7)] u85.2) P E N dy H locs ls (by omega) (by omega) (by omega) hwf hwm hnow hrl hac hrel0 hW (lv_sub hl [0, 1, 2, 3] rfl)
          · refine lv_tableIn (off := 461) (tgt := 493) hx hb dL_law_32 (Int.not_lt.mpr c6) (Int.not_lt.mpr c6b) (by rw [c6k]; rfl) (by decide) ?_
            refine lv_aload_n hx hb dL_law_493 rfl (lv_at hl 2 rfl) ?_
            refine lv_aload_n hx hb dL_law_494 rfl (lv_at hl 1 rfl) ?_
            refine lv_iload_n hx hb dL_law_495 rfl (lv_at hl 0 rfl) ?_
            refine lv_iconst (v := 1) hx hb dL_law_496 (by decide) ?_
            refine lv_iadd hx hb dL_law_497 ?_
            refine lv_topi (fun x90 (e90 : x90 = i + 1) => ?_)
            try have t90 : x90.toInt = i.toInt + 1 := tadd e90 rfl kp1 (by omega)
            have hin : vp_in x90 Lx := tin rfl (by omega)
            refine va_sld hx hb hX hbl hbA hW.2.2.1 hin dL_law_498 ?_
            refine lv_topi (fun x91 (e91 : x91 = xs x90.toNatClampNeg) => ?_)
            refine ci2_ C (WB_L hW) (runV (x := g.2.2.1 12) (As := [.int x91]) (rest := []) (T := ((J, L, I, P, E, N), sgX g ++ dy)) C (WB_L hW) (c_X11_reader l g J L I P E N dy H.size x91 hwf) mi_X11_reader tw_585 (recv_ (T := ((J, L, I, P, E, N), sgX g ++ dy)) C (WB_L hW) (mx_ rfl) rfl rfl) ⟨rfl, rfl, Nat.le_of_ble_eq_true rfl, Nat.le_of_ble_eq_true rfl⟩ rfl hl.1 rfl (Nat.le_of_ble_eq_true rfl) dL_law_499 ⟨by show 1000 + 10 * k + 10 ≤ 600000; omega, by show 200000 + 20100 * k + 20100 ≤ 7302250; omega⟩) (fun r92 u92 H locs hp92 hB hk hS => ?_)
            have hW : WB g A s.heap H locs ((hv J [42] [(24, 0), (24, 2)] u92.1), L, (hv I [7] [] u92.2.1), (hv P [7, 34] [] u92.2.2.1), (hv1 E [24] u92.2.2.2.1), u92.2.2.2.2.1) ((sgX g ++ u92.2.2.2.2.2) ++ sgM g) := joinL hW hB hk hS (frsub C (WB_L hW)) (okM hW (fun r h => hv_m (J := J) (R := [42]) (F := [(24, 0), (24, 2)]) rfl rfl h) (fun r h => rfl))
            obtain ⟨hc92, hwf, hdd92⟩ := hp92
            refine lv_aload_n hx hb dL_law_502 rfl (lv_at hl 3 rfl) ?_
            refine lv_aload_n hx hb dL_law_503 rfl (lv_at hl 1 rfl) ?_
            refine lv_iload_n hx hb dL_law_504 rfl (lv_at hl 0 rfl) ?_
            refine lv_iconst (v := 1) hx hb dL_law_505 (by decide) ?_
            refine lv_iadd hx hb dL_law_506 ?_
            refine lv_topi (fun x93 (e93 : x93 = i + 1) => ?_)
            try have t93 : x93.toInt = i.toInt + 1 := tadd e93 rfl kp1 (by omega)
            have hin : vp_in x93 Lx := tin rfl (by omega)
            refine va_sld hx hb hX hbl hbA hW.2.2.1 hin dL_law_507 ?_
            refine lv_as x91 (by rw [e91, e90, e93]) ?_
            refine ci2_ C (WB_R hW) (runV (x := g.2.2.1 13) (As := [.int x91]) (rest := [.int r92]) (T := (((hv J [42] [(24, 0), (24, 2)] u92.1), L, (hv I [7] [] u92.2.1), (hv P [7, 34] [] u92.2.2.1), (hv1 E [24] u92.2.2.2.1), u92.2.2.2.2.1), sgM g)) C (WB_R hW) (c_X12_reader l g (hv J [42] [(24, 0), (24, 2)] u92.1) L (hv I [7] [] u92.2.1) (hv P [7, 34] [] u92.2.2.1) (hv1 E [24] u92.2.2.2.1) u92.2.2.2.2.1 H.size x91 hwm) mi_X12_reader tw_1306 (recv_ (T := (((hv J [42] [(24, 0), (24, 2)] u92.1), L, (hv I [7] [] u92.2.1), (hv P [7, 34] [] u92.2.2.1), (hv1 E [24] u92.2.2.2.1), u92.2.2.2.2.1), sgM g)) C (WB_R hW) (mm_ rfl) rfl rfl) ⟨rfl, rfl, Nat.le_of_ble_eq_true rfl, Nat.le_of_ble_eq_true rfl⟩ rfl hl.1 rfl (Nat.le_of_ble_eq_true rfl) dL_law_508 ⟨by show 1000 + 10 * k + 10 + 0 ≤ 600000; omega, by show 200000 + 20100 * k + 20100 + 0 ≤ 7302250; omega⟩) (fun r94 u94 H locs hp94 hB hk hS => ?_)
            have hW : WB g A s.heap H locs ((hv (hv J [42] [(24, 0), (24, 2)] u92.1) [100, 113, 114] [(13, 37)] u94), L, (hv I [7] [] u92.2.1), (hv P [7, 34] [] u92.2.2.1), (hv1 E [24] u92.2.2.2.1), u92.2.2.2.2.1) ((sgX g ++ u92.2.2.2.2.2) ++ sgM g) := joinR hW hB hk hS (frsub C (WB_R hW)) (fun x hx => cel_x (hv_x rfl rfl (notm hW x hx)))
            obtain ⟨hwm, hc94⟩ : WM (hv (hv J [42] [(24, 0), (24, 2)] u92.1) [100, 113, 114] [(13, 37)] u94) ∧ ((r94.toInt = (-4) ∧ (x91.toInt < 1) ∧ u94 13 37 = J 13 37) ∨ (r94.toInt = (-6) ∧ (1 ≤ x91.toInt ∧ (999 < x91.toInt ∨ (J 13 37).toInt = 8)) ∧ u94 13 37 = J 13 37) ∨ (r94.toInt = (J 13 37).toInt ∧ (1 ≤ x91.toInt ∧ x91.toInt ≤ 999 ∧ (J 13 37).toInt ≤ 7) ∧ (u94 13 37).toInt = (J 13 37).toInt + 1)) := hp94
            refine lv_icmp_eq (tgt := 1389) hx hb dL_law_511 (by decide) (fun c95 => ?_) (fun c95 => ?_)
            · have c95 : r92.toInt = r94.toInt := teq rfl rfl c95
              obtain ⟨x96, e96⟩ : ∃ y : Int32, y = i + 5 := ⟨_, rfl⟩
              refine lv_iinc (v := x96) (lv' := [(3, .int x96), (0, .ref b), (1, .ref (g.2.2.1 12)), (2, .ref (g.2.2.1 13))]) hx hb dL_law_1389 hl (k := 0) rfl (by rw [e96]; rfl) (by decide) rfl (fun ls hl => ?_)
              try have t96 : x96.toInt = i.toInt + 5 := tadd e96 rfl kp5 (by omega)
              refine lv_goto (tgt := 18) hx hb dL_law_1392 (by decide) ?_
              refine W.widen (k := 1000 + 10 * (k + 1)) (n := 200000 + 20100 * (k + 1)) (by omega) (by omega) ?_
              have hnew0 : ((hv (hv J [42] [(24, 0), (24, 2)] u92.1) [100, 113, 114] [(13, 37)] u94) 24 2).toInt = ((hv (hv J [42] [(24, 0), (24, 2)] u92.1) [100, 113, 114] [(13, 37)] u94) 13 37).toInt := by
                show (u92.1 24 2).toInt = (u94 13 37).toInt
                rcases hc92 with ⟨qAa, qAb, qAx0⟩ | ⟨qAa, qAb, qAx0⟩ | ⟨qAa, qAb, qAx0⟩ <;> rcases hc94 with ⟨qBa, qBb, qBx0⟩ | ⟨qBa, qBb, qBx0⟩ | ⟨qBa, qBb, qBx0⟩ <;> first | (exfalso; omega) | exact qAx0.trans (hrel0.trans qBx0.symm) | exact qAx0.trans qBx0.symm | (rw [qAx0, qBx0]; exact hrel0) | omega
              exact ih (k + 1) x96 (hv (hv J [42] [(24, 0), (24, 2)] u92.1) [100, 113, 114] [(13, 37)] u94) L (hv I [7] [] u92.2.1) (hv P [7, 34] [] u92.2.2.1) (hv1 E [24] u92.2.2.2.1) u92.2.2.2.2.1 u92.2.2.2.2.2 H locs ls (by omega) (by omega) (by omega) hwf hwm hnow hrl hac hnew0 hW (lv_sub hl [0, 1, 2, 3] rfl)
            · have c95 : ¬ r92.toInt = r94.toInt := tne rfl rfl c95
              exfalso; rcases hc92 with ⟨qAa, qAb, qAx0⟩ | ⟨qAa, qAb, qAx0⟩ | ⟨qAa, qAb, qAx0⟩ <;> rcases hc94 with ⟨qBa, qBb, qBx0⟩ | ⟨qBa, qBb, qBx0⟩ | ⟨qBa, qBb, qBx0⟩ <;> first | omega | (have hq9 : r92.toInt = r94.toInt := (by simp only [qAa, qBa, hrel0]); omega)
          · refine lv_tableIn (off := 484) (tgt := 516) hx hb dL_law_32 (Int.not_lt.mpr c6) (Int.not_lt.mpr c6b) (by rw [c6k]; rfl) (by decide) ?_
            refine lv_aload_n hx hb dL_law_516 rfl (lv_at hl 2 rfl) ?_
            refine lv_aload_n hx hb dL_law_517 rfl (lv_at hl 1 rfl) ?_
            refine lv_iload_n hx hb dL_law_518 rfl (lv_at hl 0 rfl) ?_
            refine lv_iconst (v := 1) hx hb dL_law_519 (by decide) ?_
            refine lv_iadd hx hb dL_law_520 ?_
            refine lv_topi (fun x97 (e97 : x97 = i + 1) => ?_)
            try have t97 : x97.toInt = i.toInt + 1 := tadd e97 rfl kp1 (by omega)
            have hin : vp_in x97 Lx := tin rfl (by omega)
            refine va_sld hx hb hX hbl hbA hW.2.2.1 hin dL_law_521 ?_
            refine lv_topi (fun x98 (e98 : x98 = xs x97.toNatClampNeg) => ?_)
            refine lv_aload_n hx hb dL_law_522 rfl (lv_at hl 1 rfl) ?_
            refine lv_iload_n hx hb dL_law_523 rfl (lv_at hl 0 rfl) ?_
            refine lv_iconst (v := 2) hx hb dL_law_524 (by decide) ?_
            refine lv_iadd hx hb dL_law_525 ?_
            refine lv_topi (fun x99 (e99 : x99 = i + 2) => ?_)
            try have t99 : x99.toInt = i.toInt + 2 := tadd e99 rfl kp2 (by omega)
            have hin : vp_in x99 Lx := tin rfl (by omega)
            refine va_sld hx hb hX hbl hbA hW.2.2.1 hin dL_law_526 ?_
            refine lv_topi (fun x100 (e100 : x100 = xs x99.toNatClampNeg) => ?_)
            refine ci2_ C (WB_L hW) (runV (x := g.2.2.1 12) (As := [.int x98, .int x100]) (rest := []) (T := ((J, L, I, P, E, N), sgX g ++ dy)) C (WB_L hW) (c_X11_rests l g J L I P E N dy H.size x98 x100 hwf) mi_X11_rests tw_606 (recv_ (T := ((J, L, I, P, E, N), sgX g ++ dy)) C (WB_L hW) (mx_ rfl) rfl rfl) ⟨rfl, rfl, Nat.le_of_ble_eq_true rfl, Nat.le_of_ble_eq_true rfl⟩ rfl hl.1 rfl (Nat.le_of_ble_eq_true rfl) dL_law_527 ⟨by show 1000 + 10 * k + 0 ≤ 600000; omega, by show 200000 + 20100 * k + 0 ≤ 7302250; omega⟩) (fun r101 u101 H locs hp101 hB hk hS => ?_)
            have hW : WB g A s.heap H locs ((hv J [42] [(12, 12), (12, 13)] u101), L, I, P, E, N) ((sgX g ++ dy) ++ sgM g) := joinL hW hB hk hS (frsub C (WB_L hW)) (okM hW (fun r h => hv_m (J := J) (R := [42]) (F := [(12, 12), (12, 13)]) rfl rfl h) (fun r h => rfl))
            have hc101 : ((r101.toInt = (-4) ∧ (x98.toInt < 1 ∨ x100.toInt < 0) ∧ u101 12 12 = J 12 12 ∧ u101 12 13 = J 12 13) ∨ (r101.toInt = (-6) ∧ (1 ≤ x98.toInt ∧ 0 ≤ x100.toInt ∧ (240 < x98.toInt ∨ 240 < x100.toInt)) ∧ u101 12 12 = J 12 12 ∧ u101 12 13 = J 12 13) ∨ (r101 = 1000 * J 12 12 + J 12 13 ∧ (1 ≤ x98.toInt ∧ 0 ≤ x100.toInt ∧ x98.toInt ≤ 240 ∧ x100.toInt ≤ 240) ∧ u101 12 12 = x98 ∧ u101 12 13 = x100)) := hp101
            refine lv_pop hx hb dL_law_530 rfl ?_
            refine lv_aload_n hx hb dL_law_531 rfl (lv_at hl 3 rfl) ?_
            refine lv_aload_n hx hb dL_law_532 rfl (lv_at hl 1 rfl) ?_
            refine lv_iload_n hx hb dL_law_533 rfl (lv_at hl 0 rfl) ?_
            refine lv_iconst (v := 1) hx hb dL_law_534 (by decide) ?_
            refine lv_iadd hx hb dL_law_535 ?_
            refine lv_topi (fun x102 (e102 : x102 = i + 1) => ?_)
            try have t102 : x102.toInt = i.toInt + 1 := tadd e102 rfl kp1 (by omega)
            have hin : vp_in x102 Lx := tin rfl (by omega)
            refine va_sld hx hb hX hbl hbA hW.2.2.1 hin dL_law_536 ?_
            refine lv_as x98 (by rw [e98, e97, e102]) ?_
            refine lv_aload_n hx hb dL_law_537 rfl (lv_at hl 1 rfl) ?_
            refine lv_iload_n hx hb dL_law_538 rfl (lv_at hl 0 rfl) ?_
            refine lv_iconst (v := 2) hx hb dL_law_539 (by decide) ?_
            refine lv_iadd hx hb dL_law_540 ?_
            refine lv_topi (fun x103 (e103 : x103 = i + 2) => ?_)
            try have t103 : x103.toInt = i.toInt + 2 := tadd e103 rfl kp2 (by omega)
            have hin : vp_in x103 Lx := tin rfl (by omega)
            refine va_sld hx hb hX hbl hbA hW.2.2.1 hin dL_law_541 ?_
            refine lv_as x100 (by rw [e100, e99, e103]) ?_
            refine ci2_ C (WB_R hW) (runV (x := g.2.2.1 13) (As := [.int x98, .int x100]) (rest := []) (T := (((hv J [42] [(12, 12), (12, 13)] u101), L, I, P, E, N), sgM g)) C (WB_R hW) (c_X12_rests l g (hv J [42] [(12, 12), (12, 13)] u101) L I P E N H.size x98 x100 hwm) mi_X12_rests tw_1310 (recv_ (T := (((hv J [42] [(12, 12), (12, 13)] u101), L, I, P, E, N), sgM g)) C (WB_R hW) (mm_ rfl) rfl rfl) ⟨rfl, rfl, Nat.le_of_ble_eq_true rfl, Nat.le_of_ble_eq_true rfl⟩ rfl hl.1 rfl (Nat.le_of_ble_eq_true rfl) dL_law_542 ⟨by show 1000 + 10 * k + 0 + 0 ≤ 600000; omega, by show 200000 + 20100 * k + 0 + 0 ≤ 7302250; omega⟩) (fun r104 u104 H locs hp104 hB hk hS => ?_)
            have hW : WB g A s.heap H locs ((hv (hv J [42] [(12, 12), (12, 13)] u101) [100] [(13, 38), (13, 39)] u104), L, I, P, E, N) ((sgX g ++ dy) ++ sgM g) := joinR hW hB hk hS (frsub C (WB_R hW)) (fun x hx => cel_x (hv_x rfl rfl (notm hW x hx)))
            refine lv_pop hx hb dL_law_545 rfl ?_
            refine lv_goto (tgt := 1389) hx hb dL_law_546 (by decide) ?_
            obtain ⟨x105, e105⟩ : ∃ y : Int32, y = i + 5 := ⟨_, rfl⟩
            refine lv_iinc (v := x105) (lv' := [(3, .int x105), (0, .ref b), (1, .ref (g.2.2.1 12)), (2, .ref (g.2.2.1 13))]) hx hb dL_law_1389 hl (k := 0) rfl (by rw [e105]; rfl) (by decide) rfl (fun ls hl => ?_)
            try have t105 : x105.toInt = i.toInt + 5 := tadd e105 rfl kp5 (by omega)
            refine lv_goto (tgt := 18) hx hb dL_law_1392 (by decide) ?_
            refine W.widen (k := 1000 + 10 * (k + 1)) (n := 200000 + 20100 * (k + 1)) (by omega) (by omega) ?_
            exact ih (k + 1) x105 (hv (hv J [42] [(12, 12), (12, 13)] u101) [100] [(13, 38), (13, 39)] u104) L I P E N dy H locs ls (by omega) (by omega) (by omega) hwf hwm hnow hrl hac hrel0 hW (lv_sub hl [0, 1, 2, 3] rfl)
          · refine lv_tableIn (off := 517) (tgt := 549) hx hb dL_law_32 (Int.not_lt.mpr c6) (Int.not_lt.mpr c6b) (by rw [c6k]; rfl) (by decide) ?_
            refine lv_aload_n hx hb dL_law_549 rfl (lv_at hl 2 rfl) ?_
            refine lv_aload_n hx hb dL_law_550 rfl (lv_at hl 1 rfl) ?_
            refine lv_iload_n hx hb dL_law_551 rfl (lv_at hl 0 rfl) ?_
            refine lv_iconst (v := 1) hx hb dL_law_552 (by decide) ?_
            refine lv_iadd hx hb dL_law_553 ?_
            refine lv_topi (fun x106 (e106 : x106 = i + 1) => ?_)
            try have t106 : x106.toInt = i.toInt + 1 := tadd e106 rfl kp1 (by omega)
            have hin : vp_in x106 Lx := tin rfl (by omega)
            refine va_sld hx hb hX hbl hbA hW.2.2.1 hin dL_law_554 ?_
            refine lv_topi (fun x107 (e107 : x107 = xs x106.toNatClampNeg) => ?_)
            refine ci2_ C (WB_L hW) (runV (x := g.2.2.1 12) (As := [.int x107]) (rest := []) (T := ((J, L, I, P, E, N), sgX g ++ dy)) C (WB_L hW) (c_X11_mayRead l g J L I P E N dy H.size x107 hwf) mi_X11_mayRead tw_610 (recv_ (T := ((J, L, I, P, E, N), sgX g ++ dy)) C (WB_L hW) (mx_ rfl) rfl rfl) ⟨rfl, rfl, Nat.le_of_ble_eq_true rfl, Nat.le_of_ble_eq_true rfl⟩ rfl hl.1 rfl (Nat.le_of_ble_eq_true rfl) dL_law_555 ⟨by show 1000 + 10 * k + 0 ≤ 600000; omega, by show 200000 + 20100 * k + 0 ≤ 7302250; omega⟩) (fun r108 u108 H locs hp108 hB hk hS => ?_)
            have hW : WB g A s.heap H locs ((hv J [42] [] u108), L, I, P, E, N) ((sgX g ++ dy) ++ sgM g) := joinL hW hB hk hS (frsub C (WB_L hW)) (okM hW (fun r h => hv_m (J := J) (R := [42]) (F := []) rfl rfl h) (fun r h => rfl))
            refine lv_pop hx hb dL_law_558 rfl ?_
            refine lv_aload_n hx hb dL_law_559 rfl (lv_at hl 3 rfl) ?_
            refine lv_aload_n hx hb dL_law_560 rfl (lv_at hl 1 rfl) ?_
            refine lv_iload_n hx hb dL_law_561 rfl (lv_at hl 0 rfl) ?_
            refine lv_iconst (v := 1) hx hb dL_law_562 (by decide) ?_
            refine lv_iadd hx hb dL_law_563 ?_
            refine lv_topi (fun x109 (e109 : x109 = i + 1) => ?_)
            try have t109 : x109.toInt = i.toInt + 1 := tadd e109 rfl kp1 (by omega)
            have hin : vp_in x109 Lx := tin rfl (by omega)
            refine va_sld hx hb hX hbl hbA hW.2.2.1 hin dL_law_564 ?_
            refine lv_as x107 (by rw [e107, e106, e109]) ?_
            refine ci2_ C (WB_R hW) (runV (x := g.2.2.1 13) (As := [.int x107]) (rest := []) (T := (((hv J [42] [] u108), L, I, P, E, N), sgM g)) C (WB_R hW) (c_X12_mayRead l g (hv J [42] [] u108) L I P E N H.size x107 hwm) mi_X12_mayRead tw_1314 (recv_ (T := (((hv J [42] [] u108), L, I, P, E, N), sgM g)) C (WB_R hW) (mm_ rfl) rfl rfl) ⟨rfl, rfl, Nat.le_of_ble_eq_true rfl, Nat.le_of_ble_eq_true rfl⟩ rfl hl.1 rfl (Nat.le_of_ble_eq_true rfl) dL_law_565 ⟨by show 1000 + 10 * k + 0 + 0 ≤ 600000; omega, by show 200000 + 20100 * k + 0 + 0 ≤ 7302250; omega⟩) (fun r110 u110 H locs hp110 hB hk hS => ?_)
            have hW : WB g A s.heap H locs ((hv (hv J [42] [] u108) [100] [] u110), L, I, P, E, N) ((sgX g ++ dy) ++ sgM g) := joinR hW hB hk hS (frsub C (WB_R hW)) (fun x hx => cel_x (hv_x rfl rfl (notm hW x hx)))
            refine lv_pop hx hb dL_law_568 rfl ?_
            refine lv_goto (tgt := 1389) hx hb dL_law_569 (by decide) ?_
            obtain ⟨x111, e111⟩ : ∃ y : Int32, y = i + 5 := ⟨_, rfl⟩
            refine lv_iinc (v := x111) (lv' := [(3, .int x111), (0, .ref b), (1, .ref (g.2.2.1 12)), (2, .ref (g.2.2.1 13))]) hx hb dL_law_1389 hl (k := 0) rfl (by rw [e111]; rfl) (by decide) rfl (fun ls hl => ?_)
            try have t111 : x111.toInt = i.toInt + 5 := tadd e111 rfl kp5 (by omega)
            refine lv_goto (tgt := 18) hx hb dL_law_1392 (by decide) ?_
            refine W.widen (k := 1000 + 10 * (k + 1)) (n := 200000 + 20100 * (k + 1)) (by omega) (by omega) ?_
            exact ih (k + 1) x111 (hv (hv J [42] [] u108) [100] [] u110) L I P E N dy H locs ls (by omega) (by omega) (by omega) hwf hwm hnow hrl hac hrel0 hW (lv_sub hl [0, 1, 2, 3] rfl)
          · refine lv_tableIn (off := 540) (tgt := 572) hx hb dL_law_32 (Int.not_lt.mpr c6) (Int.not_lt.mpr c6b) (by rw [c6k]; rfl) (by decide) ?_
            refine lv_aload_n hx hb dL_law_572 rfl (lv_at hl 2 rfl) ?_
            refine lv_aload_n hx hb dL_law_573 rfl (lv_at hl 1 rfl) ?_
            refine lv_iload_n hx hb dL_law_574 rfl (lv_at hl 0 rfl) ?_
            refine lv_iconst (v := 1) hx hb dL_law_575 (by decide) ?_
            refine lv_iadd hx hb dL_law_576 ?_
            refine lv_topi (fun x112 (e112 : x112 = i + 1) => ?_)
            try have t112 : x112.toInt = i.toInt + 1 := tadd e112 rfl kp1 (by omega)
            have hin : vp_in x112 Lx := tin rfl (by omega)
            refine va_sld hx hb hX hbl hbA hW.2.2.1 hin dL_law_577 ?_
            refine lv_topi (fun x113 (e113 : x113 = xs x112.toNatClampNeg) => ?_)
            refine lv_aload_n hx hb dL_law_578 rfl (lv_at hl 1 rfl) ?_
            refine lv_iload_n hx hb dL_law_579 rfl (lv_at hl 0 rfl) ?_
            refine lv_iconst (v := 2) hx hb dL_law_580 (by decide) ?_
            refine lv_iadd hx hb dL_law_581 ?_
            refine lv_topi (fun x114 (e114 : x114 = i + 2) => ?_)
            try have t114 : x114.toInt = i.toInt + 2 := tadd e114 rfl kp2 (by omega)
            have hin : vp_in x114 Lx := tin rfl (by omega)
            refine va_sld hx hb hX hbl hbA hW.2.2.1 hin dL_law_582 ?_
            refine lv_topi (fun x115 (e115 : x115 = xs x114.toNatClampNeg) => ?_)
            refine lv_aload_n hx hb dL_law_583 rfl (lv_at hl 1 rfl) ?_
            refine lv_iload_n hx hb dL_law_584 rfl (lv_at hl 0 rfl) ?_
            refine lv_iconst (v := 3) hx hb dL_law_585 (by decide) ?_
            refine lv_iadd hx hb dL_law_586 ?_
            refine lv_topi (fun x116 (e116 : x116 = i + 3) => ?_)
            try have t116 : x116.toInt = i.toInt + 3 := tadd e116 rfl kp3 (by omega)
            have hin : vp_in x116 Lx := tin rfl (by omega)
            refine va_sld hx hb hX hbl hbA hW.2.2.1 hin dL_law_587 ?_
            refine lv_topi (fun x117 (e117 : x117 = xs x116.toNatClampNeg) => ?_)
            refine ci2_ C (WB_L hW) (runV (x := g.2.2.1 12) (As := [.int x113, .int x115, .int x117]) (rest := []) (T := ((J, L, I, P, E, N), sgX g ++ dy)) C (WB_L hW) (c_X11_say l g J L I P E N dy H.size x113 x115 x117 hwf ⟨hnow.1, hnow.2.1⟩ hnow.2.2) mi_X11_say tw_623 (recv_ (T := ((J, L, I, P, E, N), sgX g ++ dy)) C (WB_L hW) (mx_ rfl) rfl rfl) ⟨rfl, rfl, Nat.le_of_ble_eq_true rfl, Nat.le_of_ble_eq_true rfl⟩ rfl hl.1 rfl (Nat.le_of_ble_eq_true rfl) dL_law_588 ⟨by show 1000 + 10 * k + 10 ≤ 600000; omega, by show 200000 + 20100 * k + 20100 ≤ 7302250; omega⟩) (fun r118 u118 H locs hp118 hB hk hS => ?_)
            have hW : WB g A s.heap H locs ((hv J [42, 45] [(3, 1), (3, 2), (3, 3), (8, 1), (8, 2), (8, 3), (8, 4), (8, 5), (8, 6), (8, 7), (8, 8), (8, 9), (27, 0), (27, 2)] u118.1), L, (hv I [9] [(5, 2), (7, 1), (7, 2)] u118.2.1), (hv P [9, 37] [] u118.2.2.1), (hv1 E [27] u118.2.2.2.1), u118.2.2.2.2.1) ((sgX g ++ u118.2.2.2.2.2) ++ sgM g) := joinL hW hB hk hS (frsub C (WB_L hW)) (okM hW (fun r h => hv_m (J := J) (R := [42, 45]) (F := [(3, 1), (3, 2), (3, 3), (8, 1), (8, 2), (8, 3), (8, 4), (8, 5), (8, 6), (8, 7), (8, 8), (8, 9), (27, 0), (27, 2)]) rfl rfl h) (fun r h => rfl))
            obtain ⟨hwf, hdd118, hf118_0⟩ := hp118
            have hnow := hf118_0
            refine lv_pop hx hb dL_law_591 rfl ?_
            refine lv_aload_n hx hb dL_law_592 rfl (lv_at hl 3 rfl) ?_
            refine lv_aload_n hx hb dL_law_593 rfl (lv_at hl 1 rfl) ?_
            refine lv_iload_n hx hb dL_law_594 rfl (lv_at hl 0 rfl) ?_
            refine lv_iconst (v := 1) hx hb dL_law_595 (by decide) ?_
            refine lv_iadd hx hb dL_law_596 ?_
            refine lv_topi (fun x119 (e119 : x119 = i + 1) => ?_)
            try have t119 : x119.toInt = i.toInt + 1 := tadd e119 rfl kp1 (by omega)
            have hin : vp_in x119 Lx := tin rfl (by omega)
            refine va_sld hx hb hX hbl hbA hW.2.2.1 hin dL_law_597 ?_
            refine lv_as x113 (by rw [e113, e112, e119]) ?_
            refine lv_aload_n hx hb dL_law_598 rfl (lv_at hl 1 rfl) ?_
            refine lv_iload_n hx hb dL_law_599 rfl (lv_at hl 0 rfl) ?_
            refine lv_iconst (v := 2) hx hb dL_law_600 (by decide) ?_
            refine lv_iadd hx hb dL_law_601 ?_
            refine lv_topi (fun x120 (e120 : x120 = i + 2) => ?_)
            try have t120 : x120.toInt = i.toInt + 2 := tadd e120 rfl kp2 (by omega)
            have hin : vp_in x120 Lx := tin rfl (by omega)
            refine va_sld hx hb hX hbl hbA hW.2.2.1 hin dL_law_602 ?_
            refine lv_as x115 (by rw [e115, e114, e120]) ?_
            refine lv_aload_n hx hb dL_law_603 rfl (lv_at hl 1 rfl) ?_
            refine lv_iload_n hx hb dL_law_604 rfl (lv_at hl 0 rfl) ?_
            refine lv_iconst (v := 3) hx hb dL_law_605 (by decide) ?_
            refine lv_iadd hx hb dL_law_606 ?_
            refine lv_topi (fun x121 (e121 : x121 = i + 3) => ?_)
            try have t121 : x121.toInt = i.toInt + 3 := tadd e121 rfl kp3 (by omega)
            have hin : vp_in x121 Lx := tin rfl (by omega)
            refine va_sld hx hb hX hbl hbA hW.2.2.1 hin dL_law_607 ?_
            refine lv_as x117 (by rw [e117, e116, e121]) ?_
            refine ci2_ C (WB_R hW) (runV (x := g.2.2.1 13) (As := [.int x113, .int x115, .int x117]) (rest := []) (T := (((hv J [42, 45] [(3, 1), (3, 2), (3, 3), (8, 1), (8, 2), (8, 3), (8, 4), (8, 5), (8, 6), (8, 7), (8, 8), (8, 9), (27, 0), (27, 2)] u118.1), L, (hv I [9] [(5, 2), (7, 1), (7, 2)] u118.2.1), (hv P [9, 37] [] u118.2.2.1), (hv1 E [27] u118.2.2.2.1), u118.2.2.2.2.1), sgM g)) C (WB_R hW) (c_X12_say l g (hv J [42, 45] [(3, 1), (3, 2), (3, 3), (8, 1), (8, 2), (8, 3), (8, 4), (8, 5), (8, 6), (8, 7), (8, 8), (8, 9), (27, 0), (27, 2)] u118.1) L (hv I [9] [(5, 2), (7, 1), (7, 2)] u118.2.1) (hv P [9, 37] [] u118.2.2.1) (hv1 E [27] u118.2.2.2.1) u118.2.2.2.2.1 H.size x113 x115 x117 hwm) mi_X12_say tw_1322 (recv_ (T := (((hv J [42, 45] [(3, 1), (3, 2), (3, 3), (8, 1), (8, 2), (8, 3), (8, 4), (8, 5), (8, 6), (8, 7), (8, 8), (8, 9), (27, 0), (27, 2)] u118.1), L, (hv I [9] [(5, 2), (7, 1), (7, 2)] u118.2.1), (hv P [9, 37] [] u118.2.2.1), (hv1 E [27] u118.2.2.2.1), u118.2.2.2.2.1), sgM g)) C (WB_R hW) (mm_ rfl) rfl rfl) ⟨rfl, rfl, Nat.le_of_ble_eq_true rfl, Nat.le_of_ble_eq_true rfl⟩ rfl hl.1 rfl (Nat.le_of_ble_eq_true rfl) dL_law_608 ⟨by show 1000 + 10 * k + 10 + 0 ≤ 600000; omega, by show 200000 + 20100 * k + 20100 + 0 ≤ 7302250; omega⟩) (fun r122 u122 H locs hp122 hB hk hS => ?_)
            have hW : WB g A s.heap H locs ((hv (hv J [42, 45] [(3, 1), (3, 2), (3, 3), (8, 1), (8, 2), (8, 3), (8, 4), (8, 5), (8, 6), (8, 7), (8, 8), (8, 9), (27, 0), (27, 2)] u118.1) [100, 114, 115, 116, 117, 118, 119, 120, 154] [(13, 31), (13, 45), (13, 56), (13, 57), (13, 58), (13, 59), (13, 60)] u122), L, (hv I [9] [(5, 2), (7, 1), (7, 2)] u118.2.1), (hv P [9, 37] [] u118.2.2.1), (hv1 E [27] u118.2.2.2.1), u118.2.2.2.2.1) ((sgX g ++ u118.2.2.2.2.2) ++ sgM g) := joinR hW hB hk hS (frsub C (WB_R hW)) (fun x hx => cel_x (hv_x rfl rfl (notm hW x hx)))
            have hwm : WM (hv (hv J [42, 45] [(3, 1), (3, 2), (3, 3), (8, 1), (8, 2), (8, 3), (8, 4), (8, 5), (8, 6), (8, 7), (8, 8), (8, 9), (27, 0), (27, 2)] u118.1) [100, 114, 115, 116, 117, 118, 119, 120, 154] [(13, 31), (13, 45), (13, 56), (13, 57), (13, 58), (13, 59), (13, 60)] u122) := hp122
            refine lv_pop hx hb dL_law_611 rfl ?_
            refine lv_goto (tgt := 1389) hx hb dL_law_612 (by decide) ?_
            obtain ⟨x123, e123⟩ : ∃ y : Int32, y = i + 5 := ⟨_, rfl⟩
            refine lv_iinc (v := x123) (lv' := [(3, .int x123), (0, .ref b), (1, .ref (g.2.2.1 12)), (2, .ref (g.2.2.1 13))]) hx hb dL_law_1389 hl (k := 0) rfl (by rw [e123]; rfl) (by decide) rfl (fun ls hl => ?_)
            try have t123 : x123.toInt = i.toInt + 5 := tadd e123 rfl kp5 (by omega)
            refine lv_goto (tgt := 18) hx hb dL_law_1392 (by decide) ?_
            refine W.widen (k := 1000 + 10 * (k + 1)) (n := 200000 + 20100 * (k + 1)) (by omega) (by omega) ?_
            exact ih (k + 1) x123 (hv (hv J [42, 45] [(3, 1), (3, 2), (3, 3), (8, 1), (8, 2), (8, 3), (8, 4), (8, 5), (8, 6), (8, 7), (8, 8), (8, 9), (27, 0), (27, 2)] u118.1) [100, 114, 115, 116, 117, 118, 119, 120, 154] [(13, 31), (13, 45), (13, 56), (13, 57), (13, 58), (13, 59), (13, 60)] u122) L (hv I [9] [(5, 2), (7, 1), (7, 2)] u118.2.1) (hv P [9, 37] [] u118.2.2.1) (hv1 E [27] u118.2.2.2.1) u118.2.2.2.2.1 u118.2.2.2.2.2 H locs ls (by omega) (by omega) (by omega) hwf hwm hnow hrl hac hrel0 hW (lv_sub hl [0, 1, 2, 3] rfl)
          · refine lv_tableIn (off := 583) (tgt := 615) hx hb dL_law_32 (Int.not_lt.mpr c6) (Int.not_lt.mpr c6b) (by rw [c6k]; rfl) (by decide) ?_
            refine lv_aload_n hx hb dL_law_615 rfl (lv_at hl 2 rfl) ?_
            refine lv_aload_n hx hb dL_law_616 rfl (lv_at hl 1 rfl) ?_
            refine lv_iload_n hx hb dL_law_617 rfl (lv_at hl 0 rfl) ?_
            refine lv_iconst (v := 1) hx hb dL_law_618 (by decide) ?_
            refine lv_iadd hx hb dL_law_619 ?_
            refine lv_topi (fun x124 (e124 : x124 = i + 1) => ?_)
            try have t124 : x124.toInt = i.toInt + 1 := tadd e124 rfl kp1 (by omega)
            have hin : vp_in x124 Lx := tin rfl (by omega)
            refine va_sld hx hb hX hbl hbA hW.2.2.1 hin dL_law_620 ?_
            refine lv_topi (fun x125 (e125 : x125 = xs x124.toNatClampNeg) => ?_)
            refine ci2_ C (WB_L hW) (runV (x := g.2.2.1 12) (As := [.int x125]) (rest := []) (T := ((J, L, I, P, E, N), sgX g ++ dy)) C (WB_L hW) (c_X11_stage l g J L I P E N dy H.size x125 hwf ⟨hnow.1, hnow.2.1⟩ hnow.2.2) mi_X11_stage tw_704 (recv_ (T := ((J, L, I, P, E, N), sgX g ++ dy)) C (WB_L hW) (mx_ rfl) rfl rfl) ⟨rfl, rfl, Nat.le_of_ble_eq_true rfl, Nat.le_of_ble_eq_true rfl⟩ rfl hl.1 rfl (Nat.le_of_ble_eq_true rfl) dL_law_621 ⟨by show 1000 + 10 * k + 10 ≤ 600000; omega, by show 200000 + 20100 * k + 20100 ≤ 7302250; omega⟩) (fun r126 u126 H locs hp126 hB hk hS => ?_)
            have hW : WB g A s.heap H locs ((hv J [42] [(3, 1), (3, 2), (3, 3), (27, 0), (27, 2)] u126.1), L, (hv I [9] [] u126.2.1), (hv P [9, 37] [] u126.2.2.1), (hv1 E [27] u126.2.2.2.1), u126.2.2.2.2.1) ((sgX g ++ u126.2.2.2.2.2) ++ sgM g) := joinL hW hB hk hS (frsub C (WB_L hW)) (okM hW (fun r h => hv_m (J := J) (R := [42]) (F := [(3, 1), (3, 2), (3, 3), (27, 0), (27, 2)]) rfl rfl h) (fun r h => rfl))
            obtain ⟨hwf, hdd126, hf126_0⟩ := hp126
            have hnow := hf126_0
            refine lv_pop hx hb dL_law_624 rfl ?_
            refine lv_aload_n hx hb dL_law_625 rfl (lv_at hl 3 rfl) ?_
            refine lv_aload_n hx hb dL_law_626 rfl (lv_at hl 1 rfl) ?_
            refine lv_iload_n hx hb dL_law_627 rfl (lv_at hl 0 rfl) ?_
            refine lv_iconst (v := 1) hx hb dL_law_628 (by decide) ?_
            refine lv_iadd hx hb dL_law_629 ?_
            refine lv_topi (fun x127 (e127 : x127 = i + 1) => ?_)
            try have t127 : x127.toInt = i.toInt + 1 := tadd e127 rfl kp1 (by omega)
            have hin : vp_in x127 Lx := tin rfl (by omega)
            refine va_sld hx hb hX hbl hbA hW.2.2.1 hin dL_law_630 ?_
            refine lv_as x125 (by rw [e125, e124, e127]) ?_
            refine ci2_ C (WB_R hW) (runV (x := g.2.2.1 13) (As := [.int x125]) (rest := []) (T := (((hv J [42] [(3, 1), (3, 2), (3, 3), (27, 0), (27, 2)] u126.1), L, (hv I [9] [] u126.2.1), (hv P [9, 37] [] u126.2.2.1), (hv1 E [27] u126.2.2.2.1), u126.2.2.2.2.1), sgM g)) C (WB_R hW) (c_X12_stage l g (hv J [42] [(3, 1), (3, 2), (3, 3), (27, 0), (27, 2)] u126.1) L (hv I [9] [] u126.2.1) (hv P [9, 37] [] u126.2.2.1) (hv1 E [27] u126.2.2.2.1) u126.2.2.2.2.1 H.size x125 hwm) mi_X12_stage tw_1382 (recv_ (T := (((hv J [42] [(3, 1), (3, 2), (3, 3), (27, 0), (27, 2)] u126.1), L, (hv I [9] [] u126.2.1), (hv P [9, 37] [] u126.2.2.1), (hv1 E [27] u126.2.2.2.1), u126.2.2.2.2.1), sgM g)) C (WB_R hW) (mm_ rfl) rfl rfl) ⟨rfl, rfl, Nat.le_of_ble_eq_true rfl, Nat.le_of_ble_eq_true rfl⟩ rfl hl.1 rfl (Nat.le_of_ble_eq_true rfl) dL_law_631 ⟨by show 1000 + 10 * k + 10 + 0 ≤ 600000; omega, by show 200000 + 20100 * k + 20100 + 0 ≤ 7302250; omega⟩) (fun r128 u128 H locs hp128 hB hk hS => ?_)
            have hW : WB g A s.heap H locs ((hv (hv J [42] [(3, 1), (3, 2), (3, 3), (27, 0), (27, 2)] u126.1) [100, 116, 117, 118, 119, 120] [(13, 31)] u128), L, (hv I [9] [] u126.2.1), (hv P [9, 37] [] u126.2.2.1), (hv1 E [27] u126.2.2.2.1), u126.2.2.2.2.1) ((sgX g ++ u126.2.2.2.2.2) ++ sgM g) := joinR hW hB hk hS (frsub C (WB_R hW)) (fun x hx => cel_x (hv_x rfl rfl (notm hW x hx)))
            obtain ⟨hwm, hc128⟩ : WM (hv (hv J [42] [(3, 1), (3, 2), (3, 3), (27, 0), (27, 2)] u126.1) [100, 116, 117, 118, 119, 120] [(13, 31)] u128) ∧ ((r128.toInt = (-4) ∧ (x125.toInt < 1) ∧ u128 13 31 = J 13 31) ∨ (r128.toInt = (-6) ∧ (1 ≤ x125.toInt ∧ (999 < x125.toInt ∨ (J 13 31).toInt = 9999)) ∧ u128 13 31 = J 13 31) ∨ (r128.toInt = (J 13 31).toInt ∧ (1 ≤ x125.toInt ∧ x125.toInt ≤ 999 ∧ (J 13 31).toInt ≤ 9998) ∧ (u128 13 31).toInt = (J 13 31).toInt + 1)) := hp128
            refine lv_pop hx hb dL_law_634 rfl ?_
            refine lv_goto (tgt := 1389) hx hb dL_law_635 (by decide) ?_
            obtain ⟨x129, e129⟩ : ∃ y : Int32, y = i + 5 := ⟨_, rfl⟩
            refine lv_iinc (v := x129) (lv' := [(3, .int x129), (0, .ref b), (1, .ref (g.2.2.1 12)), (2, .ref (g.2.2.1 13))]) hx hb dL_law_1389 hl (k := 0) rfl (by rw [e129]; rfl) (by decide) rfl (fun ls hl => ?_)
            try have t129 : x129.toInt = i.toInt + 5 := tadd e129 rfl kp5 (by omega)
            refine lv_goto (tgt := 18) hx hb dL_law_1392 (by decide) ?_
            refine W.widen (k := 1000 + 10 * (k + 1)) (n := 200000 + 20100 * (k + 1)) (by omega) (by omega) ?_
            exact ih (k + 1) x129 (hv (hv J [42] [(3, 1), (3, 2), (3, 3), (27, 0), (27, 2)] u126.1) [100, 116, 117, 118, 119, 120] [(13, 31)] u128) L (hv I [9] [] u126.2.1) (hv P [9, 37] [] u126.2.2.1) (hv1 E [27] u126.2.2.2.1) u126.2.2.2.2.1 u126.2.2.2.2.2 H locs ls (by omega) (by omega) (by omega) hwf hwm hnow hrl hac hrel0 hW (lv_sub hl [0, 1, 2, 3] rfl)
          · refine lv_tableIn (off := 606) (tgt := 638) hx hb dL_law_32 (Int.not_lt.mpr c6) (Int.not_lt.mpr c6b) (by rw [c6k]; rfl) (by decide) ?_
            refine lv_aload_n hx hb dL_law_638 rfl (lv_at hl 2 rfl) ?_
            refine lv_aload_n hx hb dL_law_639 rfl (lv_at hl 1 rfl) ?_
            refine lv_iload_n hx hb dL_law_640 rfl (lv_at hl 0 rfl) ?_
            refine lv_iconst (v := 1) hx hb dL_law_641 (by decide) ?_
            refine lv_iadd hx hb dL_law_642 ?_
            refine lv_topi (fun x130 (e130 : x130 = i + 1) => ?_)
            try have t130 : x130.toInt = i.toInt + 1 := tadd e130 rfl kp1 (by omega)
            have hin : vp_in x130 Lx := tin rfl (by omega)
            refine va_sld hx hb hX hbl hbA hW.2.2.1 hin dL_law_643 ?_
            refine lv_topi (fun x131 (e131 : x131 = xs x130.toNatClampNeg) => ?_)
            refine lv_aload_n hx hb dL_law_644 rfl (lv_at hl 1 rfl) ?_
            refine lv_iload_n hx hb dL_law_645 rfl (lv_at hl 0 rfl) ?_
            refine lv_iconst (v := 2) hx hb dL_law_646 (by decide) ?_
            refine lv_iadd hx hb dL_law_647 ?_
            refine lv_topi (fun x132 (e132 : x132 = i + 2) => ?_)
            try have t132 : x132.toInt = i.toInt + 2 := tadd e132 rfl kp2 (by omega)
            have hin : vp_in x132 Lx := tin rfl (by omega)
            refine va_sld hx hb hX hbl hbA hW.2.2.1 hin dL_law_648 ?_
            refine lv_topi (fun x133 (e133 : x133 = xs x132.toNatClampNeg) => ?_)
            refine ci2_ C (WB_L hW) (runV (x := g.2.2.1 12) (As := [.int x131, .int x133]) (rest := []) (T := ((J, L, I, P, E, N), sgX g ++ dy)) C (WB_L hW) (c_X11_minuteOf l g J L I P E N dy H.size x131 x133 hwf) mi_X11_minuteOf tw_708 (recv_ (T := ((J, L, I, P, E, N), sgX g ++ dy)) C (WB_L hW) (mx_ rfl) rfl rfl) ⟨rfl, rfl, Nat.le_of_ble_eq_true rfl, Nat.le_of_ble_eq_true rfl⟩ rfl hl.1 rfl (Nat.le_of_ble_eq_true rfl) dL_law_649 ⟨by show 1000 + 10 * k + 0 ≤ 600000; omega, by show 200000 + 20100 * k + 0 ≤ 7302250; omega⟩) (fun r134 u134 H locs hp134 hB hk hS => ?_)
            have hW : WB g A s.heap H locs ((hv J [42] [(4, 6), (4, 7)] u134.1), L, (hv I [] [(6, 6), (6, 7)] u134.2), P, E, N) ((sgX g ++ dy) ++ sgM g) := joinL hW hB hk hS (frsub C (WB_L hW)) (okM hW (fun r h => hv_m (J := J) (R := [42]) (F := [(4, 6), (4, 7)]) rfl rfl h) (fun r h => rfl))
            refine lv_pop hx hb dL_law_652 rfl ?_
            refine lv_aload_n hx hb dL_law_653 rfl (lv_at hl 3 rfl) ?_
            refine lv_aload_n hx hb dL_law_654 rfl (lv_at hl 1 rfl) ?_
            refine lv_iload_n hx hb dL_law_655 rfl (lv_at hl 0 rfl) ?_
            refine lv_iconst (v := 1) hx hb dL_law_656 (by decide) ?_
            refine lv_iadd hx hb dL_law_657 ?_
            refine lv_topi (fun x135 (e135 : x135 = i + 1) => ?_)
            try have t135 : x135.toInt = i.toInt + 1 := tadd e135 rfl kp1 (by omega)
            have hin : vp_in x135 Lx := tin rfl (by omega)
            refine va_sld hx hb hX hbl hbA hW.2.2.1 hin dL_law_658 ?_
            refine lv_as x131 (by rw [e131, e130, e135]) ?_
            refine lv_aload_n hx hb dL_law_659 rfl (lv_at hl 1 rfl) ?_
            refine lv_iload_n hx hb dL_law_660 rfl (lv_at hl 0 rfl) ?_
            refine lv_iconst (v := 2) hx hb dL_law_661 (by decide) ?_
            refine lv_iadd hx hb dL_law_662 ?_
            refine lv_topi (fun x136 (e136 : x136 = i + 2) => ?_)
            try have t136 : x136.toInt = i.toInt + 2 := tadd e136 rfl kp2 (by omega)
            have hin : vp_in x136 Lx := tin rfl (by omega)
            refine va_sld hx hb hX hbl hbA hW.2.2.1 hin dL_law_663 ?_
            refine lv_as x133 (by rw [e133, e132, e136]) ?_
            refine ci2_ C (WB_R hW) (runV (x := g.2.2.1 13) (As := [.int x131, .int x133]) (rest := []) (T := (((hv J [42] [(4, 6), (4, 7)] u134.1), L, (hv I [] [(6, 6), (6, 7)] u134.2), P, E, N), sgM g)) C (WB_R hW) (c_X12_minuteOf l g (hv J [42] [(4, 6), (4, 7)] u134.1) L (hv I [] [(6, 6), (6, 7)] u134.2) P E N H.size x131 x133 hwm) mi_X12_minuteOf tw_1386 (recv_ (T := (((hv J [42] [(4, 6), (4, 7)] u134.1), L, (hv I [] [(6, 6), (6, 7)] u134.2), P, E, N), sgM g)) C (WB_R hW) (mm_ rfl) rfl rfl) ⟨rfl, rfl, Nat.le_of_ble_eq_true rfl, Nat.le_of_ble_eq_true rfl⟩ rfl hl.1 rfl (Nat.le_of_ble_eq_true rfl) dL_law_664 ⟨by show 1000 + 10 * k + 0 + 0 ≤ 600000; omega, by show 200000 + 20100 * k + 0 + 0 ≤ 7302250; omega⟩) (fun r137 u137 H locs hp137 hB hk hS => ?_)
            have hW : WB g A s.heap H locs ((hv (hv J [42] [(4, 6), (4, 7)] u134.1) [100, 146, 150, 151, 152] [(13, 47), (13, 48)] u137), L, (hv I [] [(6, 6), (6, 7)] u134.2), P, E, N) ((sgX g ++ dy) ++ sgM g) := joinR hW hB hk hS (frsub C (WB_R hW)) (fun x hx => cel_x (hv_x rfl rfl (notm hW x hx)))
            refine lv_pop hx hb dL_law_667 rfl ?_
            refine lv_goto (tgt := 1389) hx hb dL_law_668 (by decide) ?_
            obtain ⟨x138, e138⟩ : ∃ y : Int32, y = i + 5 := ⟨_, rfl⟩
            refine lv_iinc (v := x138) (lv' := [(3, .int x138), (0, .ref b), (1, .ref (g.2.2.1 12)), (2, .ref (g.2.2.1 13))]) hx hb dL_law_1389 hl (k := 0) rfl (by rw [e138]; rfl) (by decide) rfl (fun ls hl => ?_)
            try have t138 : x138.toInt = i.toInt + 5 := tadd e138 rfl kp5 (by omega)
            refine lv_goto (tgt := 18) hx hb dL_law_1392 (by decide) ?_
            refine W.widen (k := 1000 + 10 * (k + 1)) (n := 200000 + 20100 * (k + 1)) (by omega) (by omega) ?_
            exact ih (k + 1) x138 (hv (hv J [42] [(4, 6), (4, 7)] u134.1) [100, 146, 150, 151, 152] [(13, 47), (13, 48)] u137) L (hv I [] [(6, 6), (6, 7)] u134.2) P E N dy H locs ls (by omega) (by omega) (by omega) hwf hwm hnow hrl hac hrel0 hW (lv_sub hl [0, 1, 2, 3] rfl)
          · refine lv_tableIn (off := 639) (tgt := 671) hx hb dL_law_32 (Int.not_lt.mpr c6) (Int.not_lt.mpr c6b) (by rw [c6k]; rfl) (by decide) ?_
            refine lv_aload_n hx hb dL_law_671 rfl (lv_at hl 2 rfl) ?_
            refine lv_aload_n hx hb dL_law_672 rfl (lv_at hl 1 rfl) ?_
            refine lv_iload_n hx hb dL_law_673 rfl (lv_at hl 0 rfl) ?_
            refine lv_iconst (v := 1) hx hb dL_law_674 (by decide) ?_
            refine lv_iadd hx hb dL_law_675 ?_
            refine lv_topi (fun x139 (e139 : x139 = i + 1) => ?_)
            try have t139 : x139.toInt = i.toInt + 1 := tadd e139 rfl kp1 (by omega)
            have hin : vp_in x139 Lx := tin rfl (by omega)
            refine va_sld hx hb hX hbl hbA hW.2.2.1 hin dL_law_676 ?_
            refine lv_topi (fun x140 (e140 : x140 = xs x139.toNatClampNeg) => ?_)
            refine lv_aload_n hx hb dL_law_677 rfl (lv_at hl 1 rfl) ?_
            refine lv_iload_n hx hb dL_law_678 rfl (lv_at hl 0 rfl) ?_
            refine lv_iconst (v := 2) hx hb dL_law_679 (by decide) ?_
            refine lv_iadd hx hb dL_law_680 ?_
            refine lv_topi (fun x141 (e141 : x141 = i + 2) => ?_)
            try have t141 : x141.toInt = i.toInt + 2 := tadd e141 rfl kp2 (by omega)
            have hin : vp_in x141 Lx := tin rfl (by omega)
            refine va_sld hx hb hX hbl hbA hW.2.2.1 hin dL_law_681 ?_
            refine lv_topi (fun x142 (e142 : x142 = xs x141.toNatClampNeg) => ?_)
            refine ci2_ C (WB_L hW) (runV (x := g.2.2.1 12) (As := [.int x140, .int x142]) (rest := []) (T := ((J, L, I, P, E, N), sgX g ++ dy)) C (WB_L hW) (c_X11_heard l g J L I P E N dy H.size x140 x142 hwf) mi_X11_heard tw_723 (recv_ (T := ((J, L, I, P, E, N), sgX g ++ dy)) C (WB_L hW) (mx_ rfl) rfl rfl) ⟨rfl, rfl, Nat.le_of_ble_eq_true rfl, Nat.le_of_ble_eq_true rfl⟩ rfl hl.1 rfl (Nat.le_of_ble_eq_true rfl) dL_law_682 ⟨by show 1000 + 10 * k + 0 ≤ 600000; omega, by show 200000 + 20100 * k + 0 ≤ 7302250; omega⟩) (fun r143 u143 H locs hp143 hB hk hS => ?_)
            have hW : WB g A s.heap H locs ((hv J [42] [] u143.1), L, (hv I [] [(6, 6), (6, 7)] u143.2), P, E, N) ((sgX g ++ dy) ++ sgM g) := joinL hW hB hk hS (frsub C (WB_L hW)) (okM hW (fun r h => hv_m (J := J) (R := [42]) (F := []) rfl rfl h) (fun r h => rfl))
            refine lv_pop hx hb dL_law_685 rfl ?_
            refine lv_aload_n hx hb dL_law_686 rfl (lv_at hl 3 rfl) ?_
            refine lv_aload_n hx hb dL_law_687 rfl (lv_at hl 1 rfl) ?_
            refine lv_iload_n hx hb dL_law_688 rfl (lv_at hl 0 rfl) ?_
            refine lv_iconst (v := 1) hx hb dL_law_689 (by decide) ?_
            refine lv_iadd hx hb dL_law_690 ?_
            refine lv_topi (fun x144 (e144 : x144 = i + 1) => ?_)
            try have t144 : x144.toInt = i.toInt + 1 := tadd e144 rfl kp1 (by omega)
            have hin : vp_in x144 Lx := tin rfl (by omega)
            refine va_sld hx hb hX hbl hbA hW.2.2.1 hin dL_law_691 ?_
            refine lv_as x140 (by rw [e140, e139, e144]) ?_
            refine lv_aload_n hx hb dL_law_692 rfl (lv_at hl 1 rfl) ?_
            refine lv_iload_n hx hb dL_law_693 rfl (lv_at hl 0 rfl) ?_
            refine lv_iconst (v := 2) hx hb dL_law_694 (by decide) ?_
            refine lv_iadd hx hb dL_law_695 ?_
            refine lv_topi (fun x145 (e145 : x145 = i + 2) => ?_)
            try have t145 : x145.toInt = i.toInt + 2 := tadd e145 rfl kp2 (by omega)
            have hin : vp_in x145 Lx := tin rfl (by omega)
            refine va_sld hx hb hX hbl hbA hW.2.2.1 hin dL_law_696 ?_
            refine lv_as x142 (by rw [e142, e141, e145]) ?_
            refine ci2_ C (WB_R hW) (runV (x := g.2.2.1 13) (As := [.int x140, .int x142]) (rest := []) (T := (((hv J [42] [] u143.1), L, (hv I [] [(6, 6), (6, 7)] u143.2), P, E, N), sgM g)) C (WB_R hW) (c_X12_heard l g (hv J [42] [] u143.1) L (hv I [] [(6, 6), (6, 7)] u143.2) P E N H.size x140 x142 hwm) mi_X12_heard tw_1402 (recv_ (T := (((hv J [42] [] u143.1), L, (hv I [] [(6, 6), (6, 7)] u143.2), P, E, N), sgM g)) C (WB_R hW) (mm_ rfl) rfl rfl) ⟨rfl, rfl, Nat.le_of_ble_eq_true rfl, Nat.le_of_ble_eq_true rfl⟩ rfl hl.1 rfl (Nat.le_of_ble_eq_true rfl) dL_law_697 ⟨by show 1000 + 10 * k + 0 + 0 ≤ 600000; omega, by show 200000 + 20100 * k + 0 + 0 ≤ 7302250; omega⟩) (fun r146 u146 H locs hp146 hB hk hS => ?_)
            have hW : WB g A s.heap H locs ((hv (hv J [42] [] u143.1) [100, 146] [] u146), L, (hv I [] [(6, 6), (6, 7)] u143.2), P, E, N) ((sgX g ++ dy) ++ sgM g) := joinR hW hB hk hS (frsub C (WB_R hW)) (fun x hx => cel_x (hv_x rfl rfl (notm hW x hx)))
            refine lv_pop hx hb dL_law_700 rfl ?_
            refine lv_goto (tgt := 1389) hx hb dL_law_701 (by decide) ?_
            obtain ⟨x147, e147⟩ : ∃ y : Int32, y = i + 5 := ⟨_, rfl⟩
            refine lv_iinc (v := x147) (lv' := [(3, .int x147), (0, .ref b), (1, .ref (g.2.2.1 12)), (2, .ref (g.2.2.1 13))]) hx hb dL_law_1389 hl (k := 0) rfl (by rw [e147]; rfl) (by decide) rfl (fun ls hl => ?_)
            try have t147 : x147.toInt = i.toInt + 5 := tadd e147 rfl kp5 (by omega)
            refine lv_goto (tgt := 18) hx hb dL_law_1392 (by decide) ?_
            refine W.widen (k := 1000 + 10 * (k + 1)) (n := 200000 + 20100 * (k + 1)) (by omega) (by omega) ?_
            exact ih (k + 1) x147 (hv (hv J [42] [] u143.1) [100, 146] [] u146) L (hv I [] [(6, 6), (6, 7)] u143.2) P E N dy H locs ls (by omega) (by omega) (by omega) hwf hwm hnow hrl hac hrel0 hW (lv_sub hl [0, 1, 2, 3] rfl)
          · refine lv_tableIn (off := 672) (tgt := 704) hx hb dL_law_32 (Int.not_lt.mpr c6) (Int.not_lt.mpr c6b) (by rw [c6k]; rfl) (by decide) ?_
            refine lv_aload_n hx hb dL_law_704 rfl (lv_at hl 2 rfl) ?_
            refine lv_aload_n hx hb dL_law_705 rfl (lv_at hl 1 rfl) ?_
            refine lv_iload_n hx hb dL_law_706 rfl (lv_at hl 0 rfl) ?_
            refine lv_iconst (v := 1) hx hb dL_law_707 (by decide) ?_
            refine lv_iadd hx hb dL_law_708 ?_
            refine lv_topi (fun x148 (e148 : x148 = i + 1) => ?_)
            try have t148 : x148.toInt = i.toInt + 1 := tadd e148 rfl kp1 (by omega)
            have hin : vp_in x148 Lx := tin rfl (by omega)
            refine va_sld hx hb hX hbl hbA hW.2.2.1 hin dL_law_709 ?_
            refine lv_topi (fun x149 (e149 : x149 = xs x148.toNatClampNeg) => ?_)
            refine lv_aload_n hx hb dL_law_710 rfl (lv_at hl 1 rfl) ?_
            refine lv_iload_n hx hb dL_law_711 rfl (lv_at hl 0 rfl) ?_
            refine lv_iconst (v := 2) hx hb dL_law_712 (by decide) ?_
            refine lv_iadd hx hb dL_law_713 ?_
            refine lv_topi (fun x150 (e150 : x150 = i + 2) => ?_)
            try have t150 : x150.toInt = i.toInt + 2 := tadd e150 rfl kp2 (by omega)
            have hin : vp_in x150 Lx := tin rfl (by omega)
            refine va_sld hx hb hX hbl hbA hW.2.2.1 hin dL_law_714 ?_
            refine lv_topi (fun x151 (e151 : x151 = xs x150.toNatClampNeg) => ?_)
            refine lv_i2l (v := x151.toInt64) hx hb dL_law_715 rfl ?_
            refine lv_bipush (v := 32) hx hb dL_law_716 (by decide) ?_
            refine lv_lshl hx hb dL_law_718 rfl ?_
            refine lv_topl (fun z152 ez152 => ?_)
            refine lv_aload_n hx hb dL_law_719 rfl (lv_at hl 1 rfl) ?_
            refine lv_iload_n hx hb dL_law_720 rfl (lv_at hl 0 rfl) ?_
            refine lv_iconst (v := 3) hx hb dL_law_721 (by decide) ?_
            refine lv_iadd hx hb dL_law_722 ?_
            refine lv_topi (fun x153 (e153 : x153 = i + 3) => ?_)
            try have t153 : x153.toInt = i.toInt + 3 := tadd e153 rfl kp3 (by omega)
            have hin : vp_in x153 Lx := tin rfl (by omega)
            refine va_sld hx hb hX hbl hbA hW.2.2.1 hin dL_law_723 ?_
            refine lv_topi (fun x154 (e154 : x154 = xs x153.toNatClampNeg) => ?_)
            refine lv_i2l (v := x154.toInt64) hx hb dL_law_724 rfl ?_
            refine lv_ldc2 hx hb C.1.2.2.2.1 (hts _ tw_1548) dL_law_725 ?_
            refine lv_land hx hb dL_law_728 ?_
            refine lv_topl (fun z155 ez155 => ?_)
            refine lv_lor hx hb dL_law_729 ?_
            refine lv_topl (fun z156 ez156 => ?_)
            refine ci2_ C (WB_L hW) (runV (x := g.2.2.1 12) (As := [.int x149, .long z156]) (rest := []) (T := ((J, L, I, P, E, N), sgX g ++ dy)) C (WB_L hW) (c_X11_feed l g J L I P E N dy H.size x149 z156 hwf) mi_X11_feed tw_728 (recv_ (T := ((J, L, I, P, E, N), sgX g ++ dy)) C (WB_L hW) (mx_ rfl) rfl rfl) ⟨rfl, rfl, Nat.le_of_ble_eq_true rfl, Nat.le_of_ble_eq_true rfl⟩ rfl hl.1 rfl (Nat.le_of_ble_eq_true rfl) dL_law_730 ⟨by show 1000 + 10 * k + 0 ≤ 600000; omega, by show 200000 + 20100 * k + 0 ≤ 7302250; omega⟩) (fun r157 u157 H locs hp157 hB hk hS => ?_)
            have hW : WB g A s.heap H locs ((hv J [42, 43] [(11, 2)] u157), L, I, P, E, N) ((sgX g ++ dy) ++ sgM g) := joinL hW hB hk hS (frsub C (WB_L hW)) (okM hW (fun r h => hv_m (J := J) (R := [42, 43]) (F := [(11, 2)]) rfl rfl h) (fun r h => rfl))
            refine lv_pop hx hb dL_law_733 rfl ?_
            refine lv_aload_n hx hb dL_law_734 rfl (lv_at hl 3 rfl) ?_
            refine lv_aload_n hx hb dL_law_735 rfl (lv_at hl 1 rfl) ?_
            refine lv_iload_n hx hb dL_law_736 rfl (lv_at hl 0 rfl) ?_
            refine lv_iconst (v := 1) hx hb dL_law_737 (by decide) ?_
            refine lv_iadd hx hb dL_law_738 ?_
            refine lv_topi (fun x158 (e158 : x158 = i + 1) => ?_)
            try have t158 : x158.toInt = i.toInt + 1 := tadd e158 rfl kp1 (by omega)
            have hin : vp_in x158 Lx := tin rfl (by omega)
            refine va_sld hx hb hX hbl hbA hW.2.2.1 hin dL_law_739 ?_
            refine lv_as x149 (by rw [e149, e148, e158]) ?_
            refine lv_aload_n hx hb dL_law_740 rfl (lv_at hl 1 rfl) ?_
            refine lv_iload_n hx hb dL_law_741 rfl (lv_at hl 0 rfl) ?_
            refine lv_iconst (v := 2) hx hb dL_law_742 (by decide) ?_
            refine lv_iadd hx hb dL_law_743 ?_
            refine lv_topi (fun x159 (e159 : x159 = i + 2) => ?_)
            try have t159 : x159.toInt = i.toInt + 2 := tadd e159 rfl kp2 (by omega)
            have hin : vp_in x159 Lx := tin rfl (by omega)
            refine va_sld hx hb hX hbl hbA hW.2.2.1 hin dL_law_744 ?_
            refine lv_as x151 (by rw [e151, e150, e159]) ?_
            refine lv_i2l (v := x151.toInt64) hx hb dL_law_745 rfl ?_
            refine lv_bipush (v := 32) hx hb dL_law_746 (by decide) ?_
            refine lv_lshl hx hb dL_law_748 rfl ?_
            refine lv_topl (fun z160 ez160 => ?_)
            refine lv_aload_n hx hb dL_law_749 rfl (lv_at hl 1 rfl) ?_
            refine lv_iload_n hx hb dL_law_750 rfl (lv_at hl 0 rfl) ?_
            refine lv_iconst (v := 3) hx hb dL_law_751 (by decide) ?_
            refine lv_iadd hx hb dL_law_752 ?_
            refine lv_topi (fun x161 (e161 : x161 = i + 3) => ?_)
            try have t161 : x161.toInt = i.toInt + 3 := tadd e161 rfl kp3 (by omega)
            have hin : vp_in x161 Lx := tin rfl (by omega)
            refine va_sld hx hb hX hbl hbA hW.2.2.1 hin dL_law_753 ?_
            refine lv_as x154 (by rw [e154, e153, e161]) ?_
            refine lv_i2l (v := x154.toInt64) hx hb dL_law_754 rfl ?_
            refine lv_ldc2 hx hb C.1.2.2.2.1 (hts _ tw_1548) dL_law_755 ?_
            refine lv_land hx hb dL_law_758 ?_
            refine lv_topl (fun z162 ez162 => ?_)
            refine lv_lor hx hb dL_law_759 ?_
            refine lv_topl (fun z163 ez163 => ?_)
            refine ci2_ C (WB_R hW) (runV (x := g.2.2.1 13) (As := [.int x149, .long z163]) (rest := []) (T := (((hv J [42, 43] [(11, 2)] u157), L, I, P, E, N), sgM g)) C (WB_R hW) (c_X12_feed l g (hv J [42, 43] [(11, 2)] u157) L I P E N H.size x149 z163 hwm) mi_X12_feed tw_1410 (recv_ (T := (((hv J [42, 43] [(11, 2)] u157), L, I, P, E, N), sgM g)) C (WB_R hW) (mm_ rfl) rfl rfl) ⟨rfl, rfl, Nat.le_of_ble_eq_true rfl, Nat.le_of_ble_eq_true rfl⟩ rfl hl.1 rfl (Nat.le_of_ble_eq_true rfl) dL_law_760 ⟨by show 1000 + 10 * k + 0 + 0 ≤ 600000; omega, by show 200000 + 20100 * k + 0 + 0 ≤ 7302250; omega⟩) (fun r164 u164 H locs hp164 hB hk hS => ?_)
            have hW : WB g A s.heap H locs ((hv (hv J [42, 43] [(11, 2)] u157) [100, 153] [(13, 55)] u164), L, I, P, E, N) ((sgX g ++ dy) ++ sgM g) := joinR hW hB hk hS (frsub C (WB_R hW)) (fun x hx => cel_x (hv_x rfl rfl (notm hW x hx)))
            have hwm : WM (hv (hv J [42, 43] [(11, 2)] u157) [100, 153] [(13, 55)] u164) := hp164
            refine lv_pop hx hb dL_law_763 rfl ?_
            refine lv_goto (tgt := 1389) hx hb dL_law_764 (by decide) ?_
            obtain ⟨x165, e165⟩ : ∃ y : Int32, y = i + 5 := ⟨_, rfl⟩
            refine lv_iinc (v := x165) (lv' := [(3, .int x165), (0, .ref b), (1, .ref (g.2.2.1 12)), (2, .ref (g.2.2.1 13))]) hx hb dL_law_1389 hl (k := 0) rfl (by rw [e165]; rfl) (by decide) rfl (fun ls hl => ?_)
            try have t165 : x165.toInt = i.toInt + 5 := tadd e165 rfl kp5 (by omega)
            refine lv_goto (tgt := 18) hx hb dL_law_1392 (by decide) ?_
            refine W.widen (k := 1000 + 10 * (k + 1)) (n := 200000 + 20100 * (k + 1)) (by omega) (by omega) ?_
            exact ih (k + 1) x165 (hv (hv J [42, 43] [(11, 2)] u157) [100, 153] [(13, 55)] u164) L I P E N dy H locs ls (by omega) (by omega) (by omega) hwf hwm hnow hrl hac hrel0 hW (lv_sub hl [0, 1, 2, 3] rfl)
          · refine lv_tableIn (off := 735) (tgt := 767) hx hb dL_law_32 (Int.not_lt.mpr c6) (Int.not_lt.mpr c6b) (by rw [c6k]; rfl) (by decide) ?_
            refine lv_aload_n hx hb dL_law_767 rfl (lv_at hl 2 rfl) ?_
            refine lv_aload_n hx hb dL_law_768 rfl (lv_at hl 1 rfl) ?_
            refine lv_iload_n hx hb dL_law_769 rfl (lv_at hl 0 rfl) ?_
            refine lv_iconst (v := 1) hx hb dL_law_770 (by decide) ?_
            refine lv_iadd hx hb dL_law_771 ?_
            refine lv_topi (fun x166 (e166 : x166 = i + 1) => ?_)
            try have t166 : x166.toInt = i.toInt + 1 := tadd e166 rfl kp1 (by omega)
            have hin : vp_in x166 Lx := tin rfl (by omega)
            refine va_sld hx hb hX hbl hbA hW.2.2.1 hin dL_law_772 ?_
            refine lv_topi (fun x167 (e167 : x167 = xs x166.toNatClampNeg) => ?_)
            refine lv_aload_n hx hb dL_law_773 rfl (lv_at hl 1 rfl) ?_
            refine lv_iload_n hx hb dL_law_774 rfl (lv_at hl 0 rfl) ?_
            refine lv_iconst (v := 2) hx hb dL_law_775 (by decide) ?_
            refine lv_iadd hx hb dL_law_776 ?_
            refine lv_topi (fun x168 (e168 : x168 = i + 2) => ?_)
            try have t168 : x168.toInt = i.toInt + 2 := tadd e168 rfl kp2 (by omega)
            have hin : vp_in x168 Lx := tin rfl (by omega)
            refine va_sld hx hb hX hbl hbA hW.2.2.1 hin dL_law_777 ?_
            refine lv_topi (fun x169 (e169 : x169 = xs x168.toNatClampNeg) => ?_)
            refine ci2_ C (WB_L hW) (runV (x := g.2.2.1 12) (As := [.int x167, .int x169]) (rest := []) (T := ((J, L, I, P, E, N), sgX g ++ dy)) C (WB_L hW) (c_X11_term l g J L I P E N dy H.size x167 x169 hwf) mi_X11_term tw_736 (recv_ (T := ((J, L, I, P, E, N), sgX g ++ dy)) C (WB_L hW) (mx_ rfl) rfl rfl) ⟨rfl, rfl, Nat.le_of_ble_eq_true rfl, Nat.le_of_ble_eq_true rfl⟩ rfl hl.1 rfl (Nat.le_of_ble_eq_true rfl) dL_law_778 ⟨by show 1000 + 10 * k + 10 ≤ 600000; omega, by show 200000 + 20100 * k + 20100 ≤ 7302250; omega⟩) (fun r170 u170 H locs hp170 hB hk hS => ?_)
            have hW : WB g A s.heap H locs ((hv J [42, 44] [(11, 2), (11, 3), (11, 4), (25, 0), (25, 2)] u170.1), L, (hv I [10, 46] [] u170.2.1), (hv P [10, 35, 46] [] u170.2.2.1), (hv1 E [25] u170.2.2.2.1), u170.2.2.2.2.1) ((sgX g ++ u170.2.2.2.2.2) ++ sgM g) := joinL hW hB hk hS (frsub C (WB_L hW)) (okM hW (fun r h => hv_m (J := J) (R := [42, 44]) (F := [(11, 2), (11, 3), (11, 4), (25, 0), (25, 2)]) rfl rfl h) (fun r h => rfl))
            obtain ⟨hwf, hdd170⟩ := hp170
            refine lv_pop hx hb dL_law_781 rfl ?_
            refine lv_aload_n hx hb dL_law_782 rfl (lv_at hl 3 rfl) ?_
            refine lv_aload_n hx hb dL_law_783 rfl (lv_at hl 1 rfl) ?_
            refine lv_iload_n hx hb dL_law_784 rfl (lv_at hl 0 rfl) ?_
            refine lv_iconst (v := 1) hx hb dL_law_785 (by decide) ?_
            refine lv_iadd hx hb dL_law_786 ?_
            refine lv_topi (fun x171 (e171 : x171 = i + 1) => ?_)
            try have t171 : x171.toInt = i.toInt + 1 := tadd e171 rfl kp1 (by omega)
            have hin : vp_in x171 Lx := tin rfl (by omega)
            refine va_sld hx hb hX hbl hbA hW.2.2.1 hin dL_law_787 ?_
            refine lv_as x167 (by rw [e167, e166, e171]) ?_
            refine lv_aload_n hx hb dL_law_788 rfl (lv_at hl 1 rfl) ?_
            refine lv_iload_n hx hb dL_law_789 rfl (lv_at hl 0 rfl) ?_
            refine lv_iconst (v := 2) hx hb dL_law_790 (by decide) ?_
            refine lv_iadd hx hb dL_law_791 ?_
            refine lv_topi (fun x172 (e172 : x172 = i + 2) => ?_)
            try have t172 : x172.toInt = i.toInt + 2 := tadd e172 rfl kp2 (by omega)
            have hin : vp_in x172 Lx := tin rfl (by omega)
            refine va_sld hx hb hX hbl hbA hW.2.2.1 hin dL_law_792 ?_
            refine lv_as x169 (by rw [e169, e168, e172]) ?_
            refine ci2_ C (WB_R hW) (runV (x := g.2.2.1 13) (As := [.int x167, .int x169]) (rest := []) (T := (((hv J [42, 44] [(11, 2), (11, 3), (11, 4), (25, 0), (25, 2)] u170.1), L, (hv I [10, 46] [] u170.2.1), (hv P [10, 35, 46] [] u170.2.2.1), (hv1 E [25] u170.2.2.2.1), u170.2.2.2.2.1), sgM g)) C (WB_R hW) (c_X12_term_ l g (hv J [42, 44] [(11, 2), (11, 3), (11, 4), (25, 0), (25, 2)] u170.1) L (hv I [10, 46] [] u170.2.1) (hv P [10, 35, 46] [] u170.2.2.1) (hv1 E [25] u170.2.2.2.1) u170.2.2.2.2.1 H.size x167 x169 hwm) mi_X12_term_ tw_1415 (recv_ (T := (((hv J [42, 44] [(11, 2), (11, 3), (11, 4), (25, 0), (25, 2)] u170.1), L, (hv I [10, 46] [] u170.2.1), (hv P [10, 35, 46] [] u170.2.2.1), (hv1 E [25] u170.2.2.2.1), u170.2.2.2.2.1), sgM g)) C (WB_R hW) (mm_ rfl) rfl rfl) ⟨rfl, rfl, Nat.le_of_ble_eq_true rfl, Nat.le_of_ble_eq_true rfl⟩ rfl hl.1 rfl (Nat.le_of_ble_eq_true rfl) dL_law_793 ⟨by show 1000 + 10 * k + 10 + 0 ≤ 600000; omega, by show 200000 + 20100 * k + 20100 + 0 ≤ 7302250; omega⟩) (fun r173 u173 H locs hp173 hB hk hS => ?_)
            have hW : WB g A s.heap H locs ((hv (hv J [42, 44] [(11, 2), (11, 3), (11, 4), (25, 0), (25, 2)] u170.1) [100, 121, 122, 123, 124] [(13, 40), (13, 55), (13, 56), (13, 57), (13, 58), (13, 59), (13, 60)] u173), L, (hv I [10, 46] [] u170.2.1), (hv P [10, 35, 46] [] u170.2.2.1), (hv1 E [25] u170.2.2.2.1), u170.2.2.2.2.1) ((sgX g ++ u170.2.2.2.2.2) ++ sgM g) := joinR hW hB hk hS (frsub C (WB_R hW)) (fun x hx => cel_x (hv_x rfl rfl (notm hW x hx)))
            have hwm : WM (hv (hv J [42, 44] [(11, 2), (11, 3), (11, 4), (25, 0), (25, 2)] u170.1) [100, 121, 122, 123, 124] [(13, 40), (13, 55), (13, 56), (13, 57), (13, 58), (13, 59), (13, 60)] u173) := hp173
            refine lv_pop hx hb dL_law_796 rfl ?_
            refine lv_goto (tgt := 1389) hx hb dL_law_797 (by decide) ?_
            obtain ⟨x174, e174⟩ : ∃ y : Int32, y = i + 5 := ⟨_, rfl⟩
            refine lv_iinc (v := x174) (lv' := [(3, .int x174), (0, .ref b), (1, .ref (g.2.2.1 12)), (2, .ref (g.2.2.1 13))]) hx hb dL_law_1389 hl (k := 0) rfl (by rw [e174]; rfl) (by decide) rfl (fun ls hl => ?_)
            try have t174 : x174.toInt = i.toInt + 5 := tadd e174 rfl kp5 (by omega)
            refine lv_goto (tgt := 18) hx hb dL_law_1392 (by decide) ?_
            refine W.widen (k := 1000 + 10 * (k + 1)) (n := 200000 + 20100 * (k + 1)) (by omega) (by omega) ?_
            exact ih (k + 1) x174 (hv (hv J [42, 44] [(11, 2), (11, 3), (11, 4), (25, 0), (25, 2)] u170.1) [100, 121, 122, 123, 124] [(13, 40), (13, 55), (13, 56), (13, 57), (13, 58), (13, 59), (13, 60)] u173) L (hv I [10, 46] [] u170.2.1) (hv P [10, 35, 46] [] u170.2.2.1) (hv1 E [25] u170.2.2.2.1) u170.2.2.2.2.1 u170.2.2.2.2.2 H locs ls (by omega) (by omega) (by omega) hwf hwm hnow hrl hac hrel0 hW (lv_sub hl [0, 1, 2, 3] rfl)
          · refine lv_tableIn (off := 768) (tgt := 800) hx hb dL_law_32 (Int.not_lt.mpr c6) (Int.not_lt.mpr c6b) (by rw [c6k]; rfl) (by decide) ?_
            refine lv_aload_n hx hb dL_law_800 rfl (lv_at hl 2 rfl) ?_
            refine lv_aload_n hx hb dL_law_801 rfl (lv_at hl 1 rfl) ?_
            refine lv_iload_n hx hb dL_law_802 rfl (lv_at hl 0 rfl) ?_
            refine lv_iconst (v := 1) hx hb dL_law_803 (by decide) ?_
            refine lv_iadd hx hb dL_law_804 ?_
            refine lv_topi (fun x175 (e175 : x175 = i + 1) => ?_)
            try have t175 : x175.toInt = i.toInt + 1 := tadd e175 rfl kp1 (by omega)
            have hin : vp_in x175 Lx := tin rfl (by omega)
            refine va_sld hx hb hX hbl hbA hW.2.2.1 hin dL_law_805 ?_
            refine lv_topi (fun x176 (e176 : x176 = xs x175.toNatClampNeg) => ?_)
            refine lv_aload_n hx hb dL_law_806 rfl (lv_at hl 1 rfl) ?_
            refine lv_iload_n hx hb dL_law_807 rfl (lv_at hl 0 rfl) ?_
            refine lv_iconst (v := 2) hx hb dL_law_808 (by decide) ?_
            refine lv_iadd hx hb dL_law_809 ?_
            refine lv_topi (fun x177 (e177 : x177 = i + 2) => ?_)
            try have t177 : x177.toInt = i.toInt + 2 := tadd e177 rfl kp2 (by omega)
            have hin : vp_in x177 Lx := tin rfl (by omega)
            refine va_sld hx hb hX hbl hbA hW.2.2.1 hin dL_law_810 ?_
            refine lv_topi (fun x178 (e178 : x178 = xs x177.toNatClampNeg) => ?_)
            refine ci2_ C (WB_L hW) (runV (x := g.2.2.1 12) (As := [.int x176, .int x178]) (rest := []) (T := ((J, L, I, P, E, N), sgX g ++ dy)) C (WB_L hW) (c_X11_worth l g J L I P E N dy H.size x176 x178 hwf) mi_X11_worth tw_821 (recv_ (T := ((J, L, I, P, E, N), sgX g ++ dy)) C (WB_L hW) (mx_ rfl) rfl rfl) ⟨rfl, rfl, Nat.le_of_ble_eq_true rfl, Nat.le_of_ble_eq_true rfl⟩ rfl hl.1 rfl (Nat.le_of_ble_eq_true rfl) dL_law_811 ⟨by show 1000 + 10 * k + 0 ≤ 600000; omega, by show 200000 + 20100 * k + 0 ≤ 7302250; omega⟩) (fun r179 u179 H locs hp179 hB hk hS => ?_)
            have hW : WB g A s.heap H locs ((hv J [42, 45] [(4, 6), (4, 7), (8, 1), (8, 2), (8, 3), (8, 4), (8, 5), (8, 6), (8, 7), (8, 8), (8, 9)] u179.1), L, (hv I [] [(6, 6), (6, 7)] u179.2), P, E, N) ((sgX g ++ dy) ++ sgM g) := joinL hW hB hk hS (frsub C (WB_L hW)) (okM hW (fun r h => hv_m (J := J) (R := [42, 45]) (F := [(4, 6), (4, 7), (8, 1), (8, 2), (8, 3), (8, 4), (8, 5), (8, 6), (8, 7), (8, 8), (8, 9)]) rfl rfl h) (fun r h => rfl))
            refine lv_pop hx hb dL_law_814 rfl ?_
            refine lv_aload_n hx hb dL_law_815 rfl (lv_at hl 3 rfl) ?_
            refine lv_aload_n hx hb dL_law_816 rfl (lv_at hl 1 rfl) ?_
            refine lv_iload_n hx hb dL_law_817 rfl (lv_at hl 0 rfl) ?_
            refine lv_iconst (v := 1) hx hb dL_law_818 (by decide) ?_
            refine lv_iadd hx hb dL_law_819 ?_
            refine lv_topi (fun x180 (e180 : x180 = i + 1) => ?_)
            try have t180 : x180.toInt = i.toInt + 1 := tadd e180 rfl kp1 (by omega)
            have hin : vp_in x180 Lx := tin rfl (by omega)
            refine va_sld hx hb hX hbl hbA hW.2.2.1 hin dL_law_820 ?_
            refine lv_as x176 (by rw [e176, e175, e180]) ?_
            refine lv_aload_n hx hb dL_law_821 rfl (lv_at hl 1 rfl) ?_
            refine lv_iload_n hx hb dL_law_822 rfl (lv_at hl 0 rfl) ?_
            refine lv_iconst (v := 2) hx hb dL_law_823 (by decide) ?_
            refine lv_iadd hx hb dL_law_824 ?_
            refine lv_topi (fun x181 (e181 : x181 = i + 2) => ?_)
            try have t181 : x181.toInt = i.toInt + 2 := tadd e181 rfl kp2 (by omega)
            have hin : vp_in x181 Lx := tin rfl (by omega)
            refine va_sld hx hb hX hbl hbA hW.2.2.1 hin dL_law_825 ?_
            refine lv_as x178 (by rw [e178, e177, e181]) ?_
            refine ci2_ C (WB_R hW) (runV (x := g.2.2.1 13) (As := [.int x176, .int x178]) (rest := []) (T := (((hv J [42, 45] [(4, 6), (4, 7), (8, 1), (8, 2), (8, 3), (8, 4), (8, 5), (8, 6), (8, 7), (8, 8), (8, 9)] u179.1), L, (hv I [] [(6, 6), (6, 7)] u179.2), P, E, N), sgM g)) C (WB_R hW) (c_X12_worth_ l g (hv J [42, 45] [(4, 6), (4, 7), (8, 1), (8, 2), (8, 3), (8, 4), (8, 5), (8, 6), (8, 7), (8, 8), (8, 9)] u179.1) L (hv I [] [(6, 6), (6, 7)] u179.2) P E N H.size x176 x178 hwm) mi_X12_worth_ tw_1419 (recv_ (T := (((hv J [42, 45] [(4, 6), (4, 7), (8, 1), (8, 2), (8, 3), (8, 4), (8, 5), (8, 6), (8, 7), (8, 8), (8, 9)] u179.1), L, (hv I [] [(6, 6), (6, 7)] u179.2), P, E, N), sgM g)) C (WB_R hW) (mm_ rfl) rfl rfl) ⟨rfl, rfl, Nat.le_of_ble_eq_true rfl, Nat.le_of_ble_eq_true rfl⟩ rfl hl.1 rfl (Nat.le_of_ble_eq_true rfl) dL_law_826 ⟨by show 1000 + 10 * k + 0 + 0 ≤ 600000; omega, by show 200000 + 20100 * k + 0 + 0 ≤ 7302250; omega⟩) (fun r182 u182 H locs hp182 hB hk hS => ?_)
            have hW : WB g A s.heap H locs ((hv (hv J [42, 45] [(4, 6), (4, 7), (8, 1), (8, 2), (8, 3), (8, 4), (8, 5), (8, 6), (8, 7), (8, 8), (8, 9)] u179.1) [100, 146, 150, 151, 152, 154] [(13, 47), (13, 48), (13, 56), (13, 57), (13, 58), (13, 59), (13, 60)] u182), L, (hv I [] [(6, 6), (6, 7)] u179.2), P, E, N) ((sgX g ++ dy) ++ sgM g) := joinR hW hB hk hS (frsub C (WB_R hW)) (fun x hx => cel_x (hv_x rfl rfl (notm hW x hx)))
            refine lv_pop hx hb dL_law_829 rfl ?_
            refine lv_goto (tgt := 1389) hx hb dL_law_830 (by decide) ?_
            obtain ⟨x183, e183⟩ : ∃ y : Int32, y = i + 5 := ⟨_, rfl⟩
            refine lv_iinc (v := x183) (lv' := [(3, .int x183), (0, .ref b), (1, .ref (g.2.2.1 12)), (2, .ref (g.2.2.1 13))]) hx hb dL_law_1389 hl (k := 0) rfl (by rw [e183]; rfl) (by decide) rfl (fun ls hl => ?_)
            try have t183 : x183.toInt = i.toInt + 5 := tadd e183 rfl kp5 (by omega)
            refine lv_goto (tgt := 18) hx hb dL_law_1392 (by decide) ?_
            refine W.widen (k := 1000 + 10 * (k + 1)) (n := 200000 + 20100 * (k + 1)) (by omega) (by omega) ?_
            exact ih (k + 1) x183 (hv (hv J [42, 45] [(4, 6), (4, 7), (8, 1), (8, 2), (8, 3), (8, 4), (8, 5), (8, 6), (8, 7), (8, 8), (8, 9)] u179.1) [100, 146, 150, 151, 152, 154] [(13, 47), (13, 48), (13, 56), (13, 57), (13, 58), (13, 59), (13, 60)] u182) L (hv I [] [(6, 6), (6, 7)] u179.2) P E N dy H locs ls (by omega) (by omega) (by omega) hwf hwm hnow hrl hac hrel0 hW (lv_sub hl [0, 1, 2, 3] rfl)
          · refine lv_tableIn (off := 801) (tgt := 833) hx hb dL_law_32 (Int.not_lt.mpr c6) (Int.not_lt.mpr c6b) (by rw [c6k]; rfl) (by decide) ?_
            refine lv_aload_n hx hb dL_law_833 rfl (lv_at hl 2 rfl) ?_
            refine lv_aload_n hx hb dL_law_834 rfl (lv_at hl 1 rfl) ?_
            refine lv_iload_n hx hb dL_law_835 rfl (lv_at hl 0 rfl) ?_
            refine lv_iconst (v := 1) hx hb dL_law_836 (by decide) ?_
            refine lv_iadd hx hb dL_law_837 ?_
            refine lv_topi (fun x184 (e184 : x184 = i + 1) => ?_)
            try have t184 : x184.toInt = i.toInt + 1 := tadd e184 rfl kp1 (by omega)
            have hin : vp_in x184 Lx := tin rfl (by omega)
            refine va_sld hx hb hX hbl hbA hW.2.2.1 hin dL_law_838 ?_
            refine lv_topi (fun x185 (e185 : x185 = xs x184.toNatClampNeg) => ?_)
            refine lv_aload_n hx hb dL_law_839 rfl (lv_at hl 1 rfl) ?_
            refine lv_iload_n hx hb dL_law_840 rfl (lv_at hl 0 rfl) ?_
            refine lv_iconst (v := 2) hx hb dL_law_841 (by decide) ?_
            refine lv_iadd hx hb dL_law_842 ?_
            refine lv_topi (fun x186 (e186 : x186 = i + 2) => ?_)
            try have t186 : x186.toInt = i.toInt + 2 := tadd e186 rfl kp2 (by omega)
            have hin : vp_in x186 Lx := tin rfl (by omega)
            refine va_sld hx hb hX hbl hbA hW.2.2.1 hin dL_law_843 ?_
            refine lv_topi (fun x187 (e187 : x187 = xs x186.toNatClampNeg) => ?_)
            refine cl2_ C (WB_L hW) (runV (x := g.2.2.1 12) (As := [.int x185, .int x187]) (rest := []) (T := ((J, L, I, P, E, N), sgX g ++ dy)) C (WB_L hW) (c_X11_account l g J L I P E N dy H.size x185 x187 hwf) mi_X11_account tw_834 (recv_ (T := ((J, L, I, P, E, N), sgX g ++ dy)) C (WB_L hW) (mx_ rfl) rfl rfl) ⟨rfl, rfl, Nat.le_of_ble_eq_true rfl, Nat.le_of_ble_eq_true rfl⟩ rfl hl.1 rfl (Nat.le_of_ble_eq_true rfl) dL_law_844 ⟨by show 1000 + 10 * k + 0 ≤ 600000; omega, by show 200000 + 20100 * k + 0 ≤ 7302250; omega⟩) (fun z188 u188 H locs hp188 hB hk hS => ?_)
            have hW : WB g A s.heap H locs ((hv J [42, 45] [(4, 6), (4, 7), (8, 1), (8, 2), (8, 3), (8, 4), (8, 5), (8, 6), (8, 7), (8, 8), (8, 9)] u188.1), L, (hv I [] [(6, 6), (6, 7)] u188.2), P, E, N) ((sgX g ++ dy) ++ sgM g) := joinL hW hB hk hS (frsub C (WB_L hW)) (okM hW (fun r h => hv_m (J := J) (R := [42, 45]) (F := [(4, 6), (4, 7), (8, 1), (8, 2), (8, 3), (8, 4), (8, 5), (8, 6), (8, 7), (8, 8), (8, 9)]) rfl rfl h) (fun r h => rfl))
            refine lv_pop2_2 hx hb dL_law_847 rfl ?_
            refine lv_aload_n hx hb dL_law_848 rfl (lv_at hl 3 rfl) ?_
            refine lv_aload_n hx hb dL_law_849 rfl (lv_at hl 1 rfl) ?_
            refine lv_iload_n hx hb dL_law_850 rfl (lv_at hl 0 rfl) ?_
            refine lv_iconst (v := 1) hx hb dL_law_851 (by decide) ?_
            refine lv_iadd hx hb dL_law_852 ?_
            refine lv_topi (fun x189 (e189 : x189 = i + 1) => ?_)
            try have t189 : x189.toInt = i.toInt + 1 := tadd e189 rfl kp1 (by omega)
            have hin : vp_in x189 Lx := tin rfl (by omega)
            refine va_sld hx hb hX hbl hbA hW.2.2.1 hin dL_law_853 ?_
            refine lv_as x185 (by rw [e185, e184, e189]) ?_
            refine lv_aload_n hx hb dL_law_854 rfl (lv_at hl 1 rfl) ?_
            refine lv_iload_n hx hb dL_law_855 rfl (lv_at hl 0 rfl) ?_
            refine lv_iconst (v := 2) hx hb dL_law_856 (by decide) ?_
            refine lv_iadd hx hb dL_law_857 ?_
            refine lv_topi (fun x190 (e190 : x190 = i + 2) => ?_)
            try have t190 : x190.toInt = i.toInt + 2 := tadd e190 rfl kp2 (by omega)
            have hin : vp_in x190 Lx := tin rfl (by omega)
            refine va_sld hx hb hX hbl hbA hW.2.2.1 hin dL_law_858 ?_
            refine lv_as x187 (by rw [e187, e186, e190]) ?_
            refine cl2_ C (WB_R hW) (runV (x := g.2.2.1 13) (As := [.int x185, .int x187]) (rest := []) (T := (((hv J [42, 45] [(4, 6), (4, 7), (8, 1), (8, 2), (8, 3), (8, 4), (8, 5), (8, 6), (8, 7), (8, 8), (8, 9)] u188.1), L, (hv I [] [(6, 6), (6, 7)] u188.2), P, E, N), sgM g)) C (WB_R hW) (c_X12_account l g (hv J [42, 45] [(4, 6), (4, 7), (8, 1), (8, 2), (8, 3), (8, 4), (8, 5), (8, 6), (8, 7), (8, 8), (8, 9)] u188.1) L (hv I [] [(6, 6), (6, 7)] u188.2) P E N H.size x185 x187 hwm) mi_X12_account tw_1432 (recv_ (T := (((hv J [42, 45] [(4, 6), (4, 7), (8, 1), (8, 2), (8, 3), (8, 4), (8, 5), (8, 6), (8, 7), (8, 8), (8, 9)] u188.1), L, (hv I [] [(6, 6), (6, 7)] u188.2), P, E, N), sgM g)) C (WB_R hW) (mm_ rfl) rfl rfl) ⟨rfl, rfl, Nat.le_of_ble_eq_true rfl, Nat.le_of_ble_eq_true rfl⟩ rfl hl.1 rfl (Nat.le_of_ble_eq_true rfl) dL_law_859 ⟨by show 1000 + 10 * k + 0 + 0 ≤ 600000; omega, by show 200000 + 20100 * k + 0 + 0 ≤ 7302250; omega⟩) (fun z191 u191 H locs hp191 hB hk hS => ?_)
            have hW : WB g A s.heap H locs ((hv (hv J [42, 45] [(4, 6), (4, 7), (8, 1), (8, 2), (8, 3), (8, 4), (8, 5), (8, 6), (8, 7), (8, 8), (8, 9)] u188.1) [100, 146, 150, 151, 152, 154, 161, 162, 163, 164] [(13, 47), (13, 48), (13, 56), (13, 57), (13, 58), (13, 59), (13, 60)] u191), L, (hv I [] [(6, 6), (6, 7)] u188.2), P, E, N) ((sgX g ++ dy) ++ sgM g) := joinR hW hB hk hS (frsub C (WB_R hW)) (fun x hx => cel_x (hv_x rfl rfl (notm hW x hx)))
            refine lv_pop2_2 hx hb dL_law_862 rfl ?_
            refine lv_goto (tgt := 1389) hx hb dL_law_863 (by decide) ?_
            obtain ⟨x192, e192⟩ : ∃ y : Int32, y = i + 5 := ⟨_, rfl⟩
            refine lv_iinc (v := x192) (lv' := [(3, .int x192), (0, .ref b), (1, .ref (g.2.2.1 12)), (2, .ref (g.2.2.1 13))]) hx hb dL_law_1389 hl (k := 0) rfl (by rw [e192]; rfl) (by decide) rfl (fun ls hl => ?_)
            try have t192 : x192.toInt = i.toInt + 5 := tadd e192 rfl kp5 (by omega)
            refine lv_goto (tgt := 18) hx hb dL_law_1392 (by decide) ?_
            refine W.widen (k := 1000 + 10 * (k + 1)) (n := 200000 + 20100 * (k + 1)) (by omega) (by omega) ?_
            exact ih (k + 1) x192 (hv (hv J [42, 45] [(4, 6), (4, 7), (8, 1), (8, 2), (8, 3), (8, 4), (8, 5), (8, 6), (8, 7), (8, 8), (8, 9)] u188.1) [100, 146, 150, 151, 152, 154, 161, 162, 163, 164] [(13, 47), (13, 48), (13, 56), (13, 57), (13, 58), (13, 59), (13, 60)] u191) L (hv I [] [(6, 6), (6, 7)] u188.2) P E N dy H locs ls (by omega) (by omega) (by omega) hwf hwm hnow hrl hac hrel0 hW (lv_sub hl [0, 1, 2, 3] rfl)
          · refine lv_tableIn (off := 834) (tgt := 866) hx hb dL_law_32 (Int.not_lt.mpr c6) (Int.not_lt.mpr c6b) (by rw [c6k]; rfl) (by decide) ?_
            refine lv_aload_n hx hb dL_law_866 rfl (lv_at hl 2 rfl) ?_
            refine lv_aload_n hx hb dL_law_867 rfl (lv_at hl 1 rfl) ?_
            refine lv_iload_n hx hb dL_law_868 rfl (lv_at hl 0 rfl) ?_
            refine lv_iconst (v := 1) hx hb dL_law_869 (by decide) ?_
            refine lv_iadd hx hb dL_law_870 ?_
            refine lv_topi (fun x193 (e193 : x193 = i + 1) => ?_)
            try have t193 : x193.toInt = i.toInt + 1 := tadd e193 rfl kp1 (by omega)
            have hin : vp_in x193 Lx := tin rfl (by omega)
            refine va_sld hx hb hX hbl hbA hW.2.2.1 hin dL_law_871 ?_
            refine lv_topi (fun x194 (e194 : x194 = xs x193.toNatClampNeg) => ?_)
            refine lv_aload_n hx hb dL_law_872 rfl (lv_at hl 1 rfl) ?_
            refine lv_iload_n hx hb dL_law_873 rfl (lv_at hl 0 rfl) ?_
            refine lv_iconst (v := 2) hx hb dL_law_874 (by decide) ?_
            refine lv_iadd hx hb dL_law_875 ?_
            refine lv_topi (fun x195 (e195 : x195 = i + 2) => ?_)
            try have t195 : x195.toInt = i.toInt + 2 := tadd e195 rfl kp2 (by omega)
            have hin : vp_in x195 Lx := tin rfl (by omega)
            refine va_sld hx hb hX hbl hbA hW.2.2.1 hin dL_law_876 ?_
            refine lv_topi (fun x196 (e196 : x196 = xs x195.toNatClampNeg) => ?_)
            refine lv_if_eq (tgt := 884) hx hb dL_law_877 (by decide) (fun c197 => ?_) (fun c197 => ?_)
            · have c197 : x196.toInt = 0 := teq rfl kp0 c197
              refine lv_iconst (v := 0) hx hb dL_law_884 (by decide) ?_
              refine ci2_ C (WB_L hW) (runV (x := g.2.2.1 12) (As := [.int x194, .int 0]) (rest := []) (T := ((J, L, I, P, E, N), sgX g ++ dy)) C (WB_L hW) (c_X11_complain_e l g J L I P E N dy H.size x194 (0 : Int32) hwf (Or.inl rfl)) mi_X11_complain tw_848 (recv_ (T := ((J, L, I, P, E, N), sgX g ++ dy)) C (WB_L hW) (mx_ rfl) rfl rfl) ⟨rfl, rfl, Nat.le_of_ble_eq_true rfl, Nat.le_of_ble_eq_true rfl⟩ rfl hl.1 rfl (Nat.le_of_ble_eq_true rfl) dL_law_885 ⟨by show 1000 + 10 * k + 0 ≤ 600000; omega, by show 200000 + 20100 * k + 0 ≤ 7302250; omega⟩) (fun r198 u198 H locs hp198 hB hk hS => ?_)
              have hW : WB g A s.heap H locs ((hv J [42] [] u198.1), L, (hv I [] [(2, 4)] u198.2), P, E, N) ((sgX g ++ dy) ++ sgM g) := joinL hW hB hk hS (frsub C (WB_L hW)) (okM hW (fun r h => hv_m (J := J) (R := [42]) (F := []) rfl rfl h) (fun r h => rfl))
              have hc198 : ((r198.toInt = (-1) ∧ (¬ (0 ≤ x194.toInt ∧ x194.toInt < (J 22 2).toInt)) ∧ u198.2 2 4 = I 2 4) ∨ (r198.toInt = 0 ∧ (0 ≤ x194.toInt ∧ x194.toInt < (J 22 2).toInt) ∧ (I 2 4 (elt E P 22 x194.toNatClampNeg)).toInt = 0 ∧ u198.2 2 4 = I 2 4) ∨ (r198.toInt = 1 ∧ (0 ≤ x194.toInt ∧ x194.toInt < (J 22 2).toInt) ∧ ¬ (I 2 4 (elt E P 22 x194.toNatClampNeg)).toInt = 0 ∧ (∀ b : Nat, b ≠ elt E P 22 x194.toNatClampNeg → u198.2 2 4 b = I 2 4 b) ∧ u198.2 2 4 (elt E P 22 x194.toNatClampNeg) = 0)) := hp198
              refine lv_pop hx hb dL_law_888 rfl ?_
              refine lv_aload_n hx hb dL_law_889 rfl (lv_at hl 3 rfl) ?_
              refine lv_aload_n hx hb dL_law_890 rfl (lv_at hl 1 rfl) ?_
              refine lv_iload_n hx hb dL_law_891 rfl (lv_at hl 0 rfl) ?_
              refine lv_iconst (v := 1) hx hb dL_law_892 (by decide) ?_
              refine lv_iadd hx hb dL_law_893 ?_
              refine lv_topi (fun x199 (e199 : x199 = i + 1) => ?_)
              try have t199 : x199.toInt = i.toInt + 1 := tadd e199 rfl kp1 (by omega)
              have hin : vp_in x199 Lx := tin rfl (by omega)
              refine va_sld hx hb hX hbl hbA hW.2.2.1 hin dL_law_894 ?_
              refine lv_as x194 (by rw [e194, e193, e199]) ?_
              refine lv_aload_n hx hb dL_law_895 rfl (lv_at hl 1 rfl) ?_
              refine lv_iload_n hx hb dL_law_896 rfl (lv_at hl 0 rfl) ?_
              refine lv_iconst (v := 2) hx hb dL_law_897 (by decide) ?_
              refine lv_iadd hx hb dL_law_898 ?_
              refine lv_topi (fun x200 (e200 : x200 = i + 2) => ?_)
              try have t200 : x200.toInt = i.toInt + 2 := tadd e200 rfl kp2 (by omega)
              have hin : vp_in x200 Lx := tin rfl (by omega)
              refine va_sld hx hb hX hbl hbA hW.2.2.1 hin dL_law_899 ?_
              refine lv_as x196 (by rw [e196, e195, e200]) ?_
              refine lv_if_eq (tgt := 907) hx hb dL_law_900 (by decide) (fun c201 => ?_) (fun c201 => ?_)
              · have c201 : x196.toInt = 0 := teq rfl kp0 c201
                refine lv_iconst (v := 0) hx hb dL_law_907 (by decide) ?_
                refine ci2_ C (WB_R hW) (runV (x := g.2.2.1 13) (As := [.int x194, .int 0]) (rest := []) (T := (((hv J [42] [] u198.1), L, (hv I [] [(2, 4)] u198.2), P, E, N), sgM g)) C (WB_R hW) (c_X12_complain l g (hv J [42] [] u198.1) L (hv I [] [(2, 4)] u198.2) P E N H.size x194 (0 : Int32) hwm (Or.inl rfl)) mi_X12_complain tw_1452 (recv_ (T := (((hv J [42] [] u198.1), L, (hv I [] [(2, 4)] u198.2), P, E, N), sgM g)) C (WB_R hW) (mm_ rfl) rfl rfl) ⟨rfl, rfl, Nat.le_of_ble_eq_true rfl, Nat.le_of_ble_eq_true rfl⟩ rfl hl.1 rfl (Nat.le_of_ble_eq_true rfl) dL_law_908 ⟨by show 1000 + 10 * k + 0 + 0 ≤ 600000; omega, by show 200000 + 20100 * k + 0 + 0 ≤ 7302250; omega⟩) (fun r202 u202 H locs hp202 hB hk hS => ?_)
                have hW : WB g A s.heap H locs ((hv (hv J [42] [] u198.1) [100, 112] [] u202), L, (hv I [] [(2, 4)] u198.2), P, E, N) ((sgX g ++ dy) ++ sgM g) := joinR hW hB hk hS (frsub C (WB_R hW)) (fun x hx => cel_x (hv_x rfl rfl (notm hW x hx)))
                refine lv_pop hx hb dL_law_911 rfl ?_
                refine lv_goto (tgt := 1389) hx hb dL_law_912 (by decide) ?_
                obtain ⟨x203, e203⟩ : ∃ y : Int32, y = i + 5 := ⟨_, rfl⟩
                refine lv_iinc (v := x203) (lv' := [(3, .int x203), (0, .ref b), (1, .ref (g.2.2.1 12)), (2, .ref (g.2.2.1 13))]) hx hb dL_law_1389 hl (k := 0) rfl (by rw [e203]; rfl) (by decide) rfl (fun ls hl => ?_)
                try have t203 : x203.toInt = i.toInt + 5 := tadd e203 rfl kp5 (by omega)
                refine lv_goto (tgt := 18) hx hb dL_law_1392 (by decide) ?_
                refine W.widen (k := 1000 + 10 * (k + 1)) (n := 200000 + 20100 * (k + 1)) (by omega) (by omega) ?_
                exact ih (k + 1) x203 (hv (hv J [42] [] u198.1) [100, 112] [] u202) L (hv I [] [(2, 4)] u198.2) P E N dy H locs ls (by omega) (by omega) (by omega) hwf hwm hnow hrl hac hrel0 hW (lv_sub hl [0, 1, 2, 3] rfl)
              · have c201 : ¬ x196.toInt = 0 := tne rfl kp0 c201
                exfalso; omega
            · have c197 : ¬ x196.toInt = 0 := tne rfl kp0 c197
              refine lv_iconst (v := 1) hx hb dL_law_880 (by decide) ?_
              refine lv_goto (tgt := 885) hx hb dL_law_881 (by decide) ?_
              refine ci2_ C (WB_L hW) (runV (x := g.2.2.1 12) (As := [.int x194, .int 1]) (rest := []) (T := ((J, L, I, P, E, N), sgX g ++ dy)) C (WB_L hW) (c_X11_complain_e l g J L I P E N dy H.size x194 (1 : Int32) hwf (Or.inr rfl)) mi_X11_complain tw_848 (recv_ (T := ((J, L, I, P, E, N), sgX g ++ dy)) C (WB_L hW) (mx_ rfl) rfl rfl) ⟨rfl, rfl, Nat.le_of_ble_eq_true rfl, Nat.le_of_ble_eq_true rfl⟩ rfl hl.1 rfl (Nat.le_of_ble_eq_true rfl) dL_law_885 ⟨by show 1000 + 10 * k + 0 ≤ 600000; omega, by show 200000 + 20100 * k + 0 ≤ 7302250; omega⟩) (fun r204 u204 H locs hp204 hB hk hS => ?_)
              have hW : WB g A s.heap H locs ((hv J [42] [] u204.1), L, (hv I [] [(2, 4)] u204.2), P, E, N) ((sgX g ++ dy) ++ sgM g) := joinL hW hB hk hS (frsub C (WB_L hW)) (okM hW (fun r h => hv_m (J := J) (R := [42]) (F := []) rfl rfl h) (fun r h => rfl))
              have hc204 : ((r204.toInt = (-1) ∧ (¬ (0 ≤ x194.toInt ∧ x194.toInt < (J 22 2).toInt)) ∧ u204.2 2 4 = I 2 4) ∨ (r204.toInt = 0 ∧ (0 ≤ x194.toInt ∧ x194.toInt < (J 22 2).toInt) ∧ (I 2 4 (elt E P 22 x194.toNatClampNeg)).toInt = 1 ∧ u204.2 2 4 = I 2 4) ∨ (r204.toInt = 1 ∧ (0 ≤ x194.toInt ∧ x194.toInt < (J 22 2).toInt) ∧ ¬ (I 2 4 (elt E P 22 x194.toNatClampNeg)).toInt = 1 ∧ (∀ b : Nat, b ≠ elt E P 22 x194.toNatClampNeg → u204.2 2 4 b = I 2 4 b) ∧ u204.2 2 4 (elt E P 22 x194.toNatClampNeg) = 1)) := hp204
              refine lv_pop hx hb dL_law_888 rfl ?_
              refine lv_aload_n hx hb dL_law_889 rfl (lv_at hl 3 rfl) ?_
              refine lv_aload_n hx hb dL_law_890 rfl (lv_at hl 1 rfl) ?_
              refine lv_iload_n hx hb dL_law_891 rfl (lv_at hl 0 rfl) ?_
              refine lv_iconst (v := 1) hx hb dL_law_892 (by decide) ?_
              refine lv_iadd hx hb dL_law_893 ?_
              refine lv_topi (fun x205 (e205 : x205 = i + 1) => ?_)
              try have t205 : x205.toInt = i.toInt + 1 := tadd e205 rfl kp1 (by omega)
              have hin : vp_in x205 Lx := tin rfl (by omega)
              refine va_sld hx hb hX hbl hbA hW.2.2.1 hin dL_law_894 ?_
              refine lv_as x194 (by rw [e194, e193, e205]) ?_
              refine lv_aload_n hx hb dL_law_895 rfl (lv_at hl 1 rfl) ?_
              refine lv_iload_n hx hb dL_law_896 rfl (lv_at hl 0 rfl) ?_
              refine lv_iconst (v := 2) hx hb dL_law_897 (by decide) ?_
              refine lv_iadd hx hb dL_law_898 ?_
              refine lv_topi (fun x206 (e206 : x206 = i + 2) => ?_)
              try have t206 : x206.toInt = i.toInt + 2 := tadd e206 rfl kp2 (by omega)
              have hin : vp_in x206 Lx := tin rfl (by omega)
              refine va_sld hx hb hX hbl hbA hW.2.2.1 hin dL_law_899 ?_
              refine lv_as x196 (by rw [e196, e195, e206]) ?_
              refine lv_if_eq (tgt := 907) hx hb dL_law_900 (by decide) (fun c207 => ?_) (fun c207 => ?_)
              · have c207 : x196.toInt = 0 := teq rfl kp0 c207
                exfalso; omega
              · have c207 : ¬ x196.toInt = 0 := tne rfl kp0 c207
                refine lv_iconst (v := 1) hx hb dL_law_903 (by decide) ?_
                refine lv_goto (tgt := 908) hx hb dL_law_904 (by decide) ?_
                refine ci2_ C (WB_R hW) (runV (x := g.2.2.1 13) (As := [.int x194, .int 1]) (rest := []) (T := (((hv J [42] [] u204.1), L, (hv I [] [(2, 4)] u204.2), P, E, N), sgM g)) C (WB_R hW) (c_X12_complain l g (hv J [42] [] u204.1) L (hv I [] [(2, 4)] u204.2) P E N H.size x194 (1 : Int32) hwm (Or.inr rfl)) mi_X12_complain tw_1452 (recv_ (T := (((hv J [42] [] u204.1), L, (hv I [] [(2, 4)] u204.2), P, E, N), sgM g)) C (WB_R hW) (mm_ rfl) rfl rfl) ⟨rfl, rfl, Nat.le_of_ble_eq_true rfl, Nat.le_of_ble_eq_true rfl⟩ rfl hl.1 rfl (Nat.le_of_ble_eq_true rfl) dL_law_908 ⟨by show 1000 + 10 * k + 0 + 0 ≤ 600000; omega, by show 200000 + 20100 * k + 0 + 0 ≤ 7302250; omega⟩) (fun r208 u208 H locs hp208 hB hk hS => ?_)
                have hW : WB g A s.heap H locs ((hv (hv J [42] [] u204.1) [100, 112] [] u208), L, (hv I [] [(2, 4)] u204.2), P, E, N) ((sgX g ++ dy) ++ sgM g) := joinR hW hB hk hS (frsub C (WB_R hW)) (fun x hx => cel_x (hv_x rfl rfl (notm hW x hx)))
                refine lv_pop hx hb dL_law_911 rfl ?_
                refine lv_goto (tgt := 1389) hx hb dL_law_912 (by decide) ?_
                obtain ⟨x209, e209⟩ : ∃ y : Int32, y = i + 5 := ⟨_, rfl⟩
                refine lv_iinc (v := x209) (lv' := [(3, .int x209), (0, .ref b), (1, .ref (g.2.2.1 12)), (2, .ref (g.2.2.1 13))]) hx hb dL_law_1389 hl (k := 0) rfl (by rw [e209]; rfl) (by decide) rfl (fun ls hl => ?_)
                try have t209 : x209.toInt = i.toInt + 5 := tadd e209 rfl kp5 (by omega)
                refine lv_goto (tgt := 18) hx hb dL_law_1392 (by decide) ?_
                refine W.widen (k := 1000 + 10 * (k + 1)) (n := 200000 + 20100 * (k + 1)) (by omega) (by omega) ?_
                exact ih (k + 1) x209 (hv (hv J [42] [] u204.1) [100, 112] [] u208) L (hv I [] [(2, 4)] u204.2) P E N dy H locs ls (by omega) (by omega) (by omega) hwf hwm hnow hrl hac hrel0 hW (lv_sub hl [0, 1, 2, 3] rfl)
          · refine lv_tableIn (off := 883) (tgt := 915) hx hb dL_law_32 (Int.not_lt.mpr c6) (Int.not_lt.mpr c6b) (by rw [c6k]; rfl) (by decide) ?_
            refine lv_aload_n hx hb dL_law_915 rfl (lv_at hl 2 rfl) ?_
            refine lv_aload_n hx hb dL_law_916 rfl (lv_at hl 1 rfl) ?_
            refine lv_iload_n hx hb dL_law_917 rfl (lv_at hl 0 rfl) ?_
            refine lv_iconst (v := 1) hx hb dL_law_918 (by decide) ?_
            refine lv_iadd hx hb dL_law_919 ?_
            refine lv_topi (fun x210 (e210 : x210 = i + 1) => ?_)
            try have t210 : x210.toInt = i.toInt + 1 := tadd e210 rfl kp1 (by omega)
            have hin : vp_in x210 Lx := tin rfl (by omega)
            refine va_sld hx hb hX hbl hbA hW.2.2.1 hin dL_law_920 ?_
            refine lv_topi (fun x211 (e211 : x211 = xs x210.toNatClampNeg) => ?_)
            refine ci2_ C (WB_L hW) (runV (x := g.2.2.1 12) (As := [.int x211]) (rest := []) (T := ((J, L, I, P, E, N), sgX g ++ dy)) C (WB_L hW) (c_X11_breaks l g J L I P E N dy H.size x211 hwf) mi_X11_breaks tw_852 (recv_ (T := ((J, L, I, P, E, N), sgX g ++ dy)) C (WB_L hW) (mx_ rfl) rfl rfl) ⟨rfl, rfl, Nat.le_of_ble_eq_true rfl, Nat.le_of_ble_eq_true rfl⟩ rfl hl.1 rfl (Nat.le_of_ble_eq_true rfl) dL_law_921 ⟨by show 1000 + 10 * k + 0 ≤ 600000; omega, by show 200000 + 20100 * k + 0 ≤ 7302250; omega⟩) (fun r212 u212 H locs hp212 hB hk hS => ?_)
            have hW : WB g A s.heap H locs ((hv J [42] [] u212), L, I, P, E, N) ((sgX g ++ dy) ++ sgM g) := joinL hW hB hk hS (frsub C (WB_L hW)) (okM hW (fun r h => hv_m (J := J) (R := [42]) (F := []) rfl rfl h) (fun r h => rfl))
            refine lv_pop hx hb dL_law_924 rfl ?_
            refine lv_aload_n hx hb dL_law_925 rfl (lv_at hl 3 rfl) ?_
            refine lv_aload_n hx hb dL_law_926 rfl (lv_at hl 1 rfl) ?_
            refine lv_iload_n hx hb dL_law_927 rfl (lv_at hl 0 rfl) ?_
            refine lv_iconst (v := 1) hx hb dL_law_928 (by decide) ?_
            refine lv_iadd hx hb dL_law_929 ?_
            refine lv_topi (fun x213 (e213 : x213 = i + 1) => ?_)
            try have t213 : x213.toInt = i.toInt + 1 := tadd e213 rfl kp1 (by omega)
            have hin : vp_in x213 Lx := tin rfl (by omega)
            refine va_sld hx hb hX hbl hbA hW.2.2.1 hin dL_law_930 ?_
            refine lv_as x211 (by rw [e211, e210, e213]) ?_
            refine ci2_ C (WB_R hW) (runV (x := g.2.2.1 13) (As := [.int x211]) (rest := []) (T := (((hv J [42] [] u212), L, I, P, E, N), sgM g)) C (WB_R hW) (c_X12_breaks l g (hv J [42] [] u212) L I P E N H.size x211 hwm) mi_X12_breaks tw_1456 (recv_ (T := (((hv J [42] [] u212), L, I, P, E, N), sgM g)) C (WB_R hW) (mm_ rfl) rfl rfl) ⟨rfl, rfl, Nat.le_of_ble_eq_true rfl, Nat.le_of_ble_eq_true rfl⟩ rfl hl.1 rfl (Nat.le_of_ble_eq_true rfl) dL_law_931 ⟨by show 1000 + 10 * k + 0 + 0 ≤ 600000; omega, by show 200000 + 20100 * k + 0 + 0 ≤ 7302250; omega⟩) (fun r214 u214 H locs hp214 hB hk hS => ?_)
            have hW : WB g A s.heap H locs ((hv (hv J [42] [] u212) [100] [] u214), L, I, P, E, N) ((sgX g ++ dy) ++ sgM g) := joinR hW hB hk hS (frsub C (WB_R hW)) (fun x hx => cel_x (hv_x rfl rfl (notm hW x hx)))
            refine lv_pop hx hb dL_law_934 rfl ?_
            refine lv_goto (tgt := 1389) hx hb dL_law_935 (by decide) ?_
            obtain ⟨x215, e215⟩ : ∃ y : Int32, y = i + 5 := ⟨_, rfl⟩
            refine lv_iinc (v := x215) (lv' := [(3, .int x215), (0, .ref b), (1, .ref (g.2.2.1 12)), (2, .ref (g.2.2.1 13))]) hx hb dL_law_1389 hl (k := 0) rfl (by rw [e215]; rfl) (by decide) rfl (fun ls hl => ?_)
            try have t215 : x215.toInt = i.toInt + 5 := tadd e215 rfl kp5 (by omega)
            refine lv_goto (tgt := 18) hx hb dL_law_1392 (by decide) ?_
            refine W.widen (k := 1000 + 10 * (k + 1)) (n := 200000 + 20100 * (k + 1)) (by omega) (by omega) ?_
            exact ih (k + 1) x215 (hv (hv J [42] [] u212) [100] [] u214) L I P E N dy H locs ls (by omega) (by omega) (by omega) hwf hwm hnow hrl hac hrel0 hW (lv_sub hl [0, 1, 2, 3] rfl)
          · refine lv_tableIn (off := 906) (tgt := 938) hx hb dL_law_32 (Int.not_lt.mpr c6) (Int.not_lt.mpr c6b) (by rw [c6k]; rfl) (by decide) ?_
            refine lv_aload_n hx hb dL_law_938 rfl (lv_at hl 2 rfl) ?_
            refine lv_aload_n hx hb dL_law_939 rfl (lv_at hl 1 rfl) ?_
            refine lv_iload_n hx hb dL_law_940 rfl (lv_at hl 0 rfl) ?_
            refine lv_iconst (v := 1) hx hb dL_law_941 (by decide) ?_
            refine lv_iadd hx hb dL_law_942 ?_
            refine lv_topi (fun x216 (e216 : x216 = i + 1) => ?_)
            try have t216 : x216.toInt = i.toInt + 1 := tadd e216 rfl kp1 (by omega)
            have hin : vp_in x216 Lx := tin rfl (by omega)
            refine va_sld hx hb hX hbl hbA hW.2.2.1 hin dL_law_943 ?_
            refine lv_topi (fun x217 (e217 : x217 = xs x216.toNatClampNeg) => ?_)
            refine lv_aload_n hx hb dL_law_944 rfl (lv_at hl 1 rfl) ?_
            refine lv_iload_n hx hb dL_law_945 rfl (lv_at hl 0 rfl) ?_
            refine lv_iconst (v := 2) hx hb dL_law_946 (by decide) ?_
            refine lv_iadd hx hb dL_law_947 ?_
            refine lv_topi (fun x218 (e218 : x218 = i + 2) => ?_)
            try have t218 : x218.toInt = i.toInt + 2 := tadd e218 rfl kp2 (by omega)
            have hin : vp_in x218 Lx := tin rfl (by omega)
            refine va_sld hx hb hX hbl hbA hW.2.2.1 hin dL_law_948 ?_
            refine lv_topi (fun x219 (e219 : x219 = xs x218.toNatClampNeg) => ?_)
            refine ci2_ C (WB_L hW) (runV (x := g.2.2.1 12) (As := [.int x217, .int x219]) (rest := []) (T := ((J, L, I, P, E, N), sgX g ++ dy)) C (WB_L hW) (c_X11_could_e l g J L I P E N dy H.size x217 x219 hwf) mi_X11_could tw_874 (recv_ (T := ((J, L, I, P, E, N), sgX g ++ dy)) C (WB_L hW) (mx_ rfl) rfl rfl) ⟨rfl, rfl, Nat.le_of_ble_eq_true rfl, Nat.le_of_ble_eq_true rfl⟩ rfl hl.1 rfl (Nat.le_of_ble_eq_true rfl) dL_law_949 ⟨by show 1000 + 10 * k + 10 ≤ 600000; omega, by show 200000 + 20100 * k + 20100 ≤ 7302250; omega⟩) (fun r220 u220 H locs hp220 hB hk hS => ?_)
            have hW : WB g A s.heap H locs ((hv J [42] [(23, 0), (23, 2)] u220.1), L, (hv I [] [(6, 4)] u220.2.1), (hv P [33] [] u220.2.2.1), (hv1 E [23] u220.2.2.2.1), u220.2.2.2.2.1) ((sgX g ++ u220.2.2.2.2.2) ++ sgM g) := joinL hW hB hk hS (frsub C (WB_L hW)) (okM hW (fun r h => hv_m (J := J) (R := [42]) (F := [(23, 0), (23, 2)]) rfl rfl h) (fun r h => rfl))
            obtain ⟨hc220, hwf, hdd220⟩ := hp220
            refine lv_pop hx hb dL_law_952 rfl ?_
            refine lv_aload_n hx hb dL_law_953 rfl (lv_at hl 3 rfl) ?_
            refine lv_aload_n hx hb dL_law_954 rfl (lv_at hl 1 rfl) ?_
            refine lv_iload_n hx hb dL_law_955 rfl (lv_at hl 0 rfl) ?_
            refine lv_iconst (v := 1) hx hb dL_law_956 (by decide) ?_
            refine lv_iadd hx hb dL_law_957 ?_
            refine lv_topi (fun x221 (e221 : x221 = i + 1) => ?_)
            try have t221 : x221.toInt = i.toInt + 1 := tadd e221 rfl kp1 (by omega)
            have hin : vp_in x221 Lx := tin rfl (by omega)
            refine va_sld hx hb hX hbl hbA hW.2.2.1 hin dL_law_958 ?_
            refine lv_as x217 (by rw [e217, e216, e221]) ?_
            refine lv_aload_n hx hb dL_law_959 rfl (lv_at hl 1 rfl) ?_
            refine lv_iload_n hx hb dL_law_960 rfl (lv_at hl 0 rfl) ?_
            refine lv_iconst (v := 2) hx hb dL_law_961 (by decide) ?_
            refine lv_iadd hx hb dL_law_962 ?_
            refine lv_topi (fun x222 (e222 : x222 = i + 2) => ?_)
            try have t222 : x222.toInt = i.toInt + 2 := tadd e222 rfl kp2 (by omega)
            have hin : vp_in x222 Lx := tin rfl (by omega)
            refine va_sld hx hb hX hbl hbA hW.2.2.1 hin dL_law_963 ?_
            refine lv_as x219 (by rw [e219, e218, e222]) ?_
            refine ci2_ C (WB_R hW) (runV (x := g.2.2.1 13) (As := [.int x217, .int x219]) (rest := []) (T := (((hv J [42] [(23, 0), (23, 2)] u220.1), L, (hv I [] [(6, 4)] u220.2.1), (hv P [33] [] u220.2.2.1), (hv1 E [23] u220.2.2.2.1), u220.2.2.2.2.1), sgM g)) C (WB_R hW) (c_X12_could_e l g (hv J [42] [(23, 0), (23, 2)] u220.1) L (hv I [] [(6, 4)] u220.2.1) (hv P [33] [] u220.2.2.1) (hv1 E [23] u220.2.2.2.1) u220.2.2.2.2.1 H.size x217 x219 hwm) mi_X12_could tw_1467 (recv_ (T := (((hv J [42] [(23, 0), (23, 2)] u220.1), L, (hv I [] [(6, 4)] u220.2.1), (hv P [33] [] u220.2.2.1), (hv1 E [23] u220.2.2.2.1), u220.2.2.2.2.1), sgM g)) C (WB_R hW) (mm_ rfl) rfl rfl) ⟨rfl, rfl, Nat.le_of_ble_eq_true rfl, Nat.le_of_ble_eq_true rfl⟩ rfl hl.1 rfl (Nat.le_of_ble_eq_true rfl) dL_law_964 ⟨by show 1000 + 10 * k + 10 + 0 ≤ 600000; omega, by show 200000 + 20100 * k + 20100 + 0 ≤ 7302250; omega⟩) (fun r223 u223 H locs hp223 hB hk hS => ?_)
            have hW : WB g A s.heap H locs ((hv (hv J [42] [(23, 0), (23, 2)] u220.1) [100, 125, 126] [(13, 41)] u223), L, (hv I [] [(6, 4)] u220.2.1), (hv P [33] [] u220.2.2.1), (hv1 E [23] u220.2.2.2.1), u220.2.2.2.2.1) ((sgX g ++ u220.2.2.2.2.2) ++ sgM g) := joinR hW hB hk hS (frsub C (WB_R hW)) (fun x hx => cel_x (hv_x rfl rfl (notm hW x hx)))
            obtain ⟨hwm, hc223⟩ : WM (hv (hv J [42] [(23, 0), (23, 2)] u220.1) [100, 125, 126] [(13, 41)] u223) ∧ ((r223.toInt = (-1) ∧ (¬ (0 ≤ x217.toInt ∧ x217.toInt < (J 13 32).toInt)) ∧ u223 13 41 = J 13 41 ∧ u223 125 = (hv J [42] [(23, 0), (23, 2)] u220.1) 125) ∨ (r223.toInt = (-3) ∧ (0 ≤ x217.toInt ∧ x217.toInt < (J 13 32).toInt) ∧ u223 13 41 = J 13 41 ∧ u223 125 = (hv J [42] [(23, 0), (23, 2)] u220.1) 125 ∧ (∃ k : Nat, (k : Int) < (J 13 41).toInt ∧ ((hv J [42] [(23, 0), (23, 2)] u220.1) 125 k).toInt = x217.toInt)) ∨ (r223.toInt = (-4) ∧ (0 ≤ x217.toInt ∧ x217.toInt < (J 13 32).toInt ∧ x219.toInt < 1) ∧ u223 13 41 = J 13 41 ∧ u223 125 = (hv J [42] [(23, 0), (23, 2)] u220.1) 125 ∧ (∀ k : Nat, (k : Int) < (J 13 41).toInt → ¬ ((hv J [42] [(23, 0), (23, 2)] u220.1) 125 k).toInt = x217.toInt)) ∨ (r223.toInt = (-6) ∧ (0 ≤ x217.toInt ∧ x217.toInt < (J 13 32).toInt ∧ 1 ≤ x219.toInt ∧ (99 < x219.toInt ∨ (J 13 41).toInt = 9)) ∧ u223 13 41 = J 13 41 ∧ u223 125 = (hv J [42] [(23, 0), (23, 2)] u220.1) 125 ∧ (∀ k : Nat, (k : Int) < (J 13 41).toInt → ¬ ((hv J [42] [(23, 0), (23, 2)] u220.1) 125 k).toInt = x217.toInt)) ∨ (r223.toInt = (J 13 41).toInt ∧ (0 ≤ x217.toInt ∧ x217.toInt < (J 13 32).toInt ∧ 1 ≤ x219.toInt ∧ x219.toInt ≤ 99 ∧ (J 13 41).toInt ≤ 8) ∧ (u223 13 41).toInt = (J 13 41).toInt + 1 ∧ u223 125 = up2 (hv J [42] [(23, 0), (23, 2)] u220.1) 125 (J 13 41).toNatClampNeg x217 125 ∧ (∀ k : Nat, (k : Int) < (J 13 41).toInt → ¬ ((hv J [42] [(23, 0), (23, 2)] u220.1) 125 k).toInt = x217.toInt))) := hp223
            refine lv_pop hx hb dL_law_967 rfl ?_
            refine lv_goto (tgt := 1389) hx hb dL_law_968 (by decide) ?_
            obtain ⟨x224, e224⟩ : ∃ y : Int32, y = i + 5 := ⟨_, rfl⟩
            refine lv_iinc (v := x224) (lv' := [(3, .int x224), (0, .ref b), (1, .ref (g.2.2.1 12)), (2, .ref (g.2.2.1 13))]) hx hb dL_law_1389 hl (k := 0) rfl (by rw [e224]; rfl) (by decide) rfl (fun ls hl => ?_)
            try have t224 : x224.toInt = i.toInt + 5 := tadd e224 rfl kp5 (by omega)
            refine lv_goto (tgt := 18) hx hb dL_law_1392 (by decide) ?_
            refine W.widen (k := 1000 + 10 * (k + 1)) (n := 200000 + 20100 * (k + 1)) (by omega) (by omega) ?_
            exact ih (k + 1) x224 (hv (hv J [42] [(23, 0), (23, 2)] u220.1) [100, 125, 126] [(13, 41)] u223) L (hv I [] [(6, 4)] u220.2.1) (hv P [33] [] u220.2.2.1) (hv1 E [23] u220.2.2.2.1) u220.2.2.2.2.1 u220.2.2.2.2.2 H locs ls (by omega) (by omega) (by omega) hwf hwm hnow hrl hac hrel0 hW (lv_sub hl [0, 1, 2, 3] rfl)
          · refine lv_tableIn (off := 939) (tgt := 971) hx hb dL_law_32 (Int.not_lt.mpr c6) (Int.not_lt.mpr c6b) (by rw [c6k]; rfl) (by decide) ?_
            refine lv_aload_n hx hb dL_law_971 rfl (lv_at hl 2 rfl) ?_
            refine lv_aload_n hx hb dL_law_972 rfl (lv_at hl 1 rfl) ?_
            refine lv_iload_n hx hb dL_law_973 rfl (lv_at hl 0 rfl) ?_
            refine lv_iconst (v := 1) hx hb dL_law_974 (by decide) ?_
            refine lv_iadd hx hb dL_law_975 ?_
            refine lv_topi (fun x225 (e225 : x225 = i + 1) => ?_)
            try have t225 : x225.toInt = i.toInt + 1 := tadd e225 rfl kp1 (by omega)
            have hin : vp_in x225 Lx := tin rfl (by omega)
            refine va_sld hx hb hX hbl hbA hW.2.2.1 hin dL_law_976 ?_
            refine lv_topi (fun x226 (e226 : x226 = xs x225.toNatClampNeg) => ?_)
            refine ci2_ C (WB_L hW) (runV (x := g.2.2.1 12) (As := [.int x226]) (rest := []) (T := ((J, L, I, P, E, N), sgX g ++ dy)) C (WB_L hW) (c_X11_boosts l g J L I P E N dy H.size x226 hwf) mi_X11_boosts tw_878 (recv_ (T := ((J, L, I, P, E, N), sgX g ++ dy)) C (WB_L hW) (mx_ rfl) rfl rfl) ⟨rfl, rfl, Nat.le_of_ble_eq_true rfl, Nat.le_of_ble_eq_true rfl⟩ rfl hl.1 rfl (Nat.le_of_ble_eq_true rfl) dL_law_977 ⟨by show 1000 + 10 * k + 0 ≤ 600000; omega, by show 200000 + 20100 * k + 0 ≤ 7302250; omega⟩) (fun r227 u227 H locs hp227 hB hk hS => ?_)
            have hW : WB g A s.heap H locs ((hv J [42] [] u227.1), L, (hv I [] [(6, 5), (6, 6), (6, 7)] u227.2), P, E, N) ((sgX g ++ dy) ++ sgM g) := joinL hW hB hk hS (frsub C (WB_L hW)) (okM hW (fun r h => hv_m (J := J) (R := [42]) (F := []) rfl rfl h) (fun r h => rfl))
            refine lv_pop hx hb dL_law_980 rfl ?_
            refine lv_aload_n hx hb dL_law_981 rfl (lv_at hl 3 rfl) ?_
            refine lv_aload_n hx hb dL_law_982 rfl (lv_at hl 1 rfl) ?_
            refine lv_iload_n hx hb dL_law_983 rfl (lv_at hl 0 rfl) ?_
            refine lv_iconst (v := 1) hx hb dL_law_984 (by decide) ?_
            refine lv_iadd hx hb dL_law_985 ?_
            refine lv_topi (fun x228 (e228 : x228 = i + 1) => ?_)
            try have t228 : x228.toInt = i.toInt + 1 := tadd e228 rfl kp1 (by omega)
            have hin : vp_in x228 Lx := tin rfl (by omega)
            refine va_sld hx hb hX hbl hbA hW.2.2.1 hin dL_law_986 ?_
            refine lv_as x226 (by rw [e226, e225, e228]) ?_
            refine ci2_ C (WB_R hW) (runV (x := g.2.2.1 13) (As := [.int x226]) (rest := []) (T := (((hv J [42] [] u227.1), L, (hv I [] [(6, 5), (6, 6), (6, 7)] u227.2), P, E, N), sgM g)) C (WB_R hW) (c_X12_boosts l g (hv J [42] [] u227.1) L (hv I [] [(6, 5), (6, 6), (6, 7)] u227.2) P E N H.size x226 hwm) mi_X12_boosts tw_1471 (recv_ (T := (((hv J [42] [] u227.1), L, (hv I [] [(6, 5), (6, 6), (6, 7)] u227.2), P, E, N), sgM g)) C (WB_R hW) (mm_ rfl) rfl rfl) ⟨rfl, rfl, Nat.le_of_ble_eq_true rfl, Nat.le_of_ble_eq_true rfl⟩ rfl hl.1 rfl (Nat.le_of_ble_eq_true rfl) dL_law_987 ⟨by show 1000 + 10 * k + 0 + 0 ≤ 600000; omega, by show 200000 + 20100 * k + 0 + 0 ≤ 7302250; omega⟩) (fun r229 u229 H locs hp229 hB hk hS => ?_)
            have hW : WB g A s.heap H locs ((hv (hv J [42] [] u227.1) [100, 104, 146] [] u229), L, (hv I [] [(6, 5), (6, 6), (6, 7)] u227.2), P, E, N) ((sgX g ++ dy) ++ sgM g) := joinR hW hB hk hS (frsub C (WB_R hW)) (fun x hx => cel_x (hv_x rfl rfl (notm hW x hx)))
            refine lv_pop hx hb dL_law_990 rfl ?_
            refine lv_goto (tgt := 1389) hx hb dL_law_991 (by decide) ?_
            obtain ⟨x230, e230⟩ : ∃ y : Int32, y = i + 5 := ⟨_, rfl⟩
            refine lv_iinc (v := x230) (lv' := [(3, .int x230), (0, .ref b), (1, .ref (g.2.2.1 12)), (2, .ref (g.2.2.1 13))]) hx hb dL_law_1389 hl (k := 0) rfl (by rw [e230]; rfl) (by decide) rfl (fun ls hl => ?_)
            try have t230 : x230.toInt = i.toInt + 5 := tadd e230 rfl kp5 (by omega)
            refine lv_goto (tgt := 18) hx hb dL_law_1392 (by decide) ?_
            refine W.widen (k := 1000 + 10 * (k + 1)) (n := 200000 + 20100 * (k + 1)) (by omega) (by omega) ?_
            exact ih (k + 1) x230 (hv (hv J [42] [] u227.1) [100, 104, 146] [] u229) L (hv I [] [(6, 5), (6, 6), (6, 7)] u227.2) P E N dy H locs ls (by omega) (by omega) (by omega) hwf hwm hnow hrl hac hrel0 hW (lv_sub hl [0, 1, 2, 3] rfl)
          · refine lv_tableIn (off := 962) (tgt := 994) hx hb dL_law_32 (Int.not_lt.mpr c6) (Int.not_lt.mpr c6b) (by rw [c6k]; rfl) (by decide) ?_
            refine lv_aload_n hx hb dL_law_994 rfl (lv_at hl 2 rfl) ?_
            refine lv_aload_n hx hb dL_law_995 rfl (lv_at hl 1 rfl) ?_
            refine lv_iload_n hx hb dL_law_996 rfl (lv_at hl 0 rfl) ?_
            refine lv_iconst (v := 1) hx hb dL_law_997 (by decide) ?_
            refine lv_iadd hx hb dL_law_998 ?_
            refine lv_topi (fun x231 (e231 : x231 = i + 1) => ?_)
            try have t231 : x231.toInt = i.toInt + 1 := tadd e231 rfl kp1 (by omega)
            have hin : vp_in x231 Lx := tin rfl (by omega)
            refine va_sld hx hb hX hbl hbA hW.2.2.1 hin dL_law_999 ?_
            refine lv_topi (fun x232 (e232 : x232 = xs x231.toNatClampNeg) => ?_)
            refine lv_aload_n hx hb dL_law_1000 rfl (lv_at hl 1 rfl) ?_
            refine lv_iload_n hx hb dL_law_1001 rfl (lv_at hl 0 rfl) ?_
            refine lv_iconst (v := 2) hx hb dL_law_1002 (by decide) ?_
            refine lv_iadd hx hb dL_law_1003 ?_
            refine lv_topi (fun x233 (e233 : x233 = i + 2) => ?_)
            try have t233 : x233.toInt = i.toInt + 2 := tadd e233 rfl kp2 (by omega)
            have hin : vp_in x233 Lx := tin rfl (by omega)
            refine va_sld hx hb hX hbl hbA hW.2.2.1 hin dL_law_1004 ?_
            refine lv_topi (fun x234 (e234 : x234 = xs x233.toNatClampNeg) => ?_)
            refine lv_aload_n hx hb dL_law_1005 rfl (lv_at hl 1 rfl) ?_
            refine lv_iload_n hx hb dL_law_1006 rfl (lv_at hl 0 rfl) ?_
            refine lv_iconst (v := 3) hx hb dL_law_1007 (by decide) ?_
            refine lv_iadd hx hb dL_law_1008 ?_
            refine lv_topi (fun x235 (e235 : x235 = i + 3) => ?_)
            try have t235 : x235.toInt = i.toInt + 3 := tadd e235 rfl kp3 (by omega)
            have hin : vp_in x235 Lx := tin rfl (by omega)
            refine va_sld hx hb hX hbl hbA hW.2.2.1 hin dL_law_1009 ?_
            refine lv_topi (fun x236 (e236 : x236 = xs x235.toNatClampNeg) => ?_)
            refine ci2_ C (WB_L hW) (runV (x := g.2.2.1 12) (As := [.int x232, .int x234, .int x236]) (rest := []) (T := ((J, L, I, P, E, N), sgX g ++ dy)) C (WB_L hW) (c_X11_covers l g J L I P E N dy H.size x232 x234 x236 hwf) mi_X11_covers tw_895 (recv_ (T := ((J, L, I, P, E, N), sgX g ++ dy)) C (WB_L hW) (mx_ rfl) rfl rfl) ⟨rfl, rfl, Nat.le_of_ble_eq_true rfl, Nat.le_of_ble_eq_true rfl⟩ rfl hl.1 rfl (Nat.le_of_ble_eq_true rfl) dL_law_1010 ⟨by show 1000 + 10 * k + 0 ≤ 600000; omega, by show 200000 + 20100 * k + 0 ≤ 7302250; omega⟩) (fun r237 u237 H locs hp237 hB hk hS => ?_)
            have hW : WB g A s.heap H locs ((hv J [42] [] u237.1), (hv L [47] [] u237.2.1), (hv I [] [(6, 6), (6, 7)] u237.2.2), P, E, N) ((sgX g ++ dy) ++ sgM g) := joinL hW hB hk hS (frsub C (WB_L hW)) (okM hW (fun r h => hv_m (J := J) (R := [42]) (F := []) rfl rfl h) (fun r h => hv_m (J := L) (R := [47]) (F := []) rfl rfl h))
            refine lv_pop hx hb dL_law_1013 rfl ?_
            refine lv_aload_n hx hb dL_law_1014 rfl (lv_at hl 3 rfl) ?_
            refine lv_aload_n hx hb dL_law_1015 rfl (lv_at hl 1 rfl) ?_
            refine lv_iload_n hx hb dL_law_1016 rfl (lv_at hl 0 rfl) ?_
            refine lv_iconst (v := 1) hx hb dL_law_1017 (by decide) ?_
            refine lv_iadd hx hb dL_law_1018 ?_
            refine lv_topi (fun x238 (e238 : x238 = i + 1) => ?_)
            try have t238 : x238.toInt = i.toInt + 1 := tadd e238 rfl kp1 (by omega)
            have hin : vp_in x238 Lx := tin rfl (by omega)
            refine va_sld hx hb hX hbl hbA hW.2.2.1 hin dL_law_1019 ?_
            refine lv_as x232 (by rw [e232, e231, e238]) ?_
            refine lv_aload_n hx hb dL_law_1020 rfl (lv_at hl 1 rfl) ?_
            refine lv_iload_n hx hb dL_law_1021 rfl (lv_at hl 0 rfl) ?_
            refine lv_iconst (v := 2) hx hb dL_law_1022 (by decide) ?_
            refine lv_iadd hx hb dL_law_1023 ?_
            refine lv_topi (fun x239 (e239 : x239 = i + 2) => ?_)
            try have t239 : x239.toInt = i.toInt + 2 := tadd e239 rfl kp2 (by omega)
            have hin : vp_in x239 Lx := tin rfl (by omega)
            refine va_sld hx hb hX hbl hbA hW.2.2.1 hin dL_law_1024 ?_
            refine lv_as x234 (by rw [e234, e233, e239]) ?_
            refine lv_aload_n hx hb dL_law_1025 rfl (lv_at hl 1 rfl) ?_
            refine lv_iload_n hx hb dL_law_1026 rfl (lv_at hl 0 rfl) ?_
            refine lv_iconst (v := 3) hx hb dL_law_1027 (by decide) ?_
            refine lv_iadd hx hb dL_law_1028 ?_
            refine lv_topi (fun x240 (e240 : x240 = i + 3) => ?_)
            try have t240 : x240.toInt = i.toInt + 3 := tadd e240 rfl kp3 (by omega)
            have hin : vp_in x240 Lx := tin rfl (by omega)
            refine va_sld hx hb hX hbl hbA hW.2.2.1 hin dL_law_1029 ?_
            refine lv_as x236 (by rw [e236, e235, e240]) ?_
            refine ci2_ C (WB_R hW) (runV (x := g.2.2.1 13) (As := [.int x232, .int x234, .int x236]) (rest := []) (T := (((hv J [42] [] u237.1), (hv L [47] [] u237.2.1), (hv I [] [(6, 6), (6, 7)] u237.2.2), P, E, N), sgM g)) C (WB_R hW) (c_X12_covers l g (hv J [42] [] u237.1) (hv L [47] [] u237.2.1) (hv I [] [(6, 6), (6, 7)] u237.2.2) P E N H.size x232 x234 x236 hwm) mi_X12_covers tw_1475 (recv_ (T := (((hv J [42] [] u237.1), (hv L [47] [] u237.2.1), (hv I [] [(6, 6), (6, 7)] u237.2.2), P, E, N), sgM g)) C (WB_R hW) (mm_ rfl) rfl rfl) ⟨rfl, rfl, Nat.le_of_ble_eq_true rfl, Nat.le_of_ble_eq_true rfl⟩ rfl hl.1 rfl (Nat.le_of_ble_eq_true rfl) dL_law_1030 ⟨by show 1000 + 10 * k + 0 + 0 ≤ 600000; omega, by show 200000 + 20100 * k + 0 + 0 ≤ 7302250; omega⟩) (fun r241 u241 H locs hp241 hB hk hS => ?_)
            have hW : WB g A s.heap H locs ((hv (hv J [42] [] u237.1) [100, 146, 165, 166] [] u241), (hv L [47] [] u237.2.1), (hv I [] [(6, 6), (6, 7)] u237.2.2), P, E, N) ((sgX g ++ dy) ++ sgM g) := joinR hW hB hk hS (frsub C (WB_R hW)) (fun x hx => cel_x (hv_x rfl rfl (notm hW x hx)))
            refine lv_pop hx hb dL_law_1033 rfl ?_
            refine lv_goto (tgt := 1389) hx hb dL_law_1034 (by decide) ?_
            obtain ⟨x242, e242⟩ : ∃ y : Int32, y = i + 5 := ⟨_, rfl⟩
            refine lv_iinc (v := x242) (lv' := [(3, .int x242), (0, .ref b), (1, .ref (g.2.2.1 12)), (2, .ref (g.2.2.1 13))]) hx hb dL_law_1389 hl (k := 0) rfl (by rw [e242]; rfl) (by decide) rfl (fun ls hl => ?_)
            try have t242 : x242.toInt = i.toInt + 5 := tadd e242 rfl kp5 (by omega)
            refine lv_goto (tgt := 18) hx hb dL_law_1392 (by decide) ?_
            refine W.widen (k := 1000 + 10 * (k + 1)) (n := 200000 + 20100 * (k + 1)) (by omega) (by omega) ?_
            exact ih (k + 1) x242 (hv (hv J [42] [] u237.1) [100, 146, 165, 166] [] u241) (hv L [47] [] u237.2.1) (hv I [] [(6, 6), (6, 7)] u237.2.2) P E N dy H locs ls (by omega) (by omega) (by omega) hwf hwm hnow hrl hac hrel0 hW (lv_sub hl [0, 1, 2, 3] rfl)
          · refine lv_tableIn (off := 1005) (tgt := 1037) hx hb dL_law_32 (Int.not_lt.mpr c6) (Int.not_lt.mpr c6b) (by rw [c6k]; rfl) (by decide) ?_
            refine lv_aload_n hx hb dL_law_1037 rfl (lv_at hl 2 rfl) ?_
            refine lv_aload_n hx hb dL_law_1038 rfl (lv_at hl 1 rfl) ?_
            refine lv_iload_n hx hb dL_law_1039 rfl (lv_at hl 0 rfl) ?_
            refine lv_iconst (v := 1) hx hb dL_law_1040 (by decide) ?_
            refine lv_iadd hx hb dL_law_1041 ?_
            refine lv_topi (fun x243 (e243 : x243 = i + 1) => ?_)
            try have t243 : x243.toInt = i.toInt + 1 := tadd e243 rfl kp1 (by omega)
            have hin : vp_in x243 Lx := tin rfl (by omega)
            refine va_sld hx hb hX hbl hbA hW.2.2.1 hin dL_law_1042 ?_
            refine lv_topi (fun x244 (e244 : x244 = xs x243.toNatClampNeg) => ?_)
            refine lv_aload_n hx hb dL_law_1043 rfl (lv_at hl 1 rfl) ?_
            refine lv_iload_n hx hb dL_law_1044 rfl (lv_at hl 0 rfl) ?_
            refine lv_iconst (v := 2) hx hb dL_law_1045 (by decide) ?_
            refine lv_iadd hx hb dL_law_1046 ?_
            refine lv_topi (fun x245 (e245 : x245 = i + 2) => ?_)
            try have t245 : x245.toInt = i.toInt + 2 := tadd e245 rfl kp2 (by omega)
            have hin : vp_in x245 Lx := tin rfl (by omega)
            refine va_sld hx hb hX hbl hbA hW.2.2.1 hin dL_law_1047 ?_
            refine lv_topi (fun x246 (e246 : x246 = xs x245.toNatClampNeg) => ?_)
            refine lv_aload_n hx hb dL_law_1048 rfl (lv_at hl 1 rfl) ?_
            refine lv_iload_n hx hb dL_law_1049 rfl (lv_at hl 0 rfl) ?_
            refine lv_iconst (v := 3) hx hb dL_law_1050 (by decide) ?_
            refine lv_iadd hx hb dL_law_1051 ?_
            refine lv_topi (fun x247 (e247 : x247 = i + 3) => ?_)
            try have t247 : x247.toInt = i.toInt + 3 := tadd e247 rfl kp3 (by omega)
            have hin : vp_in x247 Lx := tin rfl (by omega)
            refine va_sld hx hb hX hbl hbA hW.2.2.1 hin dL_law_1052 ?_
            refine lv_topi (fun x248 (e248 : x248 = xs x247.toNatClampNeg) => ?_)
            refine ci2_ C (WB_L hW) (runV (x := g.2.2.1 12) (As := [.int x244, .int x246, .int x248]) (rest := []) (T := ((J, L, I, P, E, N), sgX g ++ dy)) C (WB_L hW) (c_X11_rights l g J L I P E N dy H.size x244 x246 x248 hwf) mi_X11_rights tw_923 (recv_ (T := ((J, L, I, P, E, N), sgX g ++ dy)) C (WB_L hW) (mx_ rfl) rfl rfl) ⟨rfl, rfl, Nat.le_of_ble_eq_true rfl, Nat.le_of_ble_eq_true rfl⟩ rfl hl.1 rfl (Nat.le_of_ble_eq_true rfl) dL_law_1053 ⟨by show 1000 + 10 * k + 0 ≤ 600000; omega, by show 200000 + 20100 * k + 0 ≤ 7302250; omega⟩) (fun r249 u249 H locs hp249 hB hk hS => ?_)
            have hW : WB g A s.heap H locs ((hv J [42, 45] [(4, 6), (4, 7), (8, 1), (8, 2), (8, 3), (8, 4), (8, 5), (8, 6), (8, 7), (8, 8), (8, 9)] u249.1), (hv L [47] [] u249.2.1), (hv I [] [(6, 6), (6, 7)] u249.2.2), P, E, N) ((sgX g ++ dy) ++ sgM g) := joinL hW hB hk hS (frsub C (WB_L hW)) (okM hW (fun r h => hv_m (J := J) (R := [42, 45]) (F := [(4, 6), (4, 7), (8, 1), (8, 2), (8, 3), (8, 4), (8, 5), (8, 6), (8, 7), (8, 8), (8, 9)]) rfl rfl h) (fun r h => hv_m (J := L) (R := [47]) (F := []) rfl rfl h))
            refine lv_pop hx hb dL_law_1056 rfl ?_
            refine lv_aload_n hx hb dL_law_1057 rfl (lv_at hl 3 rfl) ?_
            refine lv_aload_n hx hb dL_law_1058 rfl (lv_at hl 1 rfl) ?_
            refine lv_iload_n hx hb dL_law_1059 rfl (lv_at hl 0 rfl) ?_
            refine lv_iconst (v := 1) hx hb dL_law_1060 (by decide) ?_
            refine lv_iadd hx hb dL_law_1061 ?_
            refine lv_topi (fun x250 (e250 : x250 = i + 1) => ?_)
            try have t250 : x250.toInt = i.toInt + 1 := tadd e250 rfl kp1 (by omega)
            have hin : vp_in x250 Lx := tin rfl (by omega)
            refine va_sld hx hb hX hbl hbA hW.2.2.1 hin dL_law_1062 ?_
            refine lv_as x244 (by rw [e244, e243, e250]) ?_
            refine lv_aload_n hx hb dL_law_1063 rfl (lv_at hl 1 rfl) ?_
            refine lv_iload_n hx hb dL_law_1064 rfl (lv_at hl 0 rfl) ?_
            refine lv_iconst (v := 2) hx hb dL_law_1065 (by decide) ?_
            refine lv_iadd hx hb dL_law_1066 ?_
            refine lv_topi (fun x251 (e251 : x251 = i + 2) => ?_)
            try have t251 : x251.toInt = i.toInt + 2 := tadd e251 rfl kp2 (by omega)
            have hin : vp_in x251 Lx := tin rfl (by omega)
            refine va_sld hx hb hX hbl hbA hW.2.2.1 hin dL_law_1067 ?_
            refine lv_as x246 (by rw [e246, e245, e251]) ?_
            refine lv_aload_n hx hb dL_law_1068 rfl (lv_at hl 1 rfl) ?_
            refine lv_iload_n hx hb dL_law_1069 rfl (lv_at hl 0 rfl) ?_
            refine lv_iconst (v := 3) hx hb dL_law_1070 (by decide) ?_
            refine lv_iadd hx hb dL_law_1071 ?_
            refine lv_topi (fun x252 (e252 : x252 = i + 3) => ?_)
            try have t252 : x252.toInt = i.toInt + 3 := tadd e252 rfl kp3 (by omega)
            have hin : vp_in x252 Lx := tin rfl (by omega)
            refine va_sld hx hb hX hbl hbA hW.2.2.1 hin dL_law_1072 ?_
            refine lv_as x248 (by rw [e248, e247, e252]) ?_
            refine ci2_ C (WB_R hW) (runV (x := g.2.2.1 13) (As := [.int x244, .int x246, .int x248]) (rest := []) (T := (((hv J [42, 45] [(4, 6), (4, 7), (8, 1), (8, 2), (8, 3), (8, 4), (8, 5), (8, 6), (8, 7), (8, 8), (8, 9)] u249.1), (hv L [47] [] u249.2.1), (hv I [] [(6, 6), (6, 7)] u249.2.2), P, E, N), sgM g)) C (WB_R hW) (c_X12_rights l g (hv J [42, 45] [(4, 6), (4, 7), (8, 1), (8, 2), (8, 3), (8, 4), (8, 5), (8, 6), (8, 7), (8, 8), (8, 9)] u249.1) (hv L [47] [] u249.2.1) (hv I [] [(6, 6), (6, 7)] u249.2.2) P E N H.size x244 x246 x248 hwm) mi_X12_rights tw_1491 (recv_ (T := (((hv J [42, 45] [(4, 6), (4, 7), (8, 1), (8, 2), (8, 3), (8, 4), (8, 5), (8, 6), (8, 7), (8, 8), (8, 9)] u249.1), (hv L [47] [] u249.2.1), (hv I [] [(6, 6), (6, 7)] u249.2.2), P, E, N), sgM g)) C (WB_R hW) (mm_ rfl) rfl rfl) ⟨rfl, rfl, Nat.le_of_ble_eq_true rfl, Nat.le_of_ble_eq_true rfl⟩ rfl hl.1 rfl (Nat.le_of_ble_eq_true rfl) dL_law_1073 ⟨by show 1000 + 10 * k + 0 + 0 ≤ 600000; omega, by show 200000 + 20100 * k + 0 + 0 ≤ 7302250; omega⟩) (fun r253 u253 H locs hp253 hB hk hS => ?_)
            have hW : WB g A s.heap H locs ((hv (hv J [42, 45] [(4, 6), (4, 7), (8, 1), (8, 2), (8, 3), (8, 4), (8, 5), (8, 6), (8, 7), (8, 8), (8, 9)] u249.1) [100, 146, 150, 151, 152, 154, 165, 166, 167] [(13, 47), (13, 48), (13, 56), (13, 57), (13, 58), (13, 59), (13, 60), (13, 68)] u253), (hv L [47] [] u249.2.1), (hv I [] [(6, 6), (6, 7)] u249.2.2), P, E, N) ((sgX g ++ dy) ++ sgM g) := joinR hW hB hk hS (frsub C (WB_R hW)) (fun x hx => cel_x (hv_x rfl rfl (notm hW x hx)))
            refine lv_pop hx hb dL_law_1076 rfl ?_
            refine lv_goto (tgt := 1389) hx hb dL_law_1077 (by decide) ?_
            obtain ⟨x254, e254⟩ : ∃ y : Int32, y = i + 5 := ⟨_, rfl⟩
            refine lv_iinc (v := x254) (lv' := [(3, .int x254), (0, .ref b), (1, .ref (g.2.2.1 12)), (2, .ref (g.2.2.1 13))]) hx hb dL_law_1389 hl (k := 0) rfl (by rw [e254]; rfl) (by decide) rfl (fun ls hl => ?_)
            try have t254 : x254.toInt = i.toInt + 5 := tadd e254 rfl kp5 (by omega)
            refine lv_goto (tgt := 18) hx hb dL_law_1392 (by decide) ?_
            refine W.widen (k := 1000 + 10 * (k + 1)) (n := 200000 + 20100 * (k + 1)) (by omega) (by omega) ?_
            exact ih (k + 1) x254 (hv (hv J [42, 45] [(4, 6), (4, 7), (8, 1), (8, 2), (8, 3), (8, 4), (8, 5), (8, 6), (8, 7), (8, 8), (8, 9)] u249.1) [100, 146, 150, 151, 152, 154, 165, 166, 167] [(13, 47), (13, 48), (13, 56), (13, 57), (13, 58), (13, 59), (13, 60), (13, 68)] u253) (hv L [47] [] u249.2.1) (hv I [] [(6, 6), (6, 7)] u249.2.2) P E N dy H locs ls (by omega) (by omega) (by omega) hwf hwm hnow hrl hac hrel0 hW (lv_sub hl [0, 1, 2, 3] rfl)
          · refine lv_tableIn (off := 1048) (tgt := 1080) hx hb dL_law_32 (Int.not_lt.mpr c6) (Int.not_lt.mpr c6b) (by rw [c6k]; rfl) (by decide) ?_
            refine lv_aload_n hx hb dL_law_1080 rfl (lv_at hl 2 rfl) ?_
            refine lv_aload_n hx hb dL_law_1081 rfl (lv_at hl 1 rfl) ?_
            refine lv_iload_n hx hb dL_law_1082 rfl (lv_at hl 0 rfl) ?_
            refine lv_iconst (v := 1) hx hb dL_law_1083 (by decide) ?_
            refine lv_iadd hx hb dL_law_1084 ?_
            refine lv_topi (fun x255 (e255 : x255 = i + 1) => ?_)
            try have t255 : x255.toInt = i.toInt + 1 := tadd e255 rfl kp1 (by omega)
            have hin : vp_in x255 Lx := tin rfl (by omega)
            refine va_sld hx hb hX hbl hbA hW.2.2.1 hin dL_law_1085 ?_
            refine lv_topi (fun x256 (e256 : x256 = xs x255.toNatClampNeg) => ?_)
            refine lv_if_eq (tgt := 1093) hx hb dL_law_1086 (by decide) (fun c257 => ?_) (fun c257 => ?_)
            · have c257 : x256.toInt = 0 := teq rfl kp0 c257
              refine lv_iconst (v := 0) hx hb dL_law_1093 (by decide) ?_
              refine ci2_ C (WB_L hW) (runV (x := g.2.2.1 12) (As := [.int 0]) (rest := []) (T := ((J, L, I, P, E, N), sgX g ++ dy)) C (WB_L hW) (c_X11_news l g J L I P E N dy H.size (0 : Int32) hwf) mi_X11_news tw_933 (recv_ (T := ((J, L, I, P, E, N), sgX g ++ dy)) C (WB_L hW) (mx_ rfl) rfl rfl) ⟨rfl, rfl, Nat.le_of_ble_eq_true rfl, Nat.le_of_ble_eq_true rfl⟩ rfl hl.1 rfl (Nat.le_of_ble_eq_true rfl) dL_law_1094 ⟨by show 1000 + 10 * k + 10 ≤ 600000; omega, by show 200000 + 20100 * k + 20100 ≤ 7302250; omega⟩) (fun r258 u258 H locs hp258 hB hk hS => ?_)
              have hW : WB g A s.heap H locs ((hv J [42] [(26, 0), (26, 2)] u258.1), L, (hv I [5] [] u258.2.1), (hv P [5, 36] [] u258.2.2.1), (hv1 E [26] u258.2.2.2.1), u258.2.2.2.2.1) ((sgX g ++ u258.2.2.2.2.2) ++ sgM g) := joinL hW hB hk hS (frsub C (WB_L hW)) (okM hW (fun r h => hv_m (J := J) (R := [42]) (F := [(26, 0), (26, 2)]) rfl rfl h) (fun r h => rfl))
              obtain ⟨hc258, hwf, hdd258⟩ := hp258
              refine lv_pop hx hb dL_law_1097 rfl ?_
              refine lv_aload_n hx hb dL_law_1098 rfl (lv_at hl 3 rfl) ?_
              refine lv_aload_n hx hb dL_law_1099 rfl (lv_at hl 1 rfl) ?_
              refine lv_iload_n hx hb dL_law_1100 rfl (lv_at hl 0 rfl) ?_
              refine lv_iconst (v := 1) hx hb dL_law_1101 (by decide) ?_
              refine lv_iadd hx hb dL_law_1102 ?_
              refine lv_topi (fun x259 (e259 : x259 = i + 1) => ?_)
              try have t259 : x259.toInt = i.toInt + 1 := tadd e259 rfl kp1 (by omega)
              have hin : vp_in x259 Lx := tin rfl (by omega)
              refine va_sld hx hb hX hbl hbA hW.2.2.1 hin dL_law_1103 ?_
              refine lv_as x256 (by rw [e256, e255, e259]) ?_
              refine lv_if_eq (tgt := 1111) hx hb dL_law_1104 (by decide) (fun c260 => ?_) (fun c260 => ?_)
              · have c260 : x256.toInt = 0 := teq rfl kp0 c260
                refine lv_iconst (v := 0) hx hb dL_law_1111 (by decide) ?_
                refine ci2_ C (WB_R hW) (runV (x := g.2.2.1 13) (As := [.int 0]) (rest := []) (T := (((hv J [42] [(26, 0), (26, 2)] u258.1), L, (hv I [5] [] u258.2.1), (hv P [5, 36] [] u258.2.2.1), (hv1 E [26] u258.2.2.2.1), u258.2.2.2.2.1), sgM g)) C (WB_R hW) (c_X12_news l g (hv J [42] [(26, 0), (26, 2)] u258.1) L (hv I [5] [] u258.2.1) (hv P [5, 36] [] u258.2.2.1) (hv1 E [26] u258.2.2.2.1) u258.2.2.2.2.1 H.size (0 : Int32) hwm) mi_X12_news tw_1503 (recv_ (T := (((hv J [42] [(26, 0), (26, 2)] u258.1), L, (hv I [5] [] u258.2.1), (hv P [5, 36] [] u258.2.2.1), (hv1 E [26] u258.2.2.2.1), u258.2.2.2.2.1), sgM g)) C (WB_R hW) (mm_ rfl) rfl rfl) ⟨rfl, rfl, Nat.le_of_ble_eq_true rfl, Nat.le_of_ble_eq_true rfl⟩ rfl hl.1 rfl (Nat.le_of_ble_eq_true rfl) dL_law_1112 ⟨by show 1000 + 10 * k + 10 + 0 ≤ 600000; omega, by show 200000 + 20100 * k + 20100 + 0 ≤ 7302250; omega⟩) (fun r261 u261 H locs hp261 hB hk hS => ?_)
                have hW : WB g A s.heap H locs ((hv (hv J [42] [(26, 0), (26, 2)] u258.1) [100, 127, 128] [(13, 42)] u261), L, (hv I [5] [] u258.2.1), (hv P [5, 36] [] u258.2.2.1), (hv1 E [26] u258.2.2.2.1), u258.2.2.2.2.1) ((sgX g ++ u258.2.2.2.2.2) ++ sgM g) := joinR hW hB hk hS (frsub C (WB_R hW)) (fun x hx => cel_x (hv_x rfl rfl (notm hW x hx)))
                obtain ⟨hwm, hc261⟩ : WM (hv (hv J [42] [(26, 0), (26, 2)] u258.1) [100, 127, 128] [(13, 42)] u261) ∧ ((r261.toInt = (-6) ∧ ((J 13 42).toInt = 40) ∧ u261 13 42 = J 13 42) ∨ (r261.toInt = (J 13 42).toInt ∧ ((J 13 42).toInt ≤ 39) ∧ (u261 13 42).toInt = (J 13 42).toInt + 1)) := hp261
                refine lv_pop hx hb dL_law_1115 rfl ?_
                refine lv_goto (tgt := 1389) hx hb dL_law_1116 (by decide) ?_
                obtain ⟨x262, e262⟩ : ∃ y : Int32, y = i + 5 := ⟨_, rfl⟩
                refine lv_iinc (v := x262) (lv' := [(3, .int x262), (0, .ref b), (1, .ref (g.2.2.1 12)), (2, .ref (g.2.2.1 13))]) hx hb dL_law_1389 hl (k := 0) rfl (by rw [e262]; rfl) (by decide) rfl (fun ls hl => ?_)
                try have t262 : x262.toInt = i.toInt + 5 := tadd e262 rfl kp5 (by omega)
                refine lv_goto (tgt := 18) hx hb dL_law_1392 (by decide) ?_
                refine W.widen (k := 1000 + 10 * (k + 1)) (n := 200000 + 20100 * (k + 1)) (by omega) (by omega) ?_
                exact ih (k + 1) x262 (hv (hv J [42] [(26, 0), (26, 2)] u258.1) [100, 127, 128] [(13, 42)] u261) L (hv I [5] [] u258.2.1) (hv P [5, 36] [] u258.2.2.1) (hv1 E [26] u258.2.2.2.1) u258.2.2.2.2.1 u258.2.2.2.2.2 H locs ls (by omega) (by omega) (by omega) hwf hwm hnow hrl hac hrel0 hW (lv_sub hl [0, 1, 2, 3] rfl)
              · have c260 : ¬ x256.toInt = 0 := tne rfl kp0 c260
                exfalso; omega
            · have c257 : ¬ x256.toInt = 0 := tne rfl kp0 c257
              refine lv_iconst (v := 1) hx hb dL_law_1089 (by decide) ?_
              refine lv_goto (tgt := 1094) hx hb dL_law_1090 (by decide) ?_
              refine ci2_ C (WB_L hW) (runV (x := g.2.2.1 12) (As := [.int 1]) (rest := []) (T := ((J, L, I, P, E, N), sgX g ++ dy)) C (WB_L hW) (c_X11_news l g J L I P E N dy H.size (1 : Int32) hwf) mi_X11_news tw_933 (recv_ (T := ((J, L, I, P, E, N), sgX g ++ dy)) C (WB_L hW) (mx_ rfl) rfl rfl) ⟨rfl, rfl, Nat.le_of_ble_eq_true rfl, Nat.le_of_ble_eq_true rfl⟩ rfl hl.1 rfl (Nat.le_of_ble_eq_true rfl) dL_law_1094 ⟨by show 1000 + 10 * k + 10 ≤ 600000; omega, by show 200000 + 20100 * k + 20100 ≤ 7302250; omega⟩) (fun r263 u263 H locs hp263 hB hk hS => ?_)
              have hW : WB g A s.heap H locs ((hv J [42] [(26, 0), (26, 2)] u263.1), L, (hv I [5] [] u263.2.1), (hv P [5, 36] [] u263.2.2.1), (hv1 E [26] u263.2.2.2.1), u263.2.2.2.2.1) ((sgX g ++ u263.2.2.2.2.2) ++ sgM g) := joinL hW hB hk hS (frsub C (WB_L hW)) (okM hW (fun r h => hv_m (J := J) (R := [42]) (F := [(26, 0), (26, 2)]) rfl rfl h) (fun r h => rfl))
              obtain ⟨hc263, hwf, hdd263⟩ := hp263
              refine lv_pop hx hb dL_law_1097 rfl ?_
              refine lv_aload_n hx hb dL_law_1098 rfl (lv_at hl 3 rfl) ?_
              refine lv_aload_n hx hb dL_law_1099 rfl (lv_at hl 1 rfl) ?_
              refine lv_iload_n hx hb dL_law_1100 rfl (lv_at hl 0 rfl) ?_
              refine lv_iconst (v := 1) hx hb dL_law_1101 (by decide) ?_
              refine lv_iadd hx hb dL_law_1102 ?_
              refine lv_topi (fun x264 (e264 : x264 = i + 1) => ?_)
              try have t264 : x264.toInt = i.toInt + 1 := tadd e264 rfl kp1 (by omega)
              have hin : vp_in x264 Lx := tin rfl (by omega)
              refine va_sld hx hb hX hbl hbA hW.2.2.1 hin dL_law_1103 ?_
              refine lv_as x256 (by rw [e256, e255, e264]) ?_
              refine lv_if_eq (tgt := 1111) hx hb dL_law_1104 (by decide) (fun c265 => ?_) (fun c265 => ?_)
              · have c265 : x256.toInt = 0 := teq rfl kp0 c265
                exfalso; omega
              · have c265 : ¬ x256.toInt = 0 := tne rfl kp0 c265
                refine lv_iconst (v := 1) hx hb dL_law_1107 (by decide) ?_
                refine lv_goto (tgt := 1112) hx hb dL_law_1108 (by decide) ?_
                refine ci2_ C (WB_R hW) (runV (x := g.2.2.1 13) (As := [.int 1]) (rest := []) (T := (((hv J [42] [(26, 0), (26, 2)] u263.1), L, (hv I [5] [] u263.2.1), (hv P [5, 36] [] u263.2.2.1), (hv1 E [26] u263.2.2.2.1), u263.2.2.2.2.1), sgM g)) C (WB_R hW) (c_X12_news l g (hv J [42] [(26, 0), (26, 2)] u263.1) L (hv I [5] [] u263.2.1) (hv P [5, 36] [] u263.2.2.1) (hv1 E [26] u263.2.2.2.1) u263.2.2.2.2.1 H.size (1 : Int32) hwm) mi_X12_news tw_1503 (recv_ (T := (((hv J [42] [(26, 0), (26, 2)] u263.1), L, (hv I [5] [] u263.2.1), (hv P [5, 36] [] u263.2.2.1), (hv1 E [26] u263.2.2.2.1), u263.2.2.2.2.1), sgM g)) C (WB_R hW) (mm_ rfl) rfl rfl) ⟨rfl, rfl, Nat.le_of_ble_eq_true rfl, Nat.le_of_ble_eq_true rfl⟩ rfl hl.1 rfl (Nat.le_of_ble_eq_true rfl) dL_law_1112 ⟨by show 1000 + 10 * k + 10 + 0 ≤ 600000; omega, by show 200000 + 20100 * k + 20100 + 0 ≤ 7302250; omega⟩) (fun r266 u266 H locs hp266 hB hk hS => ?_)
                have hW : WB g A s.heap H locs ((hv (hv J [42] [(26, 0), (26, 2)] u263.1) [100, 127, 128] [(13, 42)] u266), L, (hv I [5] [] u263.2.1), (hv P [5, 36] [] u263.2.2.1), (hv1 E [26] u263.2.2.2.1), u263.2.2.2.2.1) ((sgX g ++ u263.2.2.2.2.2) ++ sgM g) := joinR hW hB hk hS (frsub C (WB_R hW)) (fun x hx => cel_x (hv_x rfl rfl (notm hW x hx)))
                obtain ⟨hwm, hc266⟩ : WM (hv (hv J [42] [(26, 0), (26, 2)] u263.1) [100, 127, 128] [(13, 42)] u266) ∧ ((r266.toInt = (-6) ∧ ((J 13 42).toInt = 40) ∧ u266 13 42 = J 13 42) ∨ (r266.toInt = (J 13 42).toInt ∧ ((J 13 42).toInt ≤ 39) ∧ (u266 13 42).toInt = (J 13 42).toInt + 1)) := hp266
                refine lv_pop hx hb dL_law_1115 rfl ?_
                refine lv_goto (tgt := 1389) hx hb dL_law_1116 (by decide) ?_
                obtain ⟨x267, e267⟩ : ∃ y : Int32, y = i + 5 := ⟨_, rfl⟩
                refine lv_iinc (v := x267) (lv' := [(3, .int x267), (0, .ref b), (1, .ref (g.2.2.1 12)), (2, .ref (g.2.2.1 13))]) hx hb dL_law_1389 hl (k := 0) rfl (by rw [e267]; rfl) (by decide) rfl (fun ls hl => ?_)
                try have t267 : x267.toInt = i.toInt + 5 := tadd e267 rfl kp5 (by omega)
                refine lv_goto (tgt := 18) hx hb dL_law_1392 (by decide) ?_
                refine W.widen (k := 1000 + 10 * (k + 1)) (n := 200000 + 20100 * (k + 1)) (by omega) (by omega) ?_
                exact ih (k + 1) x267 (hv (hv J [42] [(26, 0), (26, 2)] u263.1) [100, 127, 128] [(13, 42)] u266) L (hv I [5] [] u263.2.1) (hv P [5, 36] [] u263.2.2.1) (hv1 E [26] u263.2.2.2.1) u263.2.2.2.2.1 u263.2.2.2.2.2 H locs ls (by omega) (by omega) (by omega) hwf hwm hnow hrl hac hrel0 hW (lv_sub hl [0, 1, 2, 3] rfl)
          · refine lv_tableIn (off := 1087) (tgt := 1119) hx hb dL_law_32 (Int.not_lt.mpr c6) (Int.not_lt.mpr c6b) (by rw [c6k]; rfl) (by decide) ?_
            refine lv_aload_n hx hb dL_law_1119 rfl (lv_at hl 2 rfl) ?_
            refine lv_aload_n hx hb dL_law_1120 rfl (lv_at hl 1 rfl) ?_
            refine lv_iload_n hx hb dL_law_1121 rfl (lv_at hl 0 rfl) ?_
            refine lv_iconst (v := 1) hx hb dL_law_1122 (by decide) ?_
            refine lv_iadd hx hb dL_law_1123 ?_
            refine lv_topi (fun x268 (e268 : x268 = i + 1) => ?_)
            try have t268 : x268.toInt = i.toInt + 1 := tadd e268 rfl kp1 (by omega)
            have hin : vp_in x268 Lx := tin rfl (by omega)
            refine va_sld hx hb hX hbl hbA hW.2.2.1 hin dL_law_1124 ?_
            refine lv_topi (fun x269 (e269 : x269 = xs x268.toNatClampNeg) => ?_)
            refine lv_aload_n hx hb dL_law_1125 rfl (lv_at hl 1 rfl) ?_
            refine lv_iload_n hx hb dL_law_1126 rfl (lv_at hl 0 rfl) ?_
            refine lv_iconst (v := 2) hx hb dL_law_1127 (by decide) ?_
            refine lv_iadd hx hb dL_law_1128 ?_
            refine lv_topi (fun x270 (e270 : x270 = i + 2) => ?_)
            try have t270 : x270.toInt = i.toInt + 2 := tadd e270 rfl kp2 (by omega)
            have hin : vp_in x270 Lx := tin rfl (by omega)
            refine va_sld hx hb hX hbl hbA hW.2.2.1 hin dL_law_1129 ?_
            refine lv_topi (fun x271 (e271 : x271 = xs x270.toNatClampNeg) => ?_)
            refine ci2_ C (WB_L hW) (runV (x := g.2.2.1 12) (As := [.int x269, .int x271]) (rest := []) (T := ((J, L, I, P, E, N), sgX g ++ dy)) C (WB_L hW) (c_X11_printed l g J L I P E N dy H.size x269 x271 hwf) mi_X11_printed tw_955 (recv_ (T := ((J, L, I, P, E, N), sgX g ++ dy)) C (WB_L hW) (mx_ rfl) rfl rfl) ⟨rfl, rfl, Nat.le_of_ble_eq_true rfl, Nat.le_of_ble_eq_true rfl⟩ rfl hl.1 rfl (Nat.le_of_ble_eq_true rfl) dL_law_1130 ⟨by show 1000 + 10 * k + 0 ≤ 600000; omega, by show 200000 + 20100 * k + 0 ≤ 7302250; omega⟩) (fun r272 u272 H locs hp272 hB hk hS => ?_)
            have hW : WB g A s.heap H locs ((hv J [42] [] u272.1), L, (hv I [] [(5, 1)] u272.2), P, E, N) ((sgX g ++ dy) ++ sgM g) := joinL hW hB hk hS (frsub C (WB_L hW)) (okM hW (fun r h => hv_m (J := J) (R := [42]) (F := []) rfl rfl h) (fun r h => rfl))
            refine lv_pop hx hb dL_law_1133 rfl ?_
            refine lv_aload_n hx hb dL_law_1134 rfl (lv_at hl 3 rfl) ?_
            refine lv_aload_n hx hb dL_law_1135 rfl (lv_at hl 1 rfl) ?_
            refine lv_iload_n hx hb dL_law_1136 rfl (lv_at hl 0 rfl) ?_
            refine lv_iconst (v := 1) hx hb dL_law_1137 (by decide) ?_
            refine lv_iadd hx hb dL_law_1138 ?_
            refine lv_topi (fun x273 (e273 : x273 = i + 1) => ?_)
            try have t273 : x273.toInt = i.toInt + 1 := tadd e273 rfl kp1 (by omega)
            have hin : vp_in x273 Lx := tin rfl (by omega)
            refine va_sld hx hb hX hbl hbA hW.2.2.1 hin dL_law_1139 ?_
            refine lv_as x269 (by rw [e269, e268, e273]) ?_
            refine lv_aload_n hx hb dL_law_1140 rfl (lv_at hl 1 rfl) ?_
            refine lv_iload_n hx hb dL_law_1141 rfl (lv_at hl 0 rfl) ?_
            refine lv_iconst (v := 2) hx hb dL_law_1142 (by decide) ?_
            refine lv_iadd hx hb dL_law_1143 ?_
            refine lv_topi (fun x274 (e274 : x274 = i + 2) => ?_)
            try have t274 : x274.toInt = i.toInt + 2 := tadd e274 rfl kp2 (by omega)
            have hin : vp_in x274 Lx := tin rfl (by omega)
            refine va_sld hx hb hX hbl hbA hW.2.2.1 hin dL_law_1144 ?_
            refine lv_as x271 (by rw [e271, e270, e274]) ?_
            refine ci2_ C (WB_R hW) (runV (x := g.2.2.1 13) (As := [.int x269, .int x271]) (rest := []) (T := (((hv J [42] [] u272.1), L, (hv I [] [(5, 1)] u272.2), P, E, N), sgM g)) C (WB_R hW) (c_X12_printed l g (hv J [42] [] u272.1) L (hv I [] [(5, 1)] u272.2) P E N H.size x269 x271 hwm) mi_X12_printed tw_1507 (recv_ (T := (((hv J [42] [] u272.1), L, (hv I [] [(5, 1)] u272.2), P, E, N), sgM g)) C (WB_R hW) (mm_ rfl) rfl rfl) ⟨rfl, rfl, Nat.le_of_ble_eq_true rfl, Nat.le_of_ble_eq_true rfl⟩ rfl hl.1 rfl (Nat.le_of_ble_eq_true rfl) dL_law_1145 ⟨by show 1000 + 10 * k + 0 + 0 ≤ 600000; omega, by show 200000 + 20100 * k + 0 + 0 ≤ 7302250; omega⟩) (fun r275 u275 H locs hp275 hB hk hS => ?_)
            have hW : WB g A s.heap H locs ((hv (hv J [42] [] u272.1) [100, 128] [] u275), L, (hv I [] [(5, 1)] u272.2), P, E, N) ((sgX g ++ dy) ++ sgM g) := joinR hW hB hk hS (frsub C (WB_R hW)) (fun x hx => cel_x (hv_x rfl rfl (notm hW x hx)))
            refine lv_pop hx hb dL_law_1148 rfl ?_
            refine lv_goto (tgt := 1389) hx hb dL_law_1149 (by decide) ?_
            obtain ⟨x276, e276⟩ : ∃ y : Int32, y = i + 5 := ⟨_, rfl⟩
            refine lv_iinc (v := x276) (lv' := [(3, .int x276), (0, .ref b), (1, .ref (g.2.2.1 12)), (2, .ref (g.2.2.1 13))]) hx hb dL_law_1389 hl (k := 0) rfl (by rw [e276]; rfl) (by decide) rfl (fun ls hl => ?_)
            try have t276 : x276.toInt = i.toInt + 5 := tadd e276 rfl kp5 (by omega)
            refine lv_goto (tgt := 18) hx hb dL_law_1392 (by decide) ?_
            refine W.widen (k := 1000 + 10 * (k + 1)) (n := 200000 + 20100 * (k + 1)) (by omega) (by omega) ?_
            exact ih (k + 1) x276 (hv (hv J [42] [] u272.1) [100, 128] [] u275) L (hv I [] [(5, 1)] u272.2) P E N dy H locs ls (by omega) (by omega) (by omega) hwf hwm hnow hrl hac hrel0 hW (lv_sub hl [0, 1, 2, 3] rfl)
          · refine lv_tableIn (off := 1120) (tgt := 1152) hx hb dL_law_32 (Int.not_lt.mpr c6) (Int.not_lt.mpr c6b) (by rw [c6k]; rfl) (by decide) ?_
            refine lv_aload_n hx hb dL_law_1152 rfl (lv_at hl 2 rfl) ?_
            refine lv_aload_n hx hb dL_law_1153 rfl (lv_at hl 1 rfl) ?_
            refine lv_iload_n hx hb dL_law_1154 rfl (lv_at hl 0 rfl) ?_
            refine lv_iconst (v := 1) hx hb dL_law_1155 (by decide) ?_
            refine lv_iadd hx hb dL_law_1156 ?_
            refine lv_topi (fun x277 (e277 : x277 = i + 1) => ?_)
            try have t277 : x277.toInt = i.toInt + 1 := tadd e277 rfl kp1 (by omega)
            have hin : vp_in x277 Lx := tin rfl (by omega)
            refine va_sld hx hb hX hbl hbA hW.2.2.1 hin dL_law_1157 ?_
            refine lv_topi (fun x278 (e278 : x278 = xs x277.toNatClampNeg) => ?_)
            refine ci2_ C (WB_L hW) (runV (x := g.2.2.1 12) (As := [.int x278]) (rest := []) (T := ((J, L, I, P, E, N), sgX g ++ dy)) C (WB_L hW) (c_X11_lag l g J L I P E N dy H.size x278 hwf) mi_X11_lag tw_959 (recv_ (T := ((J, L, I, P, E, N), sgX g ++ dy)) C (WB_L hW) (mx_ rfl) rfl rfl) ⟨rfl, rfl, Nat.le_of_ble_eq_true rfl, Nat.le_of_ble_eq_true rfl⟩ rfl hl.1 rfl (Nat.le_of_ble_eq_true rfl) dL_law_1158 ⟨by show 1000 + 10 * k + 0 ≤ 600000; omega, by show 200000 + 20100 * k + 0 ≤ 7302250; omega⟩) (fun r279 u279 H locs hp279 hB hk hS => ?_)
            have hW : WB g A s.heap H locs ((hv J [42] [] u279), L, I, P, E, N) ((sgX g ++ dy) ++ sgM g) := joinL hW hB hk hS (frsub C (WB_L hW)) (okM hW (fun r h => hv_m (J := J) (R := [42]) (F := []) rfl rfl h) (fun r h => rfl))
            refine lv_pop hx hb dL_law_1161 rfl ?_
            refine lv_aload_n hx hb dL_law_1162 rfl (lv_at hl 3 rfl) ?_
            refine lv_aload_n hx hb dL_law_1163 rfl (lv_at hl 1 rfl) ?_
            refine lv_iload_n hx hb dL_law_1164 rfl (lv_at hl 0 rfl) ?_
            refine lv_iconst (v := 1) hx hb dL_law_1165 (by decide) ?_
            refine lv_iadd hx hb dL_law_1166 ?_
            refine lv_topi (fun x280 (e280 : x280 = i + 1) => ?_)
            try have t280 : x280.toInt = i.toInt + 1 := tadd e280 rfl kp1 (by omega)
            have hin : vp_in x280 Lx := tin rfl (by omega)
            refine va_sld hx hb hX hbl hbA hW.2.2.1 hin dL_law_1167 ?_
            refine lv_as x278 (by rw [e278, e277, e280]) ?_
            refine ci2_ C (WB_R hW) (runV (x := g.2.2.1 13) (As := [.int x278]) (rest := []) (T := (((hv J [42] [] u279), L, I, P, E, N), sgM g)) C (WB_R hW) (c_X12_lag l g (hv J [42] [] u279) L I P E N H.size x278 hwm) mi_X12_lag tw_1511 (recv_ (T := (((hv J [42] [] u279), L, I, P, E, N), sgM g)) C (WB_R hW) (mm_ rfl) rfl rfl) ⟨rfl, rfl, Nat.le_of_ble_eq_true rfl, Nat.le_of_ble_eq_true rfl⟩ rfl hl.1 rfl (Nat.le_of_ble_eq_true rfl) dL_law_1168 ⟨by show 1000 + 10 * k + 0 + 0 ≤ 600000; omega, by show 200000 + 20100 * k + 0 + 0 ≤ 7302250; omega⟩) (fun r281 u281 H locs hp281 hB hk hS => ?_)
            have hW : WB g A s.heap H locs ((hv (hv J [42] [] u279) [100] [] u281), L, I, P, E, N) ((sgX g ++ dy) ++ sgM g) := joinR hW hB hk hS (frsub C (WB_R hW)) (fun x hx => cel_x (hv_x rfl rfl (notm hW x hx)))
            refine lv_pop hx hb dL_law_1171 rfl ?_
            refine lv_goto (tgt := 1389) hx hb dL_law_1172 (by decide) ?_
            obtain ⟨x282, e282⟩ : ∃ y : Int32, y = i + 5 := ⟨_, rfl⟩
            refine lv_iinc (v := x282) (lv' := [(3, .int x282), (0, .ref b), (1, .ref (g.2.2.1 12)), (2, .ref (g.2.2.1 13))]) hx hb dL_law_1389 hl (k := 0) rfl (by rw [e282]; rfl) (by decide) rfl (fun ls hl => ?_)
            try have t282 : x282.toInt = i.toInt + 5 := tadd e282 rfl kp5 (by omega)
            refine lv_goto (tgt := 18) hx hb dL_law_1392 (by decide) ?_
            refine W.widen (k := 1000 + 10 * (k + 1)) (n := 200000 + 20100 * (k + 1)) (by omega) (by omega) ?_
            exact ih (k + 1) x282 (hv (hv J [42] [] u279) [100] [] u281) L I P E N dy H locs ls (by omega) (by omega) (by omega) hwf hwm hnow hrl hac hrel0 hW (lv_sub hl [0, 1, 2, 3] rfl)
          · refine lv_tableIn (off := 1143) (tgt := 1175) hx hb dL_law_32 (Int.not_lt.mpr c6) (Int.not_lt.mpr c6b) (by rw [c6k]; rfl) (by decide) ?_
            refine lv_aload_n hx hb dL_law_1175 rfl (lv_at hl 2 rfl) ?_
            refine lv_aload_n hx hb dL_law_1176 rfl (lv_at hl 1 rfl) ?_
            refine lv_iload_n hx hb dL_law_1177 rfl (lv_at hl 0 rfl) ?_
            refine lv_iconst (v := 1) hx hb dL_law_1178 (by decide) ?_
            refine lv_iadd hx hb dL_law_1179 ?_
            refine lv_topi (fun x283 (e283 : x283 = i + 1) => ?_)
            try have t283 : x283.toInt = i.toInt + 1 := tadd e283 rfl kp1 (by omega)
            have hin : vp_in x283 Lx := tin rfl (by omega)
            refine va_sld hx hb hX hbl hbA hW.2.2.1 hin dL_law_1180 ?_
            refine lv_topi (fun x284 (e284 : x284 = xs x283.toNatClampNeg) => ?_)
            refine ci2_ C (WB_L hW) (runV (x := g.2.2.1 12) (As := [.int x284]) (rest := []) (T := ((J, L, I, P, E, N), sgX g ++ dy)) C (WB_L hW) (c_X11_fresh l g J L I P E N dy H.size x284 hwf) mi_X11_fresh tw_966 (recv_ (T := ((J, L, I, P, E, N), sgX g ++ dy)) C (WB_L hW) (mx_ rfl) rfl rfl) ⟨rfl, rfl, Nat.le_of_ble_eq_true rfl, Nat.le_of_ble_eq_true rfl⟩ rfl hl.1 rfl (Nat.le_of_ble_eq_true rfl) dL_law_1181 ⟨by show 1000 + 10 * k + 0 ≤ 600000; omega, by show 200000 + 20100 * k + 0 ≤ 7302250; omega⟩) (fun r285 u285 H locs hp285 hB hk hS => ?_)
            have hW : WB g A s.heap H locs ((hv J [42] [] u285), L, I, P, E, N) ((sgX g ++ dy) ++ sgM g) := joinL hW hB hk hS (frsub C (WB_L hW)) (okM hW (fun r h => hv_m (J := J) (R := [42]) (F := []) rfl rfl h) (fun r h => rfl))
            refine lv_pop hx hb dL_law_1184 rfl ?_
            refine lv_aload_n hx hb dL_law_1185 rfl (lv_at hl 3 rfl) ?_
            refine lv_aload_n hx hb dL_law_1186 rfl (lv_at hl 1 rfl) ?_
            refine lv_iload_n hx hb dL_law_1187 rfl (lv_at hl 0 rfl) ?_
            refine lv_iconst (v := 1) hx hb dL_law_1188 (by decide) ?_
            refine lv_iadd hx hb dL_law_1189 ?_
            refine lv_topi (fun x286 (e286 : x286 = i + 1) => ?_)
            try have t286 : x286.toInt = i.toInt + 1 := tadd e286 rfl kp1 (by omega)
            have hin : vp_in x286 Lx := tin rfl (by omega)
            refine va_sld hx hb hX hbl hbA hW.2.2.1 hin dL_law_1190 ?_
            refine lv_as x284 (by rw [e284, e283, e286]) ?_
            refine ci2_ C (WB_R hW) (runV (x := g.2.2.1 13) (As := [.int x284]) (rest := []) (T := (((hv J [42] [] u285), L, I, P, E, N), sgM g)) C (WB_R hW) (c_X12_fresh l g (hv J [42] [] u285) L I P E N H.size x284 hwm) mi_X12_fresh tw_1515 (recv_ (T := (((hv J [42] [] u285), L, I, P, E, N), sgM g)) C (WB_R hW) (mm_ rfl) rfl rfl) ⟨rfl, rfl, Nat.le_of_ble_eq_true rfl, Nat.le_of_ble_eq_true rfl⟩ rfl hl.1 rfl (Nat.le_of_ble_eq_true rfl) dL_law_1191 ⟨by show 1000 + 10 * k + 0 + 0 ≤ 600000; omega, by show 200000 + 20100 * k + 0 + 0 ≤ 7302250; omega⟩) (fun r287 u287 H locs hp287 hB hk hS => ?_)
            have hW : WB g A s.heap H locs ((hv (hv J [42] [] u285) [100] [] u287), L, I, P, E, N) ((sgX g ++ dy) ++ sgM g) := joinR hW hB hk hS (frsub C (WB_R hW)) (fun x hx => cel_x (hv_x rfl rfl (notm hW x hx)))
            refine lv_pop hx hb dL_law_1194 rfl ?_
            refine lv_goto (tgt := 1389) hx hb dL_law_1195 (by decide) ?_
            obtain ⟨x288, e288⟩ : ∃ y : Int32, y = i + 5 := ⟨_, rfl⟩
            refine lv_iinc (v := x288) (lv' := [(3, .int x288), (0, .ref b), (1, .ref (g.2.2.1 12)), (2, .ref (g.2.2.1 13))]) hx hb dL_law_1389 hl (k := 0) rfl (by rw [e288]; rfl) (by decide) rfl (fun ls hl => ?_)
            try have t288 : x288.toInt = i.toInt + 5 := tadd e288 rfl kp5 (by omega)
            refine lv_goto (tgt := 18) hx hb dL_law_1392 (by decide) ?_
            refine W.widen (k := 1000 + 10 * (k + 1)) (n := 200000 + 20100 * (k + 1)) (by omega) (by omega) ?_
            exact ih (k + 1) x288 (hv (hv J [42] [] u285) [100] [] u287) L I P E N dy H locs ls (by omega) (by omega) (by omega) hwf hwm hnow hrl hac hrel0 hW (lv_sub hl [0, 1, 2, 3] rfl)
          · refine lv_tableIn (off := 1166) (tgt := 1198) hx hb dL_law_32 (Int.not_lt.mpr c6) (Int.not_lt.mpr c6b) (by rw [c6k]; rfl) (by decide) ?_
            refine lv_aload_n hx hb dL_law_1198 rfl (lv_at hl 2 rfl) ?_
            refine lv_aload_n hx hb dL_law_1199 rfl (lv_at hl 1 rfl) ?_
            refine lv_iload_n hx hb dL_law_1200 rfl (lv_at hl 0 rfl) ?_
            refine lv_iconst (v := 1) hx hb dL_law_1201 (by decide) ?_
            refine lv_iadd hx hb dL_law_1202 ?_
            refine lv_topi (fun x289 (e289 : x289 = i + 1) => ?_)
            try have t289 : x289.toInt = i.toInt + 1 := tadd e289 rfl kp1 (by omega)
            have hin : vp_in x289 Lx := tin rfl (by omega)
            refine va_sld hx hb hX hbl hbA hW.2.2.1 hin dL_law_1203 ?_
            refine lv_topi (fun x290 (e290 : x290 = xs x289.toNatClampNeg) => ?_)
            refine ci2_ C (WB_L hW) (runV (x := g.2.2.1 12) (As := [.int x290]) (rest := []) (T := ((J, L, I, P, E, N), sgX g ++ dy)) C (WB_L hW) (c_X11_advert_e l g J L I P E N dy H.size x290 hwf hac) mi_X11_advert tw_974 (recv_ (T := ((J, L, I, P, E, N), sgX g ++ dy)) C (WB_L hW) (mx_ rfl) rfl rfl) ⟨rfl, rfl, Nat.le_of_ble_eq_true rfl, Nat.le_of_ble_eq_true rfl⟩ rfl hl.1 rfl (Nat.le_of_ble_eq_true rfl) dL_law_1204 ⟨by show 1000 + 10 * k + 0 ≤ 600000; omega, by show 200000 + 20100 * k + 0 ≤ 7302250; omega⟩) (fun r291 u291 H locs hp291 hB hk hS => ?_)
            have hW : WB g A s.heap H locs ((hv J [40, 42] [(12, 10)] u291), L, I, P, E, N) ((sgX g ++ dy) ++ sgM g) := joinL hW hB hk hS (frsub C (WB_L hW)) (okM hW (fun r h => hv_m (J := J) (R := [40, 42]) (F := [(12, 10)]) rfl rfl h) (fun r h => rfl))
            obtain ⟨hc291, hf291_0⟩ : ((r291.toInt = (-4) ∧ (x290.toInt < 0) ∧ u291 12 10 = J 12 10 ∧ u291 40 = J 40) ∨ (r291.toInt = (-6) ∧ (0 ≤ x290.toInt ∧ (9 < x290.toInt ∨ 200 ≤ (J 12 10).toInt)) ∧ u291 12 10 = J 12 10 ∧ u291 40 = J 40) ∨ (r291.toInt = (J 12 10).toInt / 5 ∧ (0 ≤ x290.toInt ∧ x290.toInt ≤ 9 ∧ (J 12 10).toInt ≤ 199) ∧ (u291 12 10).toInt = (J 12 10).toInt + 1 ∧ u291 40 = up2 J 40 (J 12 10).toNatClampNeg x290 40)) ∧ (0 ≤ (u291 12 10).toInt) := hp291
            have hac := hf291_0
            refine lv_pop hx hb dL_law_1207 rfl ?_
            refine lv_aload_n hx hb dL_law_1208 rfl (lv_at hl 3 rfl) ?_
            refine lv_aload_n hx hb dL_law_1209 rfl (lv_at hl 1 rfl) ?_
            refine lv_iload_n hx hb dL_law_1210 rfl (lv_at hl 0 rfl) ?_
            refine lv_iconst (v := 1) hx hb dL_law_1211 (by decide) ?_
            refine lv_iadd hx hb dL_law_1212 ?_
            refine lv_topi (fun x292 (e292 : x292 = i + 1) => ?_)
            try have t292 : x292.toInt = i.toInt + 1 := tadd e292 rfl kp1 (by omega)
            have hin : vp_in x292 Lx := tin rfl (by omega)
            refine va_sld hx hb hX hbl hbA hW.2.2.1 hin dL_law_1213 ?_
            refine lv_as x290 (by rw [e290, e289, e292]) ?_
            refine ci2_ C (WB_R hW) (runV (x := g.2.2.1 13) (As := [.int x290]) (rest := []) (T := (((hv J [40, 42] [(12, 10)] u291), L, I, P, E, N), sgM g)) C (WB_R hW) (c_X12_advert_e l g (hv J [40, 42] [(12, 10)] u291) L I P E N H.size x290 hwm) mi_X12_advert tw_1519 (recv_ (T := (((hv J [40, 42] [(12, 10)] u291), L, I, P, E, N), sgM g)) C (WB_R hW) (mm_ rfl) rfl rfl) ⟨rfl, rfl, Nat.le_of_ble_eq_true rfl, Nat.le_of_ble_eq_true rfl⟩ rfl hl.1 rfl (Nat.le_of_ble_eq_true rfl) dL_law_1214 ⟨by show 1000 + 10 * k + 0 + 0 ≤ 600000; omega, by show 200000 + 20100 * k + 0 + 0 ≤ 7302250; omega⟩) (fun r293 u293 H locs hp293 hB hk hS => ?_)
            have hW : WB g A s.heap H locs ((hv (hv J [40, 42] [(12, 10)] u291) [100, 129] [(13, 43)] u293), L, I, P, E, N) ((sgX g ++ dy) ++ sgM g) := joinR hW hB hk hS (frsub C (WB_R hW)) (fun x hx => cel_x (hv_x rfl rfl (notm hW x hx)))
            obtain ⟨hwm, hc293⟩ : WM (hv (hv J [40, 42] [(12, 10)] u291) [100, 129] [(13, 43)] u293) ∧ ((r293.toInt = (-4) ∧ (x290.toInt < 0) ∧ u293 13 43 = J 13 43 ∧ u293 129 = (hv J [40, 42] [(12, 10)] u291) 129) ∨ (r293.toInt = (-6) ∧ (0 ≤ x290.toInt ∧ (9 < x290.toInt ∨ (J 13 43).toInt = 200)) ∧ u293 13 43 = J 13 43 ∧ u293 129 = (hv J [40, 42] [(12, 10)] u291) 129) ∨ (r293.toInt = (J 13 43).toInt / 5 ∧ (0 ≤ x290.toInt ∧ x290.toInt ≤ 9 ∧ (J 13 43).toInt ≤ 199) ∧ (u293 13 43).toInt = (J 13 43).toInt + 1 ∧ u293 129 = up2 (hv J [40, 42] [(12, 10)] u291) 129 (J 13 43).toNatClampNeg x290 129)) := hp293
            refine lv_pop hx hb dL_law_1217 rfl ?_
            refine lv_goto (tgt := 1389) hx hb dL_law_1218 (by decide) ?_
            obtain ⟨x294, e294⟩ : ∃ y : Int32, y = i + 5 := ⟨_, rfl⟩
            refine lv_iinc (v := x294) (lv' := [(3, .int x294), (0, .ref b), (1, .ref (g.2.2.1 12)), (2, .ref (g.2.2.1 13))]) hx hb dL_law_1389 hl (k := 0) rfl (by rw [e294]; rfl) (by decide) rfl (fun ls hl => ?_)
            try have t294 : x294.toInt = i.toInt + 5 := tadd e294 rfl kp5 (by omega)
            refine lv_goto (tgt := 18) hx hb dL_law_1392 (by decide) ?_
            refine W.widen (k := 1000 + 10 * (k + 1)) (n := 200000 + 20100 * (k + 1)) (by omega) (by omega) ?_
            exact ih (k + 1) x294 (hv (hv J [40, 42] [(12, 10)] u291) [100, 129] [(13, 43)] u293) L I P E N dy H locs ls (by omega) (by omega) (by omega) hwf hwm hnow hrl hac hrel0 hW (lv_sub hl [0, 1, 2, 3] rfl)
          · refine lv_tableIn (off := 1189) (tgt := 1221) hx hb dL_law_32 (Int.not_lt.mpr c6) (Int.not_lt.mpr c6b) (by rw [c6k]; rfl) (by decide) ?_
            refine lv_aload_n hx hb dL_law_1221 rfl (lv_at hl 2 rfl) ?_
            refine lv_aload_n hx hb dL_law_1222 rfl (lv_at hl 1 rfl) ?_
            refine lv_iload_n hx hb dL_law_1223 rfl (lv_at hl 0 rfl) ?_
            refine lv_iconst (v := 1) hx hb dL_law_1224 (by decide) ?_
            refine lv_iadd hx hb dL_law_1225 ?_
            refine lv_topi (fun x295 (e295 : x295 = i + 1) => ?_)
            try have t295 : x295.toInt = i.toInt + 1 := tadd e295 rfl kp1 (by omega)
            have hin : vp_in x295 Lx := tin rfl (by omega)
            refine va_sld hx hb hX hbl hbA hW.2.2.1 hin dL_law_1226 ?_
            refine lv_topi (fun x296 (e296 : x296 = xs x295.toNatClampNeg) => ?_)
            refine lv_aload_n hx hb dL_law_1227 rfl (lv_at hl 1 rfl) ?_
            refine lv_iload_n hx hb dL_law_1228 rfl (lv_at hl 0 rfl) ?_
            refine lv_iconst (v := 2) hx hb dL_law_1229 (by decide) ?_
            refine lv_iadd hx hb dL_law_1230 ?_
            refine lv_topi (fun x297 (e297 : x297 = i + 2) => ?_)
            try have t297 : x297.toInt = i.toInt + 2 := tadd e297 rfl kp2 (by omega)
            have hin : vp_in x297 Lx := tin rfl (by omega)
            refine va_sld hx hb hX hbl hbA hW.2.2.1 hin dL_law_1231 ?_
            refine lv_topi (fun x298 (e298 : x298 = xs x297.toNatClampNeg) => ?_)
            refine ci2_ C (WB_L hW) (runV (x := g.2.2.1 12) (As := [.int x296, .int x298]) (rest := []) (T := ((J, L, I, P, E, N), sgX g ++ dy)) C (WB_L hW) (c_X11_sold_e l g J L I P E N dy H.size x296 x298 hwf hac) mi_X11_sold tw_978 (recv_ (T := ((J, L, I, P, E, N), sgX g ++ dy)) C (WB_L hW) (mx_ rfl) rfl rfl) ⟨rfl, rfl, Nat.le_of_ble_eq_true rfl, Nat.le_of_ble_eq_true rfl⟩ rfl hl.1 rfl (Nat.le_of_ble_eq_true rfl) dL_law_1232 ⟨by show 1000 + 10 * k + 0 ≤ 600000; omega, by show 200000 + 20100 * k + 0 ≤ 7302250; omega⟩) (fun r299 u299 H locs hp299 hB hk hS => ?_)
            have hW : WB g A s.heap H locs ((hv J [42] [] u299), L, I, P, E, N) ((sgX g ++ dy) ++ sgM g) := joinL hW hB hk hS (frsub C (WB_L hW)) (okM hW (fun r h => hv_m (J := J) (R := [42]) (F := []) rfl rfl h) (fun r h => rfl))
            obtain ⟨hc299, hf299_0⟩ : ((r299.toInt = (-4) ∧ (x298.toInt < 0)) ∨ (r299.toInt = (-6) ∧ (5 ≤ x298.toInt)) ∨ (r299.toInt = (-9) ∧ (0 ≤ x298.toInt ∧ x298.toInt ≤ 4 ∧ (x296.toInt < 0 ∨ 40 ≤ x296.toInt ∨ (J 12 10).toInt ≤ 5 * x296.toInt + x298.toInt ∨ 200 ≤ 5 * x296.toInt + x298.toInt))) ∨ (r299 = r299 ∧ (0 ≤ x298.toInt ∧ x298.toInt ≤ 4 ∧ 0 ≤ x296.toInt ∧ x296.toInt ≤ 39 ∧ 5 * x296.toInt + x298.toInt < (J 12 10).toInt ∧ 5 * x296.toInt + x298.toInt < 200))) ∧ (0 ≤ x298.toInt ∧ x298.toInt ≤ 4 ∧ 0 ≤ x296.toInt ∧ x296.toInt ≤ 39 ∧ 5 * x296.toInt + x298.toInt < (J 12 10).toInt ∧ 5 * x296.toInt + x298.toInt < 200 → r299 = J 40 (5 * x296.toInt + x298.toInt).toNat) := hp299
            refine lv_pop hx hb dL_law_1235 rfl ?_
            refine lv_aload_n hx hb dL_law_1236 rfl (lv_at hl 3 rfl) ?_
            refine lv_aload_n hx hb dL_law_1237 rfl (lv_at hl 1 rfl) ?_
            refine lv_iload_n hx hb dL_law_1238 rfl (lv_at hl 0 rfl) ?_
            refine lv_iconst (v := 1) hx hb dL_law_1239 (by decide) ?_
            refine lv_iadd hx hb dL_law_1240 ?_
            refine lv_topi (fun x300 (e300 : x300 = i + 1) => ?_)
            try have t300 : x300.toInt = i.toInt + 1 := tadd e300 rfl kp1 (by omega)
            have hin : vp_in x300 Lx := tin rfl (by omega)
            refine va_sld hx hb hX hbl hbA hW.2.2.1 hin dL_law_1241 ?_
            refine lv_as x296 (by rw [e296, e295, e300]) ?_
            refine lv_aload_n hx hb dL_law_1242 rfl (lv_at hl 1 rfl) ?_
            refine lv_iload_n hx hb dL_law_1243 rfl (lv_at hl 0 rfl) ?_
            refine lv_iconst (v := 2) hx hb dL_law_1244 (by decide) ?_
            refine lv_iadd hx hb dL_law_1245 ?_
            refine lv_topi (fun x301 (e301 : x301 = i + 2) => ?_)
            try have t301 : x301.toInt = i.toInt + 2 := tadd e301 rfl kp2 (by omega)
            have hin : vp_in x301 Lx := tin rfl (by omega)
            refine va_sld hx hb hX hbl hbA hW.2.2.1 hin dL_law_1246 ?_
            refine lv_as x298 (by rw [e298, e297, e301]) ?_
            refine ci2_ C (WB_R hW) (runV (x := g.2.2.1 13) (As := [.int x296, .int x298]) (rest := []) (T := (((hv J [42] [] u299), L, I, P, E, N), sgM g)) C (WB_R hW) (c_X12_sold_e l g (hv J [42] [] u299) L I P E N H.size x296 x298 hwm) mi_X12_sold tw_1523 (recv_ (T := (((hv J [42] [] u299), L, I, P, E, N), sgM g)) C (WB_R hW) (mm_ rfl) rfl rfl) ⟨rfl, rfl, Nat.le_of_ble_eq_true rfl, Nat.le_of_ble_eq_true rfl⟩ rfl hl.1 rfl (Nat.le_of_ble_eq_true rfl) dL_law_1247 ⟨by show 1000 + 10 * k + 0 + 0 ≤ 600000; omega, by show 200000 + 20100 * k + 0 + 0 ≤ 7302250; omega⟩) (fun r302 u302 H locs hp302 hB hk hS => ?_)
            have hW : WB g A s.heap H locs ((hv (hv J [42] [] u299) [100] [] u302), L, I, P, E, N) ((sgX g ++ dy) ++ sgM g) := joinR hW hB hk hS (frsub C (WB_R hW)) (fun x hx => cel_x (hv_x rfl rfl (notm hW x hx)))
            refine lv_pop hx hb dL_law_1250 rfl ?_
            refine lv_goto (tgt := 1389) hx hb dL_law_1251 (by decide) ?_
            obtain ⟨x303, e303⟩ : ∃ y : Int32, y = i + 5 := ⟨_, rfl⟩
            refine lv_iinc (v := x303) (lv' := [(3, .int x303), (0, .ref b), (1, .ref (g.2.2.1 12)), (2, .ref (g.2.2.1 13))]) hx hb dL_law_1389 hl (k := 0) rfl (by rw [e303]; rfl) (by decide) rfl (fun ls hl => ?_)
            try have t303 : x303.toInt = i.toInt + 5 := tadd e303 rfl kp5 (by omega)
            refine lv_goto (tgt := 18) hx hb dL_law_1392 (by decide) ?_
            refine W.widen (k := 1000 + 10 * (k + 1)) (n := 200000 + 20100 * (k + 1)) (by omega) (by omega) ?_
            exact ih (k + 1) x303 (hv (hv J [42] [] u299) [100] [] u302) L I P E N dy H locs ls (by omega) (by omega) (by omega) hwf hwm hnow hrl hac hrel0 hW (lv_sub hl [0, 1, 2, 3] rfl)
          · refine lv_tableIn (off := 1222) (tgt := 1254) hx hb dL_law_32 (Int.not_lt.mpr c6) (Int.not_lt.mpr c6b) (by rw [c6k]; rfl) (by decide) ?_
            refine lv_aload_n hx hb dL_law_1254 rfl (lv_at hl 2 rfl) ?_
            refine lv_aload_n hx hb dL_law_1255 rfl (lv_at hl 1 rfl) ?_
            refine lv_iload_n hx hb dL_law_1256 rfl (lv_at hl 0 rfl) ?_
            refine lv_iconst (v := 1) hx hb dL_law_1257 (by decide) ?_
            refine lv_iadd hx hb dL_law_1258 ?_
            refine lv_topi (fun x304 (e304 : x304 = i + 1) => ?_)
            try have t304 : x304.toInt = i.toInt + 1 := tadd e304 rfl kp1 (by omega)
            have hin : vp_in x304 Lx := tin rfl (by omega)
            refine va_sld hx hb hX hbl hbA hW.2.2.1 hin dL_law_1259 ?_
            refine lv_topi (fun x305 (e305 : x305 = xs x304.toNatClampNeg) => ?_)
            refine ci2_ C (WB_L hW) (runV (x := g.2.2.1 12) (As := [.int x305]) (rest := []) (T := ((J, L, I, P, E, N), sgX g ++ dy)) C (WB_L hW) (c_X11_put_r l g J L I P E N dy H.size x305 hwf hrl) mi_X11_put tw_982 (recv_ (T := ((J, L, I, P, E, N), sgX g ++ dy)) C (WB_L hW) (mx_ rfl) rfl rfl) ⟨rfl, rfl, Nat.le_of_ble_eq_true rfl, Nat.le_of_ble_eq_true rfl⟩ rfl hl.1 rfl (Nat.le_of_ble_eq_true rfl) dL_law_1260 ⟨by show 1000 + 10 * k + 0 ≤ 600000; omega, by show 200000 + 20100 * k + 0 ≤ 7302250; omega⟩) (fun r306 u306 H locs hp306 hB hk hS => ?_)
            have hW : WB g A s.heap H locs ((hv J [41, 42] [(12, 11)] u306), L, I, P, E, N) ((sgX g ++ dy) ++ sgM g) := joinL hW hB hk hS (frsub C (WB_L hW)) (okM hW (fun r h => hv_m (J := J) (R := [41, 42]) (F := [(12, 11)]) rfl rfl h) (fun r h => rfl))
            have hf306_0 : (0 ≤ (u306 12 11).toInt) := hp306
            have hrl := hf306_0
            refine lv_pop hx hb dL_law_1263 rfl ?_
            refine lv_aload_n hx hb dL_law_1264 rfl (lv_at hl 3 rfl) ?_
            refine lv_aload_n hx hb dL_law_1265 rfl (lv_at hl 1 rfl) ?_
            refine lv_iload_n hx hb dL_law_1266 rfl (lv_at hl 0 rfl) ?_
            refine lv_iconst (v := 1) hx hb dL_law_1267 (by decide) ?_
            refine lv_iadd hx hb dL_law_1268 ?_
            refine lv_topi (fun x307 (e307 : x307 = i + 1) => ?_)
            try have t307 : x307.toInt = i.toInt + 1 := tadd e307 rfl kp1 (by omega)
            have hin : vp_in x307 Lx := tin rfl (by omega)
            refine va_sld hx hb hX hbl hbA hW.2.2.1 hin dL_law_1269 ?_
            refine lv_as x305 (by rw [e305, e304, e307]) ?_
            refine ci2_ C (WB_R hW) (runV (x := g.2.2.1 13) (As := [.int x305]) (rest := []) (T := (((hv J [41, 42] [(12, 11)] u306), L, I, P, E, N), sgM g)) C (WB_R hW) (c_X12_put l g (hv J [41, 42] [(12, 11)] u306) L I P E N H.size x305 hwm) mi_X12_put tw_1527 (recv_ (T := (((hv J [41, 42] [(12, 11)] u306), L, I, P, E, N), sgM g)) C (WB_R hW) (mm_ rfl) rfl rfl) ⟨rfl, rfl, Nat.le_of_ble_eq_true rfl, Nat.le_of_ble_eq_true rfl⟩ rfl hl.1 rfl (Nat.le_of_ble_eq_true rfl) dL_law_1270 ⟨by show 1000 + 10 * k + 0 + 0 ≤ 600000; omega, by show 200000 + 20100 * k + 0 + 0 ≤ 7302250; omega⟩) (fun r308 u308 H locs hp308 hB hk hS => ?_)
            have hW : WB g A s.heap H locs ((hv (hv J [41, 42] [(12, 11)] u306) [100, 130] [(13, 44)] u308), L, I, P, E, N) ((sgX g ++ dy) ++ sgM g) := joinR hW hB hk hS (frsub C (WB_R hW)) (fun x hx => cel_x (hv_x rfl rfl (notm hW x hx)))
            have hwm : WM (hv (hv J [41, 42] [(12, 11)] u306) [100, 130] [(13, 44)] u308) := hp308
            refine lv_pop hx hb dL_law_1273 rfl ?_
            refine lv_goto (tgt := 1389) hx hb dL_law_1274 (by decide) ?_
            obtain ⟨x309, e309⟩ : ∃ y : Int32, y = i + 5 := ⟨_, rfl⟩
            refine lv_iinc (v := x309) (lv' := [(3, .int x309), (0, .ref b), (1, .ref (g.2.2.1 12)), (2, .ref (g.2.2.1 13))]) hx hb dL_law_1389 hl (k := 0) rfl (by rw [e309]; rfl) (by decide) rfl (fun ls hl => ?_)
            try have t309 : x309.toInt = i.toInt + 5 := tadd e309 rfl kp5 (by omega)
            refine lv_goto (tgt := 18) hx hb dL_law_1392 (by decide) ?_
            refine W.widen (k := 1000 + 10 * (k + 1)) (n := 200000 + 20100 * (k + 1)) (by omega) (by omega) ?_
            exact ih (k + 1) x309 (hv (hv J [41, 42] [(12, 11)] u306) [100, 130] [(13, 44)] u308) L I P E N dy H locs ls (by omega) (by omega) (by omega) hwf hwm hnow hrl hac hrel0 hW (lv_sub hl [0, 1, 2, 3] rfl)
          · refine lv_tableIn (off := 1245) (tgt := 1277) hx hb dL_law_32 (Int.not_lt.mpr c6) (Int.not_lt.mpr c6b) (by rw [c6k]; rfl) (by decide) ?_
            refine lv_aload_n hx hb dL_law_1277 rfl (lv_at hl 2 rfl) ?_
            refine ci2_ C (WB_L hW) (runV (x := g.2.2.1 12) (As := []) (rest := []) (T := ((J, L, I, P, E, N), sgX g ++ dy)) C (WB_L hW) (c_X11_judge_r l g J L I P E N dy H.size  hwf) mi_X11_judge tw_986 (recv_ (T := ((J, L, I, P, E, N), sgX g ++ dy)) C (WB_L hW) (mx_ rfl) rfl rfl) ⟨rfl, rfl, Nat.le_of_ble_eq_true rfl, Nat.le_of_ble_eq_true rfl⟩ rfl hl.1 rfl (Nat.le_of_ble_eq_true rfl) dL_law_1278 ⟨by show 1000 + 10 * k + 0 ≤ 600000; omega, by show 200000 + 20100 * k + 0 ≤ 7302250; omega⟩) (fun r310 u310 H locs hp310 hB hk hS => ?_)
            have hW : WB g A s.heap H locs ((hv J [] [(12, 11)] u310), L, I, P, E, N) ((sgX g ++ dy) ++ sgM g) := joinL hW hB hk hS (frsub C (WB_L hW)) (okM hW (fun r h => hv_m (J := J) (R := []) (F := [(12, 11)]) rfl rfl h) (fun r h => rfl))
            have hf310_0 : (0 ≤ (u310 12 11).toInt) := hp310
            have hrl := hf310_0
            refine lv_pop hx hb dL_law_1281 rfl ?_
            refine lv_aload_n hx hb dL_law_1282 rfl (lv_at hl 3 rfl) ?_
            refine ci2_ C (WB_R hW) (runV (x := g.2.2.1 13) (As := []) (rest := []) (T := (((hv J [] [(12, 11)] u310), L, I, P, E, N), sgM g)) C (WB_R hW) (c_X12_judge l g (hv J [] [(12, 11)] u310) L I P E N H.size  hwm) mi_X12_judge tw_1531 (recv_ (T := (((hv J [] [(12, 11)] u310), L, I, P, E, N), sgM g)) C (WB_R hW) (mm_ rfl) rfl rfl) ⟨rfl, rfl, Nat.le_of_ble_eq_true rfl, Nat.le_of_ble_eq_true rfl⟩ rfl hl.1 rfl (Nat.le_of_ble_eq_true rfl) dL_law_1283 ⟨by show 1000 + 10 * k + 0 + 0 ≤ 600000; omega, by show 200000 + 20100 * k + 0 + 0 ≤ 7302250; omega⟩) (fun r311 u311 H locs hp311 hB hk hS => ?_)
            have hW : WB g A s.heap H locs ((hv (hv J [] [(12, 11)] u310) [] [(13, 44)] u311), L, I, P, E, N) ((sgX g ++ dy) ++ sgM g) := joinR hW hB hk hS (frsub C (WB_R hW)) (fun x hx => cel_x (hv_x rfl rfl (notm hW x hx)))
            have hwm : WM (hv (hv J [] [(12, 11)] u310) [] [(13, 44)] u311) := hp311
            refine lv_pop hx hb dL_law_1286 rfl ?_
            refine lv_goto (tgt := 1389) hx hb dL_law_1287 (by decide) ?_
            obtain ⟨x312, e312⟩ : ∃ y : Int32, y = i + 5 := ⟨_, rfl⟩
            refine lv_iinc (v := x312) (lv' := [(3, .int x312), (0, .ref b), (1, .ref (g.2.2.1 12)), (2, .ref (g.2.2.1 13))]) hx hb dL_law_1389 hl (k := 0) rfl (by rw [e312]; rfl) (by decide) rfl (fun ls hl => ?_)
            try have t312 : x312.toInt = i.toInt + 5 := tadd e312 rfl kp5 (by omega)
            refine lv_goto (tgt := 18) hx hb dL_law_1392 (by decide) ?_
            refine W.widen (k := 1000 + 10 * (k + 1)) (n := 200000 + 20100 * (k + 1)) (by omega) (by omega) ?_
            exact ih (k + 1) x312 (hv (hv J [] [(12, 11)] u310) [] [(13, 44)] u311) L I P E N dy H locs ls (by omega) (by omega) (by omega) hwf hwm hnow hrl hac hrel0 hW (lv_sub hl [0, 1, 2, 3] rfl)
          · refine lv_tableIn (off := 1258) (tgt := 1290) hx hb dL_law_32 (Int.not_lt.mpr c6) (Int.not_lt.mpr c6b) (by rw [c6k]; rfl) (by decide) ?_
            refine lv_aload_n hx hb dL_law_1290 rfl (lv_at hl 2 rfl) ?_
            refine lv_aload_n hx hb dL_law_1291 rfl (lv_at hl 1 rfl) ?_
            refine lv_iload_n hx hb dL_law_1292 rfl (lv_at hl 0 rfl) ?_
            refine lv_iconst (v := 1) hx hb dL_law_1293 (by decide) ?_
            refine lv_iadd hx hb dL_law_1294 ?_
            refine lv_topi (fun x313 (e313 : x313 = i + 1) => ?_)
            try have t313 : x313.toInt = i.toInt + 1 := tadd e313 rfl kp1 (by omega)
            have hin : vp_in x313 Lx := tin rfl (by omega)
            refine va_sld hx hb hX hbl hbA hW.2.2.1 hin dL_law_1295 ?_
            refine lv_topi (fun x314 (e314 : x314 = xs x313.toNatClampNeg) => ?_)
            refine lv_aload_n hx hb dL_law_1296 rfl (lv_at hl 1 rfl) ?_
            refine lv_iload_n hx hb dL_law_1297 rfl (lv_at hl 0 rfl) ?_
            refine lv_iconst (v := 2) hx hb dL_law_1298 (by decide) ?_
            refine lv_iadd hx hb dL_law_1299 ?_
            refine lv_topi (fun x315 (e315 : x315 = i + 2) => ?_)
            try have t315 : x315.toInt = i.toInt + 2 := tadd e315 rfl kp2 (by omega)
            have hin : vp_in x315 Lx := tin rfl (by omega)
            refine va_sld hx hb hX hbl hbA hW.2.2.1 hin dL_law_1300 ?_
            refine lv_topi (fun x316 (e316 : x316 = xs x315.toNatClampNeg) => ?_)
            refine lv_aload_n hx hb dL_law_1301 rfl (lv_at hl 1 rfl) ?_
            refine lv_iload_n hx hb dL_law_1302 rfl (lv_at hl 0 rfl) ?_
            refine lv_iconst (v := 3) hx hb dL_law_1303 (by decide) ?_
            refine lv_iadd hx hb dL_law_1304 ?_
            refine lv_topi (fun x317 (e317 : x317 = i + 3) => ?_)
            try have t317 : x317.toInt = i.toInt + 3 := tadd e317 rfl kp3 (by omega)
            have hin : vp_in x317 Lx := tin rfl (by omega)
            refine va_sld hx hb hX hbl hbA hW.2.2.1 hin dL_law_1305 ?_
            refine lv_topi (fun x318 (e318 : x318 = xs x317.toNatClampNeg) => ?_)
            refine lv_aload_n hx hb dL_law_1306 rfl (lv_at hl 1 rfl) ?_
            refine lv_iload_n hx hb dL_law_1307 rfl (lv_at hl 0 rfl) ?_
            refine lv_iconst (v := 4) hx hb dL_law_1308 (by decide) ?_
            refine lv_iadd hx hb dL_law_1309 ?_
            refine lv_topi (fun x319 (e319 : x319 = i + 4) => ?_)
            try have t319 : x319.toInt = i.toInt + 4 := tadd e319 rfl kp4 (by omega)
            have hin : vp_in x319 Lx := tin rfl (by omega)
            refine va_sld hx hb hX hbl hbA hW.2.2.1 hin dL_law_1310 ?_
            refine lv_topi (fun x320 (e320 : x320 = xs x319.toNatClampNeg) => ?_)
            refine ci2_ C (WB_L hW) (runV (x := g.2.2.1 12) (As := [.int x314, .int x316, .int x318, .int x320]) (rest := []) (T := ((J, L, I, P, E, N), sgX g ++ dy)) C (WB_L hW) (c_X11_order l g J L I P E N dy H.size x314 x316 x318 x320 hwf) mi_X11_order tw_990 (recv_ (T := ((J, L, I, P, E, N), sgX g ++ dy)) C (WB_L hW) (mx_ rfl) rfl rfl) ⟨rfl, rfl, Nat.le_of_ble_eq_true rfl, Nat.le_of_ble_eq_true rfl⟩ rfl hl.1 rfl (Nat.le_of_ble_eq_true rfl) dL_law_1311 ⟨by show 1000 + 10 * k + 0 ≤ 600000; omega, by show 200000 + 20100 * k + 0 ≤ 7302250; omega⟩) (fun r321 u321 H locs hp321 hB hk hS => ?_)
            have hW : WB g A s.heap H locs ((hv J [42] [] u321), L, I, P, E, N) ((sgX g ++ dy) ++ sgM g) := joinL hW hB hk hS (frsub C (WB_L hW)) (okM hW (fun r h => hv_m (J := J) (R := [42]) (F := []) rfl rfl h) (fun r h => rfl))
            refine lv_pop hx hb dL_law_1314 rfl ?_
            refine lv_aload_n hx hb dL_law_1315 rfl (lv_at hl 3 rfl) ?_
            refine lv_aload_n hx hb dL_law_1316 rfl (lv_at hl 1 rfl) ?_
            refine lv_iload_n hx hb dL_law_1317 rfl (lv_at hl 0 rfl) ?_
            refine lv_iconst (v := 1) hx hb dL_law_1318 (by decide) ?_
            refine lv_iadd hx hb dL_law_1319 ?_
            refine lv_topi (fun x322 (e322 : x322 = i + 1) => ?_)
            try have t322 : x322.toInt = i.toInt + 1 := tadd e322 rfl kp1 (by omega)
            have hin : vp_in x322 Lx := tin rfl (by omega)
            refine va_sld hx hb hX hbl hbA hW.2.2.1 hin dL_law_1320 ?_
            refine lv_as x314 (by rw [e314, e313, e322]) ?_
            refine lv_aload_n hx hb dL_law_1321 rfl (lv_at hl 1 rfl) ?_
            refine lv_iload_n hx hb dL_law_1322 rfl (lv_at hl 0 rfl) ?_
            refine lv_iconst (v := 2) hx hb dL_law_1323 (by decide) ?_
            refine lv_iadd hx hb dL_law_1324 ?_
            refine lv_topi (fun x323 (e323 : x323 = i + 2) => ?_)
            try have t323 : x323.toInt = i.toInt + 2 := tadd e323 rfl kp2 (by omega)
            have hin : vp_in x323 Lx := tin rfl (by omega)
            refine va_sld hx hb hX hbl hbA hW.2.2.1 hin dL_law_1325 ?_
            refine lv_as x316 (by rw [e316, e315, e323]) ?_
            refine lv_aload_n hx hb dL_law_1326 rfl (lv_at hl 1 rfl) ?_
            refine lv_iload_n hx hb dL_law_1327 rfl (lv_at hl 0 rfl) ?_
            refine lv_iconst (v := 3) hx hb dL_law_1328 (by decide) ?_
            refine lv_iadd hx hb dL_law_1329 ?_
            refine lv_topi (fun x324 (e324 : x324 = i + 3) => ?_)
            try have t324 : x324.toInt = i.toInt + 3 := tadd e324 rfl kp3 (by omega)
            have hin : vp_in x324 Lx := tin rfl (by omega)
            refine va_sld hx hb hX hbl hbA hW.2.2.1 hin dL_law_1330 ?_
            refine lv_as x318 (by rw [e318, e317, e324]) ?_
            refine lv_aload_n hx hb dL_law_1331 rfl (lv_at hl 1 rfl) ?_
            refine lv_iload_n hx hb dL_law_1332 rfl (lv_at hl 0 rfl) ?_
            refine lv_iconst (v := 4) hx hb dL_law_1333 (by decide) ?_
            refine lv_iadd hx hb dL_law_1334 ?_
            refine lv_topi (fun x325 (e325 : x325 = i + 4) => ?_)
            try have t325 : x325.toInt = i.toInt + 4 := tadd e325 rfl kp4 (by omega)
            have hin : vp_in x325 Lx := tin rfl (by omega)
            refine va_sld hx hb hX hbl hbA hW.2.2.1 hin dL_law_1335 ?_
            refine lv_as x320 (by rw [e320, e319, e325]) ?_
            refine ci2_ C (WB_R hW) (runV (x := g.2.2.1 13) (As := [.int x314, .int x316, .int x318, .int x320]) (rest := []) (T := (((hv J [42] [] u321), L, I, P, E, N), sgM g)) C (WB_R hW) (c_X12_order l g (hv J [42] [] u321) L I P E N H.size x314 x316 x318 x320 hwm) mi_X12_order tw_1535 (recv_ (T := (((hv J [42] [] u321), L, I, P, E, N), sgM g)) C (WB_R hW) (mm_ rfl) rfl rfl) ⟨rfl, rfl, Nat.le_of_ble_eq_true rfl, Nat.le_of_ble_eq_true rfl⟩ rfl hl.1 rfl (Nat.le_of_ble_eq_true rfl) dL_law_1336 ⟨by show 1000 + 10 * k + 0 + 0 ≤ 600000; omega, by show 200000 + 20100 * k + 0 + 0 ≤ 7302250; omega⟩) (fun r326 u326 H locs hp326 hB hk hS => ?_)
            have hW : WB g A s.heap H locs ((hv (hv J [42] [] u321) [100, 169] [] u326), L, I, P, E, N) ((sgX g ++ dy) ++ sgM g) := joinR hW hB hk hS (frsub C (WB_R hW)) (fun x hx => cel_x (hv_x rfl rfl (notm hW x hx)))
            refine lv_pop hx hb dL_law_1339 rfl ?_
            refine lv_goto (tgt := 1389) hx hb dL_law_1340 (by decide) ?_
            obtain ⟨x327, e327⟩ : ∃ y : Int32, y = i + 5 := ⟨_, rfl⟩
            refine lv_iinc (v := x327) (lv' := [(3, .int x327), (0, .ref b), (1, .ref (g.2.2.1 12)), (2, .ref (g.2.2.1 13))]) hx hb dL_law_1389 hl (k := 0) rfl (by rw [e327]; rfl) (by decide) rfl (fun ls hl => ?_)
            try have t327 : x327.toInt = i.toInt + 5 := tadd e327 rfl kp5 (by omega)
            refine lv_goto (tgt := 18) hx hb dL_law_1392 (by decide) ?_
            refine W.widen (k := 1000 + 10 * (k + 1)) (n := 200000 + 20100 * (k + 1)) (by omega) (by omega) ?_
            exact ih (k + 1) x327 (hv (hv J [42] [] u321) [100, 169] [] u326) L I P E N dy H locs ls (by omega) (by omega) (by omega) hwf hwm hnow hrl hac hrel0 hW (lv_sub hl [0, 1, 2, 3] rfl)
          · refine lv_tableIn (off := 1311) (tgt := 1343) hx hb dL_law_32 (Int.not_lt.mpr c6) (Int.not_lt.mpr c6b) (by rw [c6k]; rfl) (by decide) ?_
            refine lv_aload_n hx hb dL_law_1343 rfl (lv_at hl 2 rfl) ?_
            refine lv_aload_n hx hb dL_law_1344 rfl (lv_at hl 1 rfl) ?_
            refine lv_iload_n hx hb dL_law_1345 rfl (lv_at hl 0 rfl) ?_
            refine lv_iconst (v := 1) hx hb dL_law_1346 (by decide) ?_
            refine lv_iadd hx hb dL_law_1347 ?_
            refine lv_topi (fun x328 (e328 : x328 = i + 1) => ?_)
            try have t328 : x328.toInt = i.toInt + 1 := tadd e328 rfl kp1 (by omega)
            have hin : vp_in x328 Lx := tin rfl (by omega)
            refine va_sld hx hb hX hbl hbA hW.2.2.1 hin dL_law_1348 ?_
            refine lv_topi (fun x329 (e329 : x329 = xs x328.toNatClampNeg) => ?_)
            refine ci2_ C (WB_L hW) (runV (x := g.2.2.1 12) (As := [.int x329]) (rest := []) (T := ((J, L, I, P, E, N), sgX g ++ dy)) C (WB_L hW) (c_X11_check_r l g J L I P E N dy H.size x329 hwf hrl) mi_X11_check tw_1001 (recv_ (T := ((J, L, I, P, E, N), sgX g ++ dy)) C (WB_L hW) (mx_ rfl) rfl rfl) ⟨rfl, rfl, Nat.le_of_ble_eq_true rfl, Nat.le_of_ble_eq_true rfl⟩ rfl hl.1 rfl (Nat.le_of_ble_eq_true rfl) dL_law_1349 ⟨by show 1000 + 10 * k + 0 ≤ 600000; omega, by show 200000 + 20100 * k + 0 ≤ 7302250; omega⟩) (fun r330 u330 H locs hp330 hB hk hS => ?_)
            have hW : WB g A s.heap H locs ((hv J [42] [(12, 11)] u330), L, I, P, E, N) ((sgX g ++ dy) ++ sgM g) := joinL hW hB hk hS (frsub C (WB_L hW)) (okM hW (fun r h => hv_m (J := J) (R := [42]) (F := [(12, 11)]) rfl rfl h) (fun r h => rfl))
            have hf330_0 : (0 ≤ (u330 12 11).toInt) := hp330
            have hrl := hf330_0
            refine lv_pop hx hb dL_law_1352 rfl ?_
            refine lv_aload_n hx hb dL_law_1353 rfl (lv_at hl 3 rfl) ?_
            refine lv_aload_n hx hb dL_law_1354 rfl (lv_at hl 1 rfl) ?_
            refine lv_iload_n hx hb dL_law_1355 rfl (lv_at hl 0 rfl) ?_
            refine lv_iconst (v := 1) hx hb dL_law_1356 (by decide) ?_
            refine lv_iadd hx hb dL_law_1357 ?_
            refine lv_topi (fun x331 (e331 : x331 = i + 1) => ?_)
            try have t331 : x331.toInt = i.toInt + 1 := tadd e331 rfl kp1 (by omega)
            have hin : vp_in x331 Lx := tin rfl (by omega)
            refine va_sld hx hb hX hbl hbA hW.2.2.1 hin dL_law_1358 ?_
            refine lv_as x329 (by rw [e329, e328, e331]) ?_
            refine ci2_ C (WB_R hW) (runV (x := g.2.2.1 13) (As := [.int x329]) (rest := []) (T := (((hv J [42] [(12, 11)] u330), L, I, P, E, N), sgM g)) C (WB_R hW) (c_X12_check l g (hv J [42] [(12, 11)] u330) L I P E N H.size x329 hwm) mi_X12_check tw_1540 (recv_ (T := (((hv J [42] [(12, 11)] u330), L, I, P, E, N), sgM g)) C (WB_R hW) (mm_ rfl) rfl rfl) ⟨rfl, rfl, Nat.le_of_ble_eq_true rfl, Nat.le_of_ble_eq_true rfl⟩ rfl hl.1 rfl (Nat.le_of_ble_eq_true rfl) dL_law_1359 ⟨by show 1000 + 10 * k + 0 + 0 ≤ 600000; omega, by show 200000 + 20100 * k + 0 + 0 ≤ 7302250; omega⟩) (fun r332 u332 H locs hp332 hB hk hS => ?_)
            have hW : WB g A s.heap H locs ((hv (hv J [42] [(12, 11)] u330) [100] [(13, 44)] u332), L, I, P, E, N) ((sgX g ++ dy) ++ sgM g) := joinR hW hB hk hS (frsub C (WB_R hW)) (fun x hx => cel_x (hv_x rfl rfl (notm hW x hx)))
            have hwm : WM (hv (hv J [42] [(12, 11)] u330) [100] [(13, 44)] u332) := hp332
            refine lv_pop hx hb dL_law_1362 rfl ?_
            refine lv_goto (tgt := 1389) hx hb dL_law_1363 (by decide) ?_
            obtain ⟨x333, e333⟩ : ∃ y : Int32, y = i + 5 := ⟨_, rfl⟩
            refine lv_iinc (v := x333) (lv' := [(3, .int x333), (0, .ref b), (1, .ref (g.2.2.1 12)), (2, .ref (g.2.2.1 13))]) hx hb dL_law_1389 hl (k := 0) rfl (by rw [e333]; rfl) (by decide) rfl (fun ls hl => ?_)
            try have t333 : x333.toInt = i.toInt + 5 := tadd e333 rfl kp5 (by omega)
            refine lv_goto (tgt := 18) hx hb dL_law_1392 (by decide) ?_
            refine W.widen (k := 1000 + 10 * (k + 1)) (n := 200000 + 20100 * (k + 1)) (by omega) (by omega) ?_
            exact ih (k + 1) x333 (hv (hv J [42] [(12, 11)] u330) [100] [(13, 44)] u332) L I P E N dy H locs ls (by omega) (by omega) (by omega) hwf hwm hnow hrl hac hrel0 hW (lv_sub hl [0, 1, 2, 3] rfl)
          · refine lv_tableIn (off := 1334) (tgt := 1366) hx hb dL_law_32 (Int.not_lt.mpr c6) (Int.not_lt.mpr c6b) (by rw [c6k]; rfl) (by decide) ?_
            refine lv_aload_n hx hb dL_law_1366 rfl (lv_at hl 2 rfl) ?_
            refine lv_aload_n hx hb dL_law_1367 rfl (lv_at hl 1 rfl) ?_
            refine lv_iload_n hx hb dL_law_1368 rfl (lv_at hl 0 rfl) ?_
            refine lv_iconst (v := 1) hx hb dL_law_1369 (by decide) ?_
            refine lv_iadd hx hb dL_law_1370 ?_
            refine lv_topi (fun x334 (e334 : x334 = i + 1) => ?_)
            try have t334 : x334.toInt = i.toInt + 1 := tadd e334 rfl kp1 (by omega)
            have hin : vp_in x334 Lx := tin rfl (by omega)
            refine va_sld hx hb hX hbl hbA hW.2.2.1 hin dL_law_1371 ?_
            refine lv_topi (fun x335 (e335 : x335 = xs x334.toNatClampNeg) => ?_)
            refine ci2_ C (WB_L hW) (runV (x := g.2.2.1 12) (As := [.int x335]) (rest := []) (T := ((J, L, I, P, E, N), sgX g ++ dy)) C (WB_L hW) (c_X11_count l g J L I P E N dy H.size x335 hwf) mi_X11_count tw_1005 (recv_ (T := ((J, L, I, P, E, N), sgX g ++ dy)) C (WB_L hW) (mx_ rfl) rfl rfl) ⟨rfl, rfl, Nat.le_of_ble_eq_true rfl, Nat.le_of_ble_eq_true rfl⟩ rfl hl.1 rfl (Nat.le_of_ble_eq_true rfl) dL_law_1372 ⟨by show 1000 + 10 * k + 0 ≤ 600000; omega, by show 200000 + 20100 * k + 0 ≤ 7302250; omega⟩) (fun r336 u336 H locs hp336 hB hk hS => ?_)
            have hW : WB g A s.heap H locs (J, L, I, P, E, N) ((sgX g ++ dy) ++ sgM g) := joinL hW hB hk hS (frsub C (WB_L hW)) (okM hW (fun r h => rfl) (fun r h => rfl))
            refine lv_pop hx hb dL_law_1375 rfl ?_
            refine lv_aload_n hx hb dL_law_1376 rfl (lv_at hl 3 rfl) ?_
            refine lv_aload_n hx hb dL_law_1377 rfl (lv_at hl 1 rfl) ?_
            refine lv_iload_n hx hb dL_law_1378 rfl (lv_at hl 0 rfl) ?_
            refine lv_iconst (v := 1) hx hb dL_law_1379 (by decide) ?_
            refine lv_iadd hx hb dL_law_1380 ?_
            refine lv_topi (fun x337 (e337 : x337 = i + 1) => ?_)
            try have t337 : x337.toInt = i.toInt + 1 := tadd e337 rfl kp1 (by omega)
            have hin : vp_in x337 Lx := tin rfl (by omega)
            refine va_sld hx hb hX hbl hbA hW.2.2.1 hin dL_law_1381 ?_
            refine lv_as x335 (by rw [e335, e334, e337]) ?_
            refine ci2_ C (WB_R hW) (runV (x := g.2.2.1 13) (As := [.int x335]) (rest := []) (T := ((J, L, I, P, E, N), sgM g)) C (WB_R hW) (c_X12_count l g J L I P E N H.size x335 hwm) mi_X12_count tw_1544 (recv_ (T := ((J, L, I, P, E, N), sgM g)) C (WB_R hW) (mm_ rfl) rfl rfl) ⟨rfl, rfl, Nat.le_of_ble_eq_true rfl, Nat.le_of_ble_eq_true rfl⟩ rfl hl.1 rfl (Nat.le_of_ble_eq_true rfl) dL_law_1382 ⟨by show 1000 + 10 * k + 0 + 0 ≤ 600000; omega, by show 200000 + 20100 * k + 0 + 0 ≤ 7302250; omega⟩) (fun r338 u338 H locs hp338 hB hk hS => ?_)
            have hW : WB g A s.heap H locs (J, L, I, P, E, N) ((sgX g ++ dy) ++ sgM g) := joinR hW hB hk hS (frsub C (WB_R hW)) (fun _ _ => rfl)
            refine lv_pop hx hb dL_law_1385 rfl ?_
            refine lv_goto (tgt := 1389) hx hb dL_law_1386 (by decide) ?_
            obtain ⟨x339, e339⟩ : ∃ y : Int32, y = i + 5 := ⟨_, rfl⟩
            refine lv_iinc (v := x339) (lv' := [(3, .int x339), (0, .ref b), (1, .ref (g.2.2.1 12)), (2, .ref (g.2.2.1 13))]) hx hb dL_law_1389 hl (k := 0) rfl (by rw [e339]; rfl) (by decide) rfl (fun ls hl => ?_)
            try have t339 : x339.toInt = i.toInt + 5 := tadd e339 rfl kp5 (by omega)
            refine lv_goto (tgt := 18) hx hb dL_law_1392 (by decide) ?_
            refine W.widen (k := 1000 + 10 * (k + 1)) (n := 200000 + 20100 * (k + 1)) (by omega) (by omega) ?_
            exact ih (k + 1) x339 J L I P E N dy H locs ls (by omega) (by omega) (by omega) hwf hwm hnow hrl hac hrel0 hW (lv_sub hl [0, 1, 2, 3] rfl)
