/-- how many of the first n are 2, are above 0 -/
def CT2 (f : Nat → Int) : Nat → Int
  | 0 => 0
  | n + 1 => CT2 f n + (if f n = 2 then 1 else 0)
def CT1 (f : Nat → Int) : Nat → Int
  | 0 => 0
  | n + 1 => CT1 f n + (if 0 < f n then 1 else 0)
/-- how each home heard a minute, by how loud it is -/
def HF (kd : Int32) (su ma : Nat → Int32) (m : Int) (le : Int32) (ea hn x : Nat → Int32) : Nat → Int := fun h => HWV kd (su h) (ma h) m (le * ea h).toInt (x (hn h).toNatClampNeg).toInt
def HFM (kd : Int32) (su ma : Nat → Int32) (m : Int) (le : Int32) (ea hn x : Nat → Int32) : Nat → Int := fun h => HWV kd (su h) (ma h) m le.toInt (x (hn h).toNatClampNeg / ea h).toInt
section CTS
variable {f g : Nat → Int} {i i' s v : Int} {n : Nat}
theorem ct2_c (h : ∀ k, k < n → f k = g k) : CT2 f n = CT2 g n := by
  induction n with
  | zero => rfl
  | succ n ih => rw [CT2, CT2, ih (fun k hk => h k (by omega)), h n (by omega)]
theorem ct1_c (h : ∀ k, k < n → f k = g k) : CT1 f n = CT1 g n := by
  induction n with
  | zero => rfl
  | succ n ih => rw [CT1, CT1, ih (fun k hk => h k (by omega)), h n (by omega)]
theorem ct2_y (h : s = CT2 f i.toNat) (h0 : 0 ≤ i) (e : i' = i + 1) (hf : f i.toNat = 2) (hv : v = s + 1) : v = CT2 f i'.toNat := by
  subst e
  have e2 : (i + 1).toNat = i.toNat + 1 := by omega
  rw [e2, CT2, if_pos hf, hv, h]
theorem ct2_n (h : s = CT2 f i.toNat) (h0 : 0 ≤ i) (e : i' = i + 1) (hf : ¬ f i.toNat = 2) (hv : v = s) : v = CT2 f i'.toNat := by
  subst e
  have e2 : (i + 1).toNat = i.toNat + 1 := by omega
  rw [e2, CT2, if_neg hf, hv, h, Int.add_zero]
theorem ct1_y (h : s = CT1 f i.toNat) (h0 : 0 ≤ i) (e : i' = i + 1) (hf : 0 < f i.toNat) (hv : v = s + 1) : v = CT1 f i'.toNat := by
  subst e
  have e2 : (i + 1).toNat = i.toNat + 1 := by omega
  rw [e2, CT1, if_pos hf, hv, h]
theorem ct1_n (h : s = CT1 f i.toNat) (h0 : 0 ≤ i) (e : i' = i + 1) (hf : ¬ 0 < f i.toNat) (hv : v = s) : v = CT1 f i'.toNat := by
  subst e
  have e2 : (i + 1).toNat = i.toNat + 1 := by omega
  rw [e2, CT1, if_neg hf, hv, h, Int.add_zero]
end CTS
set_option maxHeartbeats 4000000 in
set_option maxRecDepth 100000 in
theorem c_X3_tally_e (l : Launch) (g : gG) (J : Nat → Nat → Int32) (L : Nat → Nat → Int64) (I : Nat → Nat → Nat → Int32) (P : Nat → Nat → Nat → Option Nat) (E : Nat → Option Nat) (N : Nat → Nat) (dy : List (Nat × Nat)) (sz : Nat) (a0 : Nat) (hm0 : (9, a0) ∈ dy) (a1 : Int32) (hwf : WXF g J P E N dy) (hnt : NTR (P 6 0) (elt E P 20) (J 101) (J 20 2).toInt) (hij : INJ E P 20 (J 20 2).toInt) (hcu : CUR (P 1 0) (I 1 1) (I 1 2) (elt E P 21) (elt E P 20) (J 105) (J 106) (J 107) (J 21 2).toInt (J 20 2).toInt) (hhm : HMR (P 2 0) (I 2 1) (I 2 2) (I 2 3) (elt E P 22) (elt E P 20) (J 108) (J 109) (J 110) (J 111) (J 22 2).toInt (J 20 2).toInt) (hm9 : 0 ≤ a1.toInt ∧ a1.toInt ≤ 9999) : Met l yX3_tally (WS yX3_tally cX3_tally 5 none) (RM (5) 0 0) (PC g [.ref (g.2.2.1 4), .ref a0, .int a1] ((J, L, I, P, E, N), sgX g ++ dy) sz) (va_Qv (fun (u : (Nat → Nat → Int32) × (Nat → Nat → Nat → Int32)) => ((I 9 2 a0).toInt = 6 → (u.1 4 6).toInt = 0 ∧ (u.1 4 7).toInt = 0) ∧ (¬ (I 9 2 a0).toInt = 6 → ∃ x : Nat → Int32, SND x (J 101) (fun k => I 6 1 (elt E P 20 k)) (fun k => I 6 3 (elt E P 20 k)) (fun k => I 6 5 (elt E P 20 k)) (CUTP (J 105) (J 106) (J 107) (J 21 2).toInt a1.toInt) (I 9 5 a0) (I 9 3 a0) (J 20 2).toInt ∧ (u.1 4 6).toInt = CT2 (HF (I 9 2 a0) (J 110) (J 111) a1.toInt (J 4 5) (J 109) (J 108) x) (J 22 2).toInt.toNat ∧ (u.1 4 7).toInt = CT1 (HF (I 9 2 a0) (J 110) (J 111) a1.toInt (J 4 5) (J 109) (J 108) x) (J 22 2).toInt.toNat)) (fun u t => at_ g (FR g ((J, L, I, P, E, N), sgX g ++ dy) sz) (((hv J [] [(4, 6), (4, 7)] u.1), L, (hv I [] [(6, 6), (6, 7)] u.2), P, E, N), sgX g ++ dy) t) (FR g ((J, L, I, P, E, N), sgX g ++ dy) sz)) 0 0 (FR g ((J, L, I, P, E, N), sgX g ++ dy) sz) := by
  refine ent (by decide +kernel) (Nat.le_of_ble_eq_true rfl) ?_
  intro p e s m below meth c ls hsz C hW hr hlocks hname hl
  generalize FR g ((J, L, I, P, E, N), sgX g ++ dy) sz = A at C hW ⊢
  generalize hQ9 : (va_Qv (fun (u : (Nat → Nat → Int32) × (Nat → Nat → Nat → Int32)) => ((I 9 2 a0).toInt = 6 → (u.1 4 6).toInt = 0 ∧ (u.1 4 7).toInt = 0) ∧ (¬ (I 9 2 a0).toInt = 6 → ∃ x : Nat → Int32, SND x (J 101) (fun k => I 6 1 (elt E P 20 k)) (fun k => I 6 3 (elt E P 20 k)) (fun k => I 6 5 (elt E P 20 k)) (CUTP (J 105) (J 106) (J 107) (J 21 2).toInt a1.toInt) (I 9 5 a0) (I 9 3 a0) (J 20 2).toInt ∧ (u.1 4 6).toInt = CT2 (HF (I 9 2 a0) (J 110) (J 111) a1.toInt (J 4 5) (J 109) (J 108) x) (J 22 2).toInt.toNat ∧ (u.1 4 7).toInt = CT1 (HF (I 9 2 a0) (J 110) (J 111) a1.toInt (J 4 5) (J 109) (J 108) x) (J 22 2).toInt.toNat)) (fun u t => at_ g A (((hv J [] [(4, 6), (4, 7)] u.1), L, (hv I [] [(6, 6), (6, 7)] u.2), P, E, N), sgX g ++ dy) t) A) = Q9
  have hx := C.1.1
  have hb := C.1.2.1
  have hts := C.1.2.2.2.2
  have hl : lv_has ls 5 [(0, .ref (g.2.2.1 4)), (1, .ref a0), (2, .int a1)] := hl
  obtain ⟨H, hH⟩ : ∃ H : Heap, H = s.heap := ⟨_, rfl⟩
  obtain ⟨locs, hlocs⟩ : ∃ q : List Loc, q = [] := ⟨_, rfl⟩
  have hW : WB g A s.heap H locs (J, L, I, P, E, N) (sgX g ++ dy) := by rw [hH, hlocs]; exact hW
  obtain ⟨h22a, h22b, -⟩ := hwf.1.2.2.1
  refine start_ hH hlocs ?_
  refine lv_aload_n hx hb dX3_tally_0 rfl (lv_at hl 0 rfl) ?_
  refine lv_iconst (v := 0) hx hb dX3_tally_1 (by decide) ?_
  refine rp_4_6 C hW (mx_ rfl) tw_244 dX3_tally_2 (fun H locs hW => ?_)
  refine lv_aload_n hx hb dX3_tally_5 rfl (lv_at hl 0 rfl) ?_
  refine lv_iconst (v := 0) hx hb dX3_tally_6 (by decide) ?_
  refine rp_4_7 C hW (mx_ rfl) tw_246 dX3_tally_7 (fun H locs hW => ?_)
  refine lv_aload_n hx hb dX3_tally_10 rfl (lv_at hl 1 rfl) ?_
  refine rg_9_2 C hW (List.mem_append_right _ hm0) tw_428 dX3_tally_11 ?_
  refine lv_topi (fun x1 (e1 : x1 = I 9 2 a0) => ?_)
  have t1 : x1.toInt = (I 9 2 a0).toInt := by rw [e1]
  refine lv_bipush (v := 6) hx hb dX3_tally_14 (by decide) ?_
  refine lv_icmp_ne (tgt := 20) hx hb dX3_tally_16 (by decide) (fun c2 => ?_) (fun c2 => ?_)
  · have c2 : ¬ x1.toInt = 6 := tne rfl kp6 c2
    refine lv_aload_n hx hb dX3_tally_20 rfl (lv_at hl 0 rfl) ?_
    refine lv_aload_n hx hb dX3_tally_21 rfl (lv_at hl 1 rfl) ?_
    refine rg_9_5 C hW (List.mem_append_right _ hm0) tw_435 dX3_tally_22 ?_
    refine lv_topi (fun x3 (e3 : x3 = I 9 5 a0) => ?_)
    have t3 : x3.toInt = (I 9 5 a0).toInt := by rw [e3]
    refine lv_aload_n hx hb dX3_tally_25 rfl (lv_at hl 1 rfl) ?_
    refine rg_9_3 C hW (List.mem_append_right _ hm0) tw_431 dX3_tally_26 ?_
    refine lv_topi (fun x4 (e4 : x4 = I 9 3 a0) => ?_)
    have t4 : x4.toInt = (I 9 3 a0).toInt := by rw [e4]
    refine lv_iload_n hx hb dX3_tally_29 rfl (lv_at hl 2 rfl) ?_
    refine cv_ C hW (runV (x := (g.2.2.1 4)) (As := [.int x3, .int x4, .int a1]) (rest := []) (T := (((up2 (up2 J 4 6 0) 4 7 0), L, I, P, E, N), sgX g ++ dy)) C hW (c_X3_carry_e l g (up2 (up2 J 4 6 0) 4 7 0) L I P E N dy H.size x3 x4 a1 hwf (show NTR (P 6 0) (elt E P 20) (J 101) (J 20 2).toInt from hnt) (show INJ E P 20 (J 20 2).toInt from hij) (show CUR (P 1 0) (I 1 1) (I 1 2) (elt E P 21) (elt E P 20) (J 105) (J 106) (J 107) (J 21 2).toInt (J 20 2).toInt from hcu)) mi_X3_carry tw_716 (recv_ (T := (((up2 (up2 J 4 6 0) 4 7 0), L, I, P, E, N), sgX g ++ dy)) C hW (mx_ rfl) rfl rfl) ⟨rfl, rfl, Nat.le_of_ble_eq_true rfl, Nat.le_of_ble_eq_true rfl⟩ rfl hl.1 rfl (Nat.le_of_ble_eq_true rfl) dX3_tally_30 ⟨Nat.le_of_ble_eq_true rfl, Nat.le_of_ble_eq_true rfl⟩) (fun u5 H locs hp5 hW => ?_)
    have hf5_0 : (SND (fun k => u5 6 7 (elt E P 20 k)) (J 101) (fun k => I 6 1 (elt E P 20 k)) (fun k => I 6 3 (elt E P 20 k)) (fun k => I 6 5 (elt E P 20 k)) (CUTP (J 105) (J 106) (J 107) (J 21 2).toInt a1.toInt) x3 x4 (J 20 2).toInt) := hp5
    clear hp5
    have hW : WB g A s.heap H locs ((up2 (up2 J 4 6 0) 4 7 0), L, (hv I [] [(6, 6), (6, 7)] u5), P, E, N) (sgX g ++ dy) := hW
    have hS := hf5_0
    refine lv_iconst (v := 0) hx hb dX3_tally_33 (by decide) ?_
    refine lv_istore_n (lv' := [(3, .int 0), (0, .ref (g.2.2.1 4)), (1, .ref a0), (2, .int a1)]) hx hb dX3_tally_34 rfl hl (by decide) rfl (fun ls hl => ?_)
    have loop35 : ∀ (n : Nat) (m3 : Int32) (Gl6 : Nat → Nat → Int32) (H : Heap) (locs : List Loc) (ls : Array Slot), ((J 22 2).toInt - m3.toInt).toNat < n → 0 ≤ m3.toInt ∧ m3.toInt ≤ (J 22 2).toInt ∧ 0 ≤ (Gl6 4 6).toInt ∧ (Gl6 4 6).toInt ≤ m3.toInt ∧ 0 ≤ (Gl6 4 7).toInt ∧ (Gl6 4 7).toInt ≤ m3.toInt → (Gl6 4 6).toInt = CT2 (HF (I 9 2 a0) (J 110) (J 111) a1.toInt (J 4 5) (J 109) (J 108) (fun k => (hv I [] [(6, 6), (6, 7)] u5) 6 7 (elt E P 20 k))) m3.toInt.toNat → (Gl6 4 7).toInt = CT1 (HF (I 9 2 a0) (J 110) (J 111) a1.toInt (J 4 5) (J 109) (J 108) (fun k => (hv I [] [(6, 6), (6, 7)] u5) 6 7 (elt E P 20 k))) m3.toInt.toNat → WB g A s.heap H locs ((hv (up2 (up2 J 4 6 0) 4 7 0) [] [(4, 6), (4, 7)] Gl6), L, (hv I [] [(6, 6), (6, 7)] u5), P, E, N) (sgX g ++ dy) → lv_has ls 5 [(3, .int m3), (0, .ref (g.2.2.1 4)), (1, .ref a0), (2, .int a1)] → W p l e (RM (5) 0 0) s m ([.ref (g.2.2.1 4), .ref a0, .int a1] : List Value).toArray below meth c H locs 0 0 (MQ below Q9 ([.ref (g.2.2.1 4), .ref a0, .int a1] : List Value).toArray s 0 0 A) (F0 m 35 ls []) := by
      intro n
      induction n with
      | zero => intro m3 Gl6 H locs ls hmeas; exact absurd hmeas (Nat.not_lt_zero _)
      | succ n ih =>
        intro m3 Gl6 H locs ls hmeas hi hc2 hc1 hW hl
        refine lv_iload_n hx hb dX3_tally_35 rfl (lv_at hl 0 rfl) ?_
        refine lv_aload_n hx hb dX3_tally_36 rfl (lv_at hl 1 rfl) ?_
        refine rg_4_2 C hW (mx_ rfl) tw_236 dX3_tally_37 ?_
        refine ci_ C hW (runV (x := (g.2.2.1 22)) (As := []) (rest := [.int m3]) (T := (((hv (up2 (up2 J 4 6 0) 4 7 0) [] [(4, 6), (4, 7)] Gl6), L, (hv I [] [(6, 6), (6, 7)] u5), P, E, N), sgX g ++ dy)) C hW (c_Jx4a65c_size_8abf5 l g (hv (up2 (up2 J 4 6 0) 4 7 0) [] [(4, 6), (4, 7)] Gl6) L (hv I [] [(6, 6), (6, 7)] u5) P E N dy H.size 22 rfl ) mi_Jx4a65c_size_8abf5 tw_467 (recv_ (T := (((hv (up2 (up2 J 4 6 0) 4 7 0) [] [(4, 6), (4, 7)] Gl6), L, (hv I [] [(6, 6), (6, 7)] u5), P, E, N), sgX g ++ dy)) C hW (mx_ rfl) (cel_list rfl) rfl) ⟨rfl, rfl, Nat.le_of_ble_eq_true rfl, Nat.le_of_ble_eq_true rfl⟩ rfl hl.1 rfl (Nat.le_of_ble_eq_true rfl) dX3_tally_40 ⟨Nat.le_of_ble_eq_true rfl, Nat.le_of_ble_eq_true rfl⟩) (fun r7 u7 H locs hp7 hW => ?_)
        have hc7 : ((r7 = J 22 2)) := hp7
        clear hp7
        have hr7 : r7 = J 22 2 := hc7
        refine lv_as (J 22 2) hr7 ?_
        have hW : WB g A s.heap H locs ((hv (up2 (up2 J 4 6 0) 4 7 0) [] [(4, 6), (4, 7)] Gl6), L, (hv I [] [(6, 6), (6, 7)] u5), P, E, N) (sgX g ++ dy) := hW
        refine lv_icmp_ge (tgt := 110) hx hb dX3_tally_43 (by decide) (fun c8 => ?_) (fun c8 => ?_)
        · have c8 : (J 22 2).toInt ≤ m3.toInt := tle rfl rfl c8
          have hWr : WB g A s.heap H locs ((hv J [] [(4, 6), (4, 7)] (hv (up2 (up2 J 4 6 0) 4 7 0) [] [(4, 6), (4, 7)] Gl6)), L, (hv I [] [(6, 6), (6, 7)] (hv I [] [(6, 6), (6, 7)] u5)), P, E, N) (sgX g ++ dy) := by
            rw [← ag_hvE (J := J) (R := []) (F := [(4, 6), (4, 7)]) (ag_hv rfl rfl (ag_up (Or.inr rfl) (ag_up (Or.inr rfl) ag_rf)))]
            rw [← ag_hvE (J := I) (R := []) (F := [(6, 6), (6, 7)]) (ag_hv rfl rfl ag_rf)]
            exact hW
          subst hQ9
          exact end_v C hr hlocks ((hv (up2 (up2 J 4 6 0) 4 7 0) [] [(4, 6), (4, 7)] Gl6), (hv I [] [(6, 6), (6, 7)] u5)) hWr ⟨show (I 9 2 a0).toInt = 6 → (Gl6 4 6).toInt = 0 ∧ (Gl6 4 7).toInt = 0 from by first | exact fun _ => ⟨kp0, kp0⟩ | (intro h9; exfalso; omega), show ¬ (I 9 2 a0).toInt = 6 → ∃ x : Nat → Int32, SND x (J 101) (fun k => I 6 1 (elt E P 20 k)) (fun k => I 6 3 (elt E P 20 k)) (fun k => I 6 5 (elt E P 20 k)) (CUTP (J 105) (J 106) (J 107) (J 21 2).toInt a1.toInt) (I 9 5 a0) (I 9 3 a0) (J 20 2).toInt ∧ (Gl6 4 6).toInt = CT2 (HF (I 9 2 a0) (J 110) (J 111) a1.toInt (J 4 5) (J 109) (J 108) x) (J 22 2).toInt.toNat ∧ (Gl6 4 7).toInt = CT1 (HF (I 9 2 a0) (J 110) (J 111) a1.toInt (J 4 5) (J 109) (J 108) x) (J 22 2).toInt.toNat from by intro h9; rw [e3, e4] at hS; have e9 : m3.toInt = (J 22 2).toInt := (by omega); rw [e9] at hc2 hc1; exact ⟨_, hS, hc2, hc1⟩⟩ dX3_tally_110
        · have c8 : m3.toInt < (J 22 2).toInt := tnle rfl rfl c8
          refine lv_aload_n hx hb dX3_tally_46 rfl (lv_at hl 1 rfl) ?_
          refine lv_aload_n hx hb dX3_tally_47 rfl (lv_at hl 1 rfl) ?_
          refine rg_4_2 C hW (mx_ rfl) tw_236 dX3_tally_48 ?_
          refine lv_iload_n hx hb dX3_tally_51 rfl (lv_at hl 0 rfl) ?_
          refine cq_ C hW (runV (x := (g.2.2.1 22)) (As := [.int m3]) (rest := [.ref (g.2.2.1 4)]) (T := (((hv (up2 (up2 J 4 6 0) 4 7 0) [] [(4, 6), (4, 7)] Gl6), L, (hv I [] [(6, 6), (6, 7)] u5), P, E, N), sgX g ++ dy)) C hW ((c_Jx4a65c_get_915e3 2) l g (hv (up2 (up2 J 4 6 0) 4 7 0) [] [(4, 6), (4, 7)] Gl6) L (hv I [] [(6, 6), (6, 7)] u5) P E N dy H.size 22 rfl m3 (show LWF g J P E N dy 22 2 from hwf.1.2.2.1) (show 0 ≤ m3.toInt ∧ m3.toInt < (J 22 2).toInt from by omega)) mi_Jx4a65c_get_915e3 tw_471 (recv_ (T := (((hv (up2 (up2 J 4 6 0) 4 7 0) [] [(4, 6), (4, 7)] Gl6), L, (hv I [] [(6, 6), (6, 7)] u5), P, E, N), sgX g ++ dy)) C hW (mx_ rfl) (cel_list rfl) rfl) ⟨rfl, rfl, Nat.le_of_ble_eq_true rfl, Nat.le_of_ble_eq_true rfl⟩ rfl hl.1 rfl (Nat.le_of_ble_eq_true rfl) dX3_tally_52 ⟨Nat.le_of_ble_eq_true rfl, Nat.le_of_ble_eq_true rfl⟩) (fun q9 u9 H locs hp9 hW => ?_)
          have hq9 : (q9 = some (elt E P 22 m3.toNatClampNeg)) := hp9
          clear hp9
          have hW : WB g A s.heap H locs ((hv (up2 (up2 J 4 6 0) 4 7 0) [] [(4, 6), (4, 7)] Gl6), L, (hv I [] [(6, 6), (6, 7)] u5), P, E, N) (sgX g ++ dy) := hW
          subst hq9
          obtain ⟨o9, ho9⟩ : ∃ z : Nat, z = elt E P 22 m3.toNatClampNeg := ⟨_, rfl⟩
          have hm9 : (2, o9) ∈ dy := by rw [ho9]; exact (lw_mem (er := 2) hwf.1.2.2.1 (show (m3.toNatClampNeg : Int) < (J 22 2).toInt from by have := tcl m3; omega))
          refine lv_asv (v' := .ref o9) (by rw [ho9]; rfl) ?_
          refine g_cast C hW (List.mem_append_right _ hm9) rfl rfl tw_580 dX3_tally_55 ?_
          refine lv_aload_n hx hb dX3_tally_58 rfl (lv_at hl 2 rfl) ?_
          refine lv_iload_n hx hb dX3_tally_59 rfl (lv_at hl 3 rfl) ?_
          refine ci_ C hW (runV (x := (g.2.2.1 4)) (As := [.ref o9, .ref a0, .int a1]) (rest := []) (T := (((hv (up2 (up2 J 4 6 0) 4 7 0) [] [(4, 6), (4, 7)] Gl6), L, (hv I [] [(6, 6), (6, 7)] u5), P, E, N), sgX g ++ dy)) C hW (c_X3_howHeard_e l g (hv (up2 (up2 J 4 6 0) 4 7 0) [] [(4, 6), (4, 7)] Gl6) L (hv I [] [(6, 6), (6, 7)] u5) P E N dy H.size o9 hm9 a0 hm0 a1 hwf (show 0 ≤ a1.toInt ∧ a1.toInt ≤ 9999 from by omega)) mi_X3_howHeard tw_717 (recv_ (T := (((hv (up2 (up2 J 4 6 0) 4 7 0) [] [(4, 6), (4, 7)] Gl6), L, (hv I [] [(6, 6), (6, 7)] u5), P, E, N), sgX g ++ dy)) C hW (mx_ rfl) rfl rfl) ⟨rfl, rfl, Nat.le_of_ble_eq_true rfl, Nat.le_of_ble_eq_true rfl⟩ rfl hl.1 rfl (Nat.le_of_ble_eq_true rfl) dX3_tally_60 ⟨Nat.le_of_ble_eq_true rfl, Nat.le_of_ble_eq_true rfl⟩) (fun r10 u10 H locs hp10 hW => ?_)
          have hf10_0 : (∀ b : Nat, P 2 0 o9 = some b → r10.toInt = HWV ((hv I [] [(6, 6), (6, 7)] u5) 9 2 a0) ((hv I [] [(6, 6), (6, 7)] u5) 2 2 o9) ((hv I [] [(6, 6), (6, 7)] u5) 2 3 o9) a1.toInt (J 4 5 * (hv I [] [(6, 6), (6, 7)] u5) 2 1 o9).toInt ((hv I [] [(6, 6), (6, 7)] u5) 6 7 b).toInt) := hp10
          clear hp10
          have hW : WB g A s.heap H locs ((hv (up2 (up2 J 4 6 0) 4 7 0) [] [(4, 6), (4, 7)] Gl6), L, (hv I [] [(6, 6), (6, 7)] u5), P, E, N) (sgX g ++ dy) := hW
          have hH := hf10_0
          obtain ⟨h91, -, -, h94, h95, h96, -⟩ := hhm m3.toNatClampNeg (by have h8 := tcl m3; omega)
          rw [← ho9] at h91 h94 h95 h96
          have hf9 := hH _ h91
          rw [show (hv I [] [(6, 6), (6, 7)] u5) 2 2 o9 = J 110 m3.toNatClampNeg from h95, show (hv I [] [(6, 6), (6, 7)] u5) 2 3 o9 = J 111 m3.toNatClampNeg from h96, show (hv I [] [(6, 6), (6, 7)] u5) 2 1 o9 = J 109 m3.toNatClampNeg from h94] at hf9
          have hf9 : r10.toInt = (HF (I 9 2 a0) (J 110) (J 111) a1.toInt (J 4 5) (J 109) (J 108) (fun k => (hv I [] [(6, 6), (6, 7)] u5) 6 7 (elt E P 20 k))) m3.toInt.toNat := hf9
          refine lv_istore (lv' := [(4, .int r10), (3, .int m3), (0, .ref (g.2.2.1 4)), (1, .ref a0), (2, .int a1)]) hx hb dX3_tally_63 hl (by decide) rfl (fun ls hl => ?_)
          refine lv_aload_n hx hb dX3_tally_65 rfl (lv_at hl 2 rfl) ?_
          refine lv_dup hx hb dX3_tally_66 rfl ?_
          refine rg_4_6 C hW (mx_ rfl) tw_244 dX3_tally_67 ?_
          refine lv_as (Gl6 4 6) rfl ?_
          refine lv_iload hx hb dX3_tally_70 (lv_at hl 0 rfl) ?_
          refine lv_iconst (v := 2) hx hb dX3_tally_72 (by decide) ?_
          refine lv_icmp_ne (tgt := 80) hx hb dX3_tally_73 (by decide) (fun c11 => ?_) (fun c11 => ?_)
          · have c11 : ¬ r10.toInt = 2 := tne rfl kp2 c11
            refine lv_iconst (v := 0) hx hb dX3_tally_80 (by decide) ?_
            refine lv_iadd hx hb dX3_tally_81 ?_
            refine lv_topi (fun x12 (e12 : x12 = (Gl6 4 6) + 0) => ?_)
            try have t12 : x12.toInt = (Gl6 4 6).toInt + 0 := tadd e12 rfl kp0 (by omega)
            refine rp_4_6 C hW (mx_ rfl) tw_244 dX3_tally_82 (fun H locs hW => ?_)
            refine lv_aload_n hx hb dX3_tally_85 rfl (lv_at hl 2 rfl) ?_
            refine lv_dup hx hb dX3_tally_86 rfl ?_
            refine rg_4_7 C hW (mx_ rfl) tw_246 dX3_tally_87 ?_
            refine lv_as (Gl6 4 7) rfl ?_
            refine lv_iload hx hb dX3_tally_90 (lv_at hl 0 rfl) ?_
            refine lv_if_le (tgt := 99) hx hb dX3_tally_92 (by decide) (fun c13 => ?_) (fun c13 => ?_)
            · have c13 : r10.toInt ≤ 0 := tle rfl kp0 c13
              refine lv_iconst (v := 0) hx hb dX3_tally_99 (by decide) ?_
              refine lv_iadd hx hb dX3_tally_100 ?_
              refine lv_topi (fun x14 (e14 : x14 = (Gl6 4 7) + 0) => ?_)
              try have t14 : x14.toInt = (Gl6 4 7).toInt + 0 := tadd e14 rfl kp0 (by omega)
              refine rp_4_7 C hW (mx_ rfl) tw_246 dX3_tally_101 (fun H locs hW => ?_)
              obtain ⟨x15, e15⟩ : ∃ y : Int32, y = m3 + 1 := ⟨_, rfl⟩
              refine lv_iinc (v := x15) (lv' := [(3, .int x15), (4, .int r10), (0, .ref (g.2.2.1 4)), (1, .ref a0), (2, .int a1)]) hx hb dX3_tally_104 hl (k := 1) rfl (by rw [e15]; rfl) (by decide) rfl (fun ls hl => ?_)
              try have t15 : x15.toInt = m3.toInt + 1 := tadd e15 rfl kp1 (by omega)
              refine lv_goto (tgt := 35) hx hb dX3_tally_107 (by decide) ?_
              have hWl : WB g A s.heap H locs ((hv (up2 (up2 J 4 6 0) 4 7 0) [] [(4, 6), (4, 7)] (up2 (up2 (hv (up2 (up2 J 4 6 0) 4 7 0) [] [(4, 6), (4, 7)] Gl6) 4 6 x12) 4 7 x14)), L, (hv I [] [(6, 6), (6, 7)] u5), P, E, N) (sgX g ++ dy) := by
                rw [← ag_hvE (J := (up2 (up2 J 4 6 0) 4 7 0)) (R := []) (F := [(4, 6), (4, 7)]) (ag_up (Or.inr rfl) (ag_up (Or.inr rfl) (ag_hv rfl rfl ag_rf)))]
                exact hW
              refine ih x15 (up2 (up2 (hv (up2 (up2 J 4 6 0) 4 7 0) [] [(4, 6), (4, 7)] Gl6) 4 6 x12) 4 7 x14) H locs ls ?_ ?_ ?_ ?_ hWl (lv_sub hl [0, 2, 3, 4] rfl)
              · show ((J 22 2).toInt - x15.toInt).toNat < n
                omega
              · show 0 ≤ x15.toInt ∧ x15.toInt ≤ (J 22 2).toInt ∧ 0 ≤ (x12).toInt ∧ (x12).toInt ≤ x15.toInt ∧ 0 ≤ (x14).toInt ∧ (x14).toInt ≤ x15.toInt
                first | omega | exact hi | assumption
              · show (x12).toInt = CT2 (HF (I 9 2 a0) (J 110) (J 111) a1.toInt (J 4 5) (J 109) (J 108) (fun k => (hv I [] [(6, 6), (6, 7)] u5) 6 7 (elt E P 20 k))) x15.toInt.toNat
                first | exact ct2_y hc2 (by omega) (by omega) (hf9.symm.trans (by omega)) (by omega) | exact ct2_n hc2 (by omega) (by omega) (fun z => by have z9 := hf9.trans z; omega) (by omega)
              · show (x14).toInt = CT1 (HF (I 9 2 a0) (J 110) (J 111) a1.toInt (J 4 5) (J 109) (J 108) (fun k => (hv I [] [(6, 6), (6, 7)] u5) 6 7 (elt E P 20 k))) x15.toInt.toNat
                first | exact ct1_y hc1 (by omega) (by omega) (by rw [← hf9]; omega) (by omega) | exact ct1_n hc1 (by omega) (by omega) (fun z => by rw [← hf9] at z; omega) (by omega)
            · have c13 : 0 < r10.toInt := tnle rfl kp0 c13
              refine lv_iconst (v := 1) hx hb dX3_tally_95 (by decide) ?_
              refine lv_goto (tgt := 100) hx hb dX3_tally_96 (by decide) ?_
              refine lv_iadd hx hb dX3_tally_100 ?_
              refine lv_topi (fun x16 (e16 : x16 = (Gl6 4 7) + 1) => ?_)
              try have t16 : x16.toInt = (Gl6 4 7).toInt + 1 := tadd e16 rfl kp1 (by omega)
              refine rp_4_7 C hW (mx_ rfl) tw_246 dX3_tally_101 (fun H locs hW => ?_)
              obtain ⟨x17, e17⟩ : ∃ y : Int32, y = m3 + 1 := ⟨_, rfl⟩
              refine lv_iinc (v := x17) (lv' := [(3, .int x17), (4, .int r10), (0, .ref (g.2.2.1 4)), (1, .ref a0), (2, .int a1)]) hx hb dX3_tally_104 hl (k := 1) rfl (by rw [e17]; rfl) (by decide) rfl (fun ls hl => ?_)
              try have t17 : x17.toInt = m3.toInt + 1 := tadd e17 rfl kp1 (by omega)
              refine lv_goto (tgt := 35) hx hb dX3_tally_107 (by decide) ?_
              have hWl : WB g A s.heap H locs ((hv (up2 (up2 J 4 6 0) 4 7 0) [] [(4, 6), (4, 7)] (up2 (up2 (hv (up2 (up2 J 4 6 0) 4 7 0) [] [(4, 6), (4, 7)] Gl6) 4 6 x12) 4 7 x16)), L, (hv I [] [(6, 6), (6, 7)] u5), P, E, N) (sgX g ++ dy) := by
                rw [← ag_hvE (J := (up2 (up2 J 4 6 0) 4 7 0)) (R := []) (F := [(4, 6), (4, 7)]) (ag_up (Or.inr rfl) (ag_up (Or.inr rfl) (ag_hv rfl rfl ag_rf)))]
                exact hW
              refine ih x17 (up2 (up2 (hv (up2 (up2 J 4 6 0) 4 7 0) [] [(4, 6), (4, 7)] Gl6) 4 6 x12) 4 7 x16) H locs ls ?_ ?_ ?_ ?_ hWl (lv_sub hl [0, 2, 3, 4] rfl)
              · show ((J 22 2).toInt - x17.toInt).toNat < n
                omega
              · show 0 ≤ x17.toInt ∧ x17.toInt ≤ (J 22 2).toInt ∧ 0 ≤ (x12).toInt ∧ (x12).toInt ≤ x17.toInt ∧ 0 ≤ (x16).toInt ∧ (x16).toInt ≤ x17.toInt
                first | omega | exact hi | assumption
              · show (x12).toInt = CT2 (HF (I 9 2 a0) (J 110) (J 111) a1.toInt (J 4 5) (J 109) (J 108) (fun k => (hv I [] [(6, 6), (6, 7)] u5) 6 7 (elt E P 20 k))) x17.toInt.toNat
                first | exact ct2_y hc2 (by omega) (by omega) (hf9.symm.trans (by omega)) (by omega) | exact ct2_n hc2 (by omega) (by omega) (fun z => by have z9 := hf9.trans z; omega) (by omega)
              · show (x16).toInt = CT1 (HF (I 9 2 a0) (J 110) (J 111) a1.toInt (J 4 5) (J 109) (J 108) (fun k => (hv I [] [(6, 6), (6, 7)] u5) 6 7 (elt E P 20 k))) x17.toInt.toNat
                first | exact ct1_y hc1 (by omega) (by omega) (by rw [← hf9]; omega) (by omega) | exact ct1_n hc1 (by omega) (by omega) (fun z => by rw [← hf9] at z; omega) (by omega)
          · have c11 : r10.toInt = 2 := teq rfl kp2 c11
            refine lv_iconst (v := 1) hx hb dX3_tally_76 (by decide) ?_
            refine lv_goto (tgt := 81) hx hb dX3_tally_77 (by decide) ?_
            refine lv_iadd hx hb dX3_tally_81 ?_
            refine lv_topi (fun x18 (e18 : x18 = (Gl6 4 6) + 1) => ?_)
            try have t18 : x18.toInt = (Gl6 4 6).toInt + 1 := tadd e18 rfl kp1 (by omega)
            refine rp_4_6 C hW (mx_ rfl) tw_244 dX3_tally_82 (fun H locs hW => ?_)
            refine lv_aload_n hx hb dX3_tally_85 rfl (lv_at hl 2 rfl) ?_
            refine lv_dup hx hb dX3_tally_86 rfl ?_
            refine rg_4_7 C hW (mx_ rfl) tw_246 dX3_tally_87 ?_
            refine lv_as (Gl6 4 7) rfl ?_
            refine lv_iload hx hb dX3_tally_90 (lv_at hl 0 rfl) ?_
            refine lv_if_le (tgt := 99) hx hb dX3_tally_92 (by decide) (fun c19 => ?_) (fun c19 => ?_)
            · have c19 : r10.toInt ≤ 0 := tle rfl kp0 c19
              exfalso; omega
            · have c19 : 0 < r10.toInt := tnle rfl kp0 c19
              refine lv_iconst (v := 1) hx hb dX3_tally_95 (by decide) ?_
              refine lv_goto (tgt := 100) hx hb dX3_tally_96 (by decide) ?_
              refine lv_iadd hx hb dX3_tally_100 ?_
              refine lv_topi (fun x20 (e20 : x20 = (Gl6 4 7) + 1) => ?_)
              try have t20 : x20.toInt = (Gl6 4 7).toInt + 1 := tadd e20 rfl kp1 (by omega)
              refine rp_4_7 C hW (mx_ rfl) tw_246 dX3_tally_101 (fun H locs hW => ?_)
              obtain ⟨x21, e21⟩ : ∃ y : Int32, y = m3 + 1 := ⟨_, rfl⟩
              refine lv_iinc (v := x21) (lv' := [(3, .int x21), (4, .int r10), (0, .ref (g.2.2.1 4)), (1, .ref a0), (2, .int a1)]) hx hb dX3_tally_104 hl (k := 1) rfl (by rw [e21]; rfl) (by decide) rfl (fun ls hl => ?_)
              try have t21 : x21.toInt = m3.toInt + 1 := tadd e21 rfl kp1 (by omega)
              refine lv_goto (tgt := 35) hx hb dX3_tally_107 (by decide) ?_
              have hWl : WB g A s.heap H locs ((hv (up2 (up2 J 4 6 0) 4 7 0) [] [(4, 6), (4, 7)] (up2 (up2 (hv (up2 (up2 J 4 6 0) 4 7 0) [] [(4, 6), (4, 7)] Gl6) 4 6 x18) 4 7 x20)), L, (hv I [] [(6, 6), (6, 7)] u5), P, E, N) (sgX g ++ dy) := by
                rw [← ag_hvE (J := (up2 (up2 J 4 6 0) 4 7 0)) (R := []) (F := [(4, 6), (4, 7)]) (ag_up (Or.inr rfl) (ag_up (Or.inr rfl) (ag_hv rfl rfl ag_rf)))]
                exact hW
              refine ih x21 (up2 (up2 (hv (up2 (up2 J 4 6 0) 4 7 0) [] [(4, 6), (4, 7)] Gl6) 4 6 x18) 4 7 x20) H locs ls ?_ ?_ ?_ ?_ hWl (lv_sub hl [0, 2, 3, 4] rfl)
              · show ((J 22 2).toInt - x21.toInt).toNat < n
                omega
              · show 0 ≤ x21.toInt ∧ x21.toInt ≤ (J 22 2).toInt ∧ 0 ≤ (x18).toInt ∧ (x18).toInt ≤ x21.toInt ∧ 0 ≤ (x20).toInt ∧ (x20).toInt ≤ x21.toInt
                first | omega | exact hi | assumption
              · show (x18).toInt = CT2 (HF (I 9 2 a0) (J 110) (J 111) a1.toInt (J 4 5) (J 109) (J 108) (fun k => (hv I [] [(6, 6), (6, 7)] u5) 6 7 (elt E P 20 k))) x21.toInt.toNat
                first | exact ct2_y hc2 (by omega) (by omega) (hf9.symm.trans (by omega)) (by omega) | exact ct2_n hc2 (by omega) (by omega) (fun z => by have z9 := hf9.trans z; omega) (by omega)
              · show (x20).toInt = CT1 (HF (I 9 2 a0) (J 110) (J 111) a1.toInt (J 4 5) (J 109) (J 108) (fun k => (hv I [] [(6, 6), (6, 7)] u5) 6 7 (elt E P 20 k))) x21.toInt.toNat
                first | exact ct1_y hc1 (by omega) (by omega) (by rw [← hf9]; omega) (by omega) | exact ct1_n hc1 (by omega) (by omega) (fun z => by rw [← hf9] at z; omega) (by omega)
    -- into the loop
    have hWl : WB g A s.heap H locs ((hv (up2 (up2 J 4 6 0) 4 7 0) [] [(4, 6), (4, 7)] (up2 (up2 J 4 6 0) 4 7 0)), L, (hv I [] [(6, 6), (6, 7)] u5), P, E, N) (sgX g ++ dy) := by
      rw [← ag_hvE (J := (up2 (up2 J 4 6 0) 4 7 0)) (R := []) (F := [(4, 6), (4, 7)]) ag_rf]
      exact hW
    refine loop35 (((J 22 2).toInt - (0 : Int32).toInt).toNat + 1) 0 (up2 (up2 J 4 6 0) 4 7 0) H locs ls ?_ ?_ ?_ ?_ hWl (lv_sub hl [0, 1, 2, 3] rfl)
    · exact Nat.lt_succ_self _
    · show 0 ≤ (0 : Int32).toInt ∧ (0 : Int32).toInt ≤ (J 22 2).toInt ∧ 0 ≤ ((0 : Int32)).toInt ∧ ((0 : Int32)).toInt ≤ (0 : Int32).toInt ∧ 0 ≤ ((0 : Int32)).toInt ∧ ((0 : Int32)).toInt ≤ (0 : Int32).toInt
      try rw [kp0]
      first | omega | exact ⟨by decide, by omega, by decide, by decide, by decide, by decide⟩
    · show ((0 : Int32)).toInt = CT2 (HF (I 9 2 a0) (J 110) (J 111) a1.toInt (J 4 5) (J 109) (J 108) (fun k => (hv I [] [(6, 6), (6, 7)] u5) 6 7 (elt E P 20 k))) (0 : Int32).toInt.toNat
      try rw [kp0]
      rfl
    · show ((0 : Int32)).toInt = CT1 (HF (I 9 2 a0) (J 110) (J 111) a1.toInt (J 4 5) (J 109) (J 108) (fun k => (hv I [] [(6, 6), (6, 7)] u5) 6 7 (elt E P 20 k))) (0 : Int32).toInt.toNat
      try rw [kp0]
      rfl
  · have c2 : x1.toInt = 6 := teq rfl kp6 c2
    have hWr : WB g A s.heap H locs ((hv J [] [(4, 6), (4, 7)] (up2 (up2 J 4 6 0) 4 7 0)), L, (hv I [] [(6, 6), (6, 7)] I), P, E, N) (sgX g ++ dy) := by
      rw [← ag_hvE (J := J) (R := []) (F := [(4, 6), (4, 7)]) (ag_up (Or.inr rfl) (ag_up (Or.inr rfl) ag_rf))]
      rw [← ag_hvE (J := I) (R := []) (F := [(6, 6), (6, 7)]) ag_rf]
      exact hW
    subst hQ9
    exact end_v C hr hlocks ((up2 (up2 J 4 6 0) 4 7 0), I) hWr ⟨show (I 9 2 a0).toInt = 6 → ((0 : Int32)).toInt = 0 ∧ ((0 : Int32)).toInt = 0 from by first | exact fun _ => ⟨kp0, kp0⟩ | (intro h9; exfalso; omega), show ¬ (I 9 2 a0).toInt = 6 → ∃ x : Nat → Int32, SND x (J 101) (fun k => I 6 1 (elt E P 20 k)) (fun k => I 6 3 (elt E P 20 k)) (fun k => I 6 5 (elt E P 20 k)) (CUTP (J 105) (J 106) (J 107) (J 21 2).toInt a1.toInt) (I 9 5 a0) (I 9 3 a0) (J 20 2).toInt ∧ ((0 : Int32)).toInt = CT2 (HF (I 9 2 a0) (J 110) (J 111) a1.toInt (J 4 5) (J 109) (J 108) x) (J 22 2).toInt.toNat ∧ ((0 : Int32)).toInt = CT1 (HF (I 9 2 a0) (J 110) (J 111) a1.toInt (J 4 5) (J 109) (J 108) x) (J 22 2).toInt.toNat from by intro h9; exfalso; omega⟩ dX3_tally_19

set_option maxHeartbeats 4000000 in
set_option maxRecDepth 100000 in
theorem c_X11_minuteOf_e (l : Launch) (g : gG) (J : Nat → Nat → Int32) (L : Nat → Nat → Int64) (I : Nat → Nat → Nat → Int32) (P : Nat → Nat → Nat → Option Nat) (E : Nat → Option Nat) (N : Nat → Nat) (dy : List (Nat × Nat)) (sz : Nat) (a0 : Int32) (a1 : Int32) (hwf : WXF g J P E N dy) (hnt : NTR (P 6 0) (elt E P 20) (J 101) (J 20 2).toInt) (hij : INJ E P 20 (J 20 2).toInt) (hcu : CUR (P 1 0) (I 1 1) (I 1 2) (elt E P 21) (elt E P 20) (J 105) (J 106) (J 107) (J 21 2).toInt (J 20 2).toInt) (hhm : HMR (P 2 0) (I 2 1) (I 2 2) (I 2 3) (elt E P 22) (elt E P 20) (J 108) (J 109) (J 110) (J 111) (J 22 2).toInt (J 20 2).toInt) (hspr : SPR I E P (J 27 2).toInt (J 3 1).toInt (J 116) (J 117) (J 118) (J 119) (J 120)) (hnw : (J 3 1).toInt ≤ 9999) : Met l yX11_minuteOf (WS yX11_minuteOf cX11_minuteOf 4 (some .int)) (RM (6) 0 0) (PC g [.ref (g.2.2.1 12), .int a0, .int a1] ((J, L, I, P, E, N), sgX g ++ dy) sz) (va_Qi (fun (r : Int32) (u : (Nat → Nat → Int32) × (Nat → Nat → Nat → Int32)) => ((r.toInt = (-1) ∧ (¬ (0 ≤ a0.toInt ∧ a0.toInt < (J 3 1).toInt))) ∨ (r.toInt = (-2) ∧ (0 ≤ a0.toInt ∧ a0.toInt < (J 3 1).toInt ∧ (a1.toInt < 0 ∨ 6 < a1.toInt))) ∨ (r = J 116 a0.toNatClampNeg ∧ (0 ≤ a0.toInt ∧ a0.toInt < (J 3 1).toInt ∧ a1.toInt = 0)) ∨ (r = J 117 a0.toNatClampNeg ∧ (0 ≤ a0.toInt ∧ a0.toInt < (J 3 1).toInt ∧ a1.toInt = 1)) ∨ (r = J 118 a0.toNatClampNeg ∧ (0 ≤ a0.toInt ∧ a0.toInt < (J 3 1).toInt ∧ a1.toInt = 2)) ∨ (r = J 119 a0.toNatClampNeg ∧ (0 ≤ a0.toInt ∧ a0.toInt < (J 3 1).toInt ∧ a1.toInt = 3)) ∨ (r = J 120 a0.toNatClampNeg ∧ (0 ≤ a0.toInt ∧ a0.toInt < (J 3 1).toInt ∧ a1.toInt = 6)) ∨ (r = r ∧ (0 ≤ a0.toInt ∧ a0.toInt < (J 3 1).toInt ∧ a1.toInt = 4) ∧ ((J 116 a0.toNatClampNeg).toInt = 6 → r.toInt = 0) ∧ (¬ (J 116 a0.toNatClampNeg).toInt = 6 → ∃ x : Nat → Int32, SND x (J 101) (fun k => I 6 1 (elt E P 20 k)) (fun k => I 6 3 (elt E P 20 k)) (fun k => I 6 5 (elt E P 20 k)) (CUTP (J 105) (J 106) (J 107) (J 21 2).toInt a0.toInt) (J 118 a0.toNatClampNeg) (J 120 a0.toNatClampNeg) (J 20 2).toInt ∧ r.toInt = CT2 (HF (J 116 a0.toNatClampNeg) (J 110) (J 111) a0.toInt (J 4 5) (J 109) (J 108) x) (J 22 2).toInt.toNat)) ∨ (r = r ∧ (0 ≤ a0.toInt ∧ a0.toInt < (J 3 1).toInt ∧ a1.toInt = 5) ∧ ((J 116 a0.toNatClampNeg).toInt = 6 → r.toInt = 0) ∧ (¬ (J 116 a0.toNatClampNeg).toInt = 6 → ∃ x : Nat → Int32, SND x (J 101) (fun k => I 6 1 (elt E P 20 k)) (fun k => I 6 3 (elt E P 20 k)) (fun k => I 6 5 (elt E P 20 k)) (CUTP (J 105) (J 106) (J 107) (J 21 2).toInt a0.toInt) (J 118 a0.toNatClampNeg) (J 120 a0.toNatClampNeg) (J 20 2).toInt ∧ r.toInt = CT1 (HF (J 116 a0.toNatClampNeg) (J 110) (J 111) a0.toInt (J 4 5) (J 109) (J 108) x) (J 22 2).toInt.toNat)))) (fun u t => at_ g (FR g ((J, L, I, P, E, N), sgX g ++ dy) sz) (((hv J [42] [(4, 6), (4, 7)] u.1), L, (hv I [] [(6, 6), (6, 7)] u.2), P, E, N), sgX g ++ dy) t) (FR g ((J, L, I, P, E, N), sgX g ++ dy) sz)) 0 0 (FR g ((J, L, I, P, E, N), sgX g ++ dy) sz) := by
  refine ent (by decide +kernel) (Nat.le_of_ble_eq_true rfl) ?_
  intro p e s m below meth c ls hsz C hW hr hlocks hname hl
  generalize FR g ((J, L, I, P, E, N), sgX g ++ dy) sz = A at C hW ⊢
  generalize hQ9 : (va_Qi (fun (r : Int32) (u : (Nat → Nat → Int32) × (Nat → Nat → Nat → Int32)) => ((r.toInt = (-1) ∧ (¬ (0 ≤ a0.toInt ∧ a0.toInt < (J 3 1).toInt))) ∨ (r.toInt = (-2) ∧ (0 ≤ a0.toInt ∧ a0.toInt < (J 3 1).toInt ∧ (a1.toInt < 0 ∨ 6 < a1.toInt))) ∨ (r = J 116 a0.toNatClampNeg ∧ (0 ≤ a0.toInt ∧ a0.toInt < (J 3 1).toInt ∧ a1.toInt = 0)) ∨ (r = J 117 a0.toNatClampNeg ∧ (0 ≤ a0.toInt ∧ a0.toInt < (J 3 1).toInt ∧ a1.toInt = 1)) ∨ (r = J 118 a0.toNatClampNeg ∧ (0 ≤ a0.toInt ∧ a0.toInt < (J 3 1).toInt ∧ a1.toInt = 2)) ∨ (r = J 119 a0.toNatClampNeg ∧ (0 ≤ a0.toInt ∧ a0.toInt < (J 3 1).toInt ∧ a1.toInt = 3)) ∨ (r = J 120 a0.toNatClampNeg ∧ (0 ≤ a0.toInt ∧ a0.toInt < (J 3 1).toInt ∧ a1.toInt = 6)) ∨ (r = r ∧ (0 ≤ a0.toInt ∧ a0.toInt < (J 3 1).toInt ∧ a1.toInt = 4) ∧ ((J 116 a0.toNatClampNeg).toInt = 6 → r.toInt = 0) ∧ (¬ (J 116 a0.toNatClampNeg).toInt = 6 → ∃ x : Nat → Int32, SND x (J 101) (fun k => I 6 1 (elt E P 20 k)) (fun k => I 6 3 (elt E P 20 k)) (fun k => I 6 5 (elt E P 20 k)) (CUTP (J 105) (J 106) (J 107) (J 21 2).toInt a0.toInt) (J 118 a0.toNatClampNeg) (J 120 a0.toNatClampNeg) (J 20 2).toInt ∧ r.toInt = CT2 (HF (J 116 a0.toNatClampNeg) (J 110) (J 111) a0.toInt (J 4 5) (J 109) (J 108) x) (J 22 2).toInt.toNat)) ∨ (r = r ∧ (0 ≤ a0.toInt ∧ a0.toInt < (J 3 1).toInt ∧ a1.toInt = 5) ∧ ((J 116 a0.toNatClampNeg).toInt = 6 → r.toInt = 0) ∧ (¬ (J 116 a0.toNatClampNeg).toInt = 6 → ∃ x : Nat → Int32, SND x (J 101) (fun k => I 6 1 (elt E P 20 k)) (fun k => I 6 3 (elt E P 20 k)) (fun k => I 6 5 (elt E P 20 k)) (CUTP (J 105) (J 106) (J 107) (J 21 2).toInt a0.toInt) (J 118 a0.toNatClampNeg) (J 120 a0.toNatClampNeg) (J 20 2).toInt ∧ r.toInt = CT1 (HF (J 116 a0.toNatClampNeg) (J 110) (J 111) a0.toInt (J 4 5) (J 109) (J 108) x) (J 22 2).toInt.toNat)))) (fun u t => at_ g A (((hv J [42] [(4, 6), (4, 7)] u.1), L, (hv I [] [(6, 6), (6, 7)] u.2), P, E, N), sgX g ++ dy) t) A) = Q9
  have hx := C.1.1
  have hb := C.1.2.1
  have hts := C.1.2.2.2.2
  have hl : lv_has ls 4 [(0, .ref (g.2.2.1 12)), (1, .int a0), (2, .int a1)] := hl
  obtain ⟨H, hH⟩ : ∃ H : Heap, H = s.heap := ⟨_, rfl⟩
  obtain ⟨locs, hlocs⟩ : ∃ q : List Loc, q = [] := ⟨_, rfl⟩
  have hW : WB g A s.heap H locs (J, L, I, P, E, N) (sgX g ++ dy) := by rw [hH, hlocs]; exact hW
  refine start_ hH hlocs ?_
  refine lv_aload_n hx hb dX11_minuteOf_0 rfl (lv_at hl 0 rfl) ?_
  refine rg_12_1 C hW (mx_ rfl) tw_365 dX11_minuteOf_1 ?_
  refine lv_iload_n hx hb dX11_minuteOf_4 rfl (lv_at hl 1 rfl) ?_
  refine cq_ C hW (runV (x := (g.2.2.1 3)) (As := [.int a0]) (rest := []) (T := ((J, L, I, P, E, N), sgX g ++ dy)) C hW (c_X2_spanOf_e l g J L I P E N dy H.size a0 hwf (show SPR I E P (J 27 2).toInt (J 3 1).toInt (J 116) (J 117) (J 118) (J 119) (J 120) from hspr)) mi_X2_spanOf tw_639 (recv_ (T := ((J, L, I, P, E, N), sgX g ++ dy)) C hW (mx_ rfl) rfl rfl) ⟨rfl, rfl, Nat.le_of_ble_eq_true rfl, Nat.le_of_ble_eq_true rfl⟩ rfl hl.1 rfl (Nat.le_of_ble_eq_true rfl) dX11_minuteOf_5 ⟨Nat.le_of_ble_eq_true rfl, Nat.le_of_ble_eq_true rfl⟩) (fun q1 u1 H locs hp1 hW => ?_)
  have hq1 : ((q1 = none ∧ (¬ (0 ≤ a0.toInt ∧ a0.toInt < (J 3 1).toInt))) ∨ (∃ o9 : Nat, q1 = some o9 ∧ (9, o9) ∈ dy ∧ (0 ≤ a0.toInt ∧ a0.toInt < (J 3 1).toInt ∧ (I 9 0 o9).toInt ≤ a0.toInt ∧ a0.toInt ≤ (I 9 1 o9).toInt ∧ SPO I o9 (J 3 1).toInt (J 116) (J 117) (J 118) (J 119) (J 120)))) := hp1
  clear hp1
  have hW : WB g A s.heap H locs (J, L, I, P, E, N) (sgX g ++ dy) := hW
  rcases hq1 with ⟨ho1, hn1⟩ | ⟨o1, ho1, hm1, hs1⟩ <;> subst ho1
  · refine lv_asv (v' := .null) rfl ?_
    refine lv_astore_nN (lv' := [(3, .null), (0, .ref (g.2.2.1 12)), (1, .int a0), (2, .int a1)]) hx hb dX11_minuteOf_8 rfl hl (by decide) rfl (fun ls hl => ?_)
    refine lv_aload_nN hx hb dX11_minuteOf_9 rfl (lv_at hl 0 rfl) ?_
    refine lv_ifnonnullN hx hb dX11_minuteOf_10 ?_
    refine lv_aload_n hx hb dX11_minuteOf_13 rfl (lv_at hl 1 rfl) ?_
    refine lv_iconst (v := (-1)) hx hb dX11_minuteOf_14 (by decide) ?_
    refine ci_ C hW (runV (x := (g.2.2.1 12)) (As := [.int (-1)]) (rest := []) (T := ((J, L, I, P, E, N), sgX g ++ dy)) C hW (c_X11_refuse l g J L I P E N dy H.size (-1) hwf) mi_X11_refuse tw_411 (recv_ (T := ((J, L, I, P, E, N), sgX g ++ dy)) C hW (mx_ rfl) rfl rfl) ⟨rfl, rfl, Nat.le_of_ble_eq_true rfl, Nat.le_of_ble_eq_true rfl⟩ rfl hl.1 rfl (Nat.le_of_ble_eq_true rfl) dX11_minuteOf_15 ⟨Nat.le_of_ble_eq_true rfl, Nat.le_of_ble_eq_true rfl⟩) (fun r2 u2 H locs hp2 hW => ?_)
    have hc2 : ((r2 = (-1))) := hp2
    clear hp2
    have hr2 : r2.toInt = (-1) := by rw [hc2]; exact kn1
    have hW : WB g A s.heap H locs ((hv J [42] [] u2), L, I, P, E, N) (sgX g ++ dy) := hW
    have hWr : WB g A s.heap H locs ((hv J [42] [(4, 6), (4, 7)] (hv J [42] [] u2)), L, (hv I [] [(6, 6), (6, 7)] I), P, E, N) (sgX g ++ dy) := by
      rw [← ag_hvE (J := J) (R := [42]) (F := [(4, 6), (4, 7)]) (ag_hv rfl rfl ag_rf)]
      rw [← ag_hvE (J := I) (R := []) (F := [(6, 6), (6, 7)]) ag_rf]
      exact hW
    subst hQ9
    exact end_i C hr hlocks ((hv J [42] [] u2), I) hWr (by first | exact Or.inl ⟨by omega, by omega⟩) dX11_minuteOf_18
  · refine lv_asv (v' := .ref o1) rfl ?_
    obtain ⟨hsK1, hsR1, hsV1, hsO1, hsT1⟩ := spo_at hs1
    have hsk1 := congrArg Int32.toInt hsK1
    refine lv_astore_n (lv' := [(3, .ref o1), (0, .ref (g.2.2.1 12)), (1, .int a0), (2, .int a1)]) hx hb dX11_minuteOf_8 rfl hl (by decide) rfl (fun ls hl => ?_)
    refine lv_aload_n hx hb dX11_minuteOf_9 rfl (lv_at hl 0 rfl) ?_
    refine lv_ifnonnull (tgt := 19) hx hb dX11_minuteOf_10 (by decide) ?_
    refine lv_iload_n hx hb dX11_minuteOf_19 rfl (lv_at hl 3 rfl) ?_
    rcases Int.lt_or_le a1.toInt 0 with c3 | c3
    · refine lv_tableOut (tgt := 123) hx hb dX11_minuteOf_20 (Or.inl c3) (by decide) ?_
      refine lv_aload_n hx hb dX11_minuteOf_123 rfl (lv_at hl 1 rfl) ?_
      refine lv_bipush (v := (-2)) hx hb dX11_minuteOf_124 (by decide) ?_
      refine ci_ C hW (runV (x := (g.2.2.1 12)) (As := [.int (-2)]) (rest := []) (T := ((J, L, I, P, E, N), sgX g ++ dy)) C hW (c_X11_refuse l g J L I P E N dy H.size (-2) hwf) mi_X11_refuse tw_411 (recv_ (T := ((J, L, I, P, E, N), sgX g ++ dy)) C hW (mx_ rfl) rfl rfl) ⟨rfl, rfl, Nat.le_of_ble_eq_true rfl, Nat.le_of_ble_eq_true rfl⟩ rfl hl.1 rfl (Nat.le_of_ble_eq_true rfl) dX11_minuteOf_126 ⟨Nat.le_of_ble_eq_true rfl, Nat.le_of_ble_eq_true rfl⟩) (fun r4 u4 H locs hp4 hW => ?_)
      have hc4 : ((r4 = (-2))) := hp4
      clear hp4
      have hr4 : r4.toInt = (-2) := by rw [hc4]; exact kn2
      have hW : WB g A s.heap H locs ((hv J [42] [] u4), L, I, P, E, N) (sgX g ++ dy) := hW
      have hWr : WB g A s.heap H locs ((hv J [42] [(4, 6), (4, 7)] (hv J [42] [] u4)), L, (hv I [] [(6, 6), (6, 7)] I), P, E, N) (sgX g ++ dy) := by
        rw [← ag_hvE (J := J) (R := [42]) (F := [(4, 6), (4, 7)]) (ag_hv rfl rfl ag_rf)]
        rw [← ag_hvE (J := I) (R := []) (F := [(6, 6), (6, 7)]) ag_rf]
        exact hW
      subst hQ9
      exact end_i C hr hlocks ((hv J [42] [] u4), I) hWr (by first | exact Or.inr (Or.inl ⟨by omega, by omega⟩)) dX11_minuteOf_129
    · rcases Int.lt_or_le 6 a1.toInt with c3b | c3b
      · refine lv_tableOut (tgt := 123) hx hb dX11_minuteOf_20 (Or.inr c3b) (by decide) ?_
        refine lv_aload_n hx hb dX11_minuteOf_123 rfl (lv_at hl 1 rfl) ?_
        refine lv_bipush (v := (-2)) hx hb dX11_minuteOf_124 (by decide) ?_
        refine ci_ C hW (runV (x := (g.2.2.1 12)) (As := [.int (-2)]) (rest := []) (T := ((J, L, I, P, E, N), sgX g ++ dy)) C hW (c_X11_refuse l g J L I P E N dy H.size (-2) hwf) mi_X11_refuse tw_411 (recv_ (T := ((J, L, I, P, E, N), sgX g ++ dy)) C hW (mx_ rfl) rfl rfl) ⟨rfl, rfl, Nat.le_of_ble_eq_true rfl, Nat.le_of_ble_eq_true rfl⟩ rfl hl.1 rfl (Nat.le_of_ble_eq_true rfl) dX11_minuteOf_126 ⟨Nat.le_of_ble_eq_true rfl, Nat.le_of_ble_eq_true rfl⟩) (fun r5 u5 H locs hp5 hW => ?_)
        have hc5 : ((r5 = (-2))) := hp5
        clear hp5
        have hr5 : r5.toInt = (-2) := by rw [hc5]; exact kn2
        have hW : WB g A s.heap H locs ((hv J [42] [] u5), L, I, P, E, N) (sgX g ++ dy) := hW
        have hWr : WB g A s.heap H locs ((hv J [42] [(4, 6), (4, 7)] (hv J [42] [] u5)), L, (hv I [] [(6, 6), (6, 7)] I), P, E, N) (sgX g ++ dy) := by
          rw [← ag_hvE (J := J) (R := [42]) (F := [(4, 6), (4, 7)]) (ag_hv rfl rfl ag_rf)]
          rw [← ag_hvE (J := I) (R := []) (F := [(6, 6), (6, 7)]) ag_rf]
          exact hW
        subst hQ9
        exact end_i C hr hlocks ((hv J [42] [] u5), I) hWr (by first | exact Or.inr (Or.inl ⟨by omega, by omega⟩)) dX11_minuteOf_129
      · rcases (show a1.toInt = 0 ∨ a1.toInt = 1 ∨ a1.toInt = 2 ∨ a1.toInt = 3 ∨ a1.toInt = 4 ∨ a1.toInt = 5 ∨ a1.toInt = 6 by omega) with c3k | c3k | c3k | c3k | c3k | c3k | c3k
        · refine lv_tableIn (off := 44) (tgt := 64) hx hb dX11_minuteOf_20 (Int.not_lt.mpr c3) (Int.not_lt.mpr c3b) (by rw [c3k]; rfl) (by decide) ?_
          refine lv_aload_n hx hb dX11_minuteOf_64 rfl (lv_at hl 0 rfl) ?_
          refine rg_9_2 C hW (List.mem_append_right _ hm1) tw_429 dX11_minuteOf_65 ?_
          refine lv_topi (fun x6 (e6 : x6 = I 9 2 o1) => ?_)
          have t6 : x6.toInt = (I 9 2 o1).toInt := by rw [e6]
          have hr9 : x6 = J 116 a0.toNatClampNeg := e6.trans hsK1
          have hWr : WB g A s.heap H locs ((hv J [42] [(4, 6), (4, 7)] J), L, (hv I [] [(6, 6), (6, 7)] I), P, E, N) (sgX g ++ dy) := by
            rw [← ag_hvE (J := J) (R := [42]) (F := [(4, 6), (4, 7)]) ag_rf]
            rw [← ag_hvE (J := I) (R := []) (F := [(6, 6), (6, 7)]) ag_rf]
            exact hW
          subst hQ9
          exact end_i C hr hlocks (J, I) hWr (by first | exact Or.inr (Or.inr (Or.inl ⟨by first | rfl | assumption, by omega⟩))) dX11_minuteOf_68
        · refine lv_tableIn (off := 49) (tgt := 69) hx hb dX11_minuteOf_20 (Int.not_lt.mpr c3) (Int.not_lt.mpr c3b) (by rw [c3k]; rfl) (by decide) ?_
          refine lv_aload_n hx hb dX11_minuteOf_69 rfl (lv_at hl 0 rfl) ?_
          refine rg_9_4 C hW (List.mem_append_right _ hm1) tw_434 dX11_minuteOf_70 ?_
          refine lv_topi (fun x7 (e7 : x7 = I 9 4 o1) => ?_)
          have t7 : x7.toInt = (I 9 4 o1).toInt := by rw [e7]
          have hr9 : x7 = J 117 a0.toNatClampNeg := e7.trans hsR1
          have hWr : WB g A s.heap H locs ((hv J [42] [(4, 6), (4, 7)] J), L, (hv I [] [(6, 6), (6, 7)] I), P, E, N) (sgX g ++ dy) := by
            rw [← ag_hvE (J := J) (R := [42]) (F := [(4, 6), (4, 7)]) ag_rf]
            rw [← ag_hvE (J := I) (R := []) (F := [(6, 6), (6, 7)]) ag_rf]
            exact hW
          subst hQ9
          exact end_i C hr hlocks (J, I) hWr (by first | exact Or.inr (Or.inr (Or.inr (Or.inl ⟨by first | rfl | assumption, by omega⟩)))) dX11_minuteOf_73
        · refine lv_tableIn (off := 54) (tgt := 74) hx hb dX11_minuteOf_20 (Int.not_lt.mpr c3) (Int.not_lt.mpr c3b) (by rw [c3k]; rfl) (by decide) ?_
          refine lv_aload_n hx hb dX11_minuteOf_74 rfl (lv_at hl 0 rfl) ?_
          refine rg_9_5 C hW (List.mem_append_right _ hm1) tw_436 dX11_minuteOf_75 ?_
          refine lv_topi (fun x8 (e8 : x8 = I 9 5 o1) => ?_)
          have t8 : x8.toInt = (I 9 5 o1).toInt := by rw [e8]
          have hr9 : x8 = J 118 a0.toNatClampNeg := e8.trans hsV1
          have hWr : WB g A s.heap H locs ((hv J [42] [(4, 6), (4, 7)] J), L, (hv I [] [(6, 6), (6, 7)] I), P, E, N) (sgX g ++ dy) := by
            rw [← ag_hvE (J := J) (R := [42]) (F := [(4, 6), (4, 7)]) ag_rf]
            rw [← ag_hvE (J := I) (R := []) (F := [(6, 6), (6, 7)]) ag_rf]
            exact hW
          subst hQ9
          exact end_i C hr hlocks (J, I) hWr (by first | exact Or.inr (Or.inr (Or.inr (Or.inr (Or.inl ⟨by first | rfl | assumption, by omega⟩))))) dX11_minuteOf_78
        · refine lv_tableIn (off := 59) (tgt := 79) hx hb dX11_minuteOf_20 (Int.not_lt.mpr c3) (Int.not_lt.mpr c3b) (by rw [c3k]; rfl) (by decide) ?_
          refine lv_aload_n hx hb dX11_minuteOf_79 rfl (lv_at hl 0 rfl) ?_
          refine rg_9_6 C hW (List.mem_append_right _ hm1) tw_438 dX11_minuteOf_80 ?_
          refine lv_topi (fun x9 (e9 : x9 = I 9 6 o1) => ?_)
          have t9 : x9.toInt = (I 9 6 o1).toInt := by rw [e9]
          have hr9 : x9 = J 119 a0.toNatClampNeg := e9.trans hsO1
          have hWr : WB g A s.heap H locs ((hv J [42] [(4, 6), (4, 7)] J), L, (hv I [] [(6, 6), (6, 7)] I), P, E, N) (sgX g ++ dy) := by
            rw [← ag_hvE (J := J) (R := [42]) (F := [(4, 6), (4, 7)]) ag_rf]
            rw [← ag_hvE (J := I) (R := []) (F := [(6, 6), (6, 7)]) ag_rf]
            exact hW
          subst hQ9
          exact end_i C hr hlocks (J, I) hWr (by first | exact Or.inr (Or.inr (Or.inr (Or.inr (Or.inr (Or.inl ⟨by first | rfl | assumption, by omega⟩)))))) dX11_minuteOf_83
        · refine lv_tableIn (off := 64) (tgt := 84) hx hb dX11_minuteOf_20 (Int.not_lt.mpr c3) (Int.not_lt.mpr c3b) (by rw [c3k]; rfl) (by decide) ?_
          refine lv_aload_n hx hb dX11_minuteOf_84 rfl (lv_at hl 1 rfl) ?_
          refine rg_12_0 C hW (mx_ rfl) tw_364 dX11_minuteOf_85 ?_
          refine lv_aload_n hx hb dX11_minuteOf_88 rfl (lv_at hl 0 rfl) ?_
          refine lv_iload_n hx hb dX11_minuteOf_89 rfl (lv_at hl 2 rfl) ?_
          refine cv_ C hW (runV (x := (g.2.2.1 4)) (As := [.ref o1, .int a0]) (rest := []) (T := ((J, L, I, P, E, N), sgX g ++ dy)) C hW (c_X3_tally_e l g J L I P E N dy H.size o1 hm1 a0 hwf (show NTR (P 6 0) (elt E P 20) (J 101) (J 20 2).toInt from by omega) (show INJ E P 20 (J 20 2).toInt from by omega) (show CUR (P 1 0) (I 1 1) (I 1 2) (elt E P 21) (elt E P 20) (J 105) (J 106) (J 107) (J 21 2).toInt (J 20 2).toInt from by omega) (show HMR (P 2 0) (I 2 1) (I 2 2) (I 2 3) (elt E P 22) (elt E P 20) (J 108) (J 109) (J 110) (J 111) (J 22 2).toInt (J 20 2).toInt from by omega) (show 0 ≤ a0.toInt ∧ a0.toInt ≤ 9999 from by omega)) mi_X3_tally tw_712 (recv_ (T := ((J, L, I, P, E, N), sgX g ++ dy)) C hW (mx_ rfl) rfl rfl) ⟨rfl, rfl, Nat.le_of_ble_eq_true rfl, Nat.le_of_ble_eq_true rfl⟩ rfl hl.1 rfl (Nat.le_of_ble_eq_true rfl) dX11_minuteOf_90 ⟨Nat.le_of_ble_eq_true rfl, Nat.le_of_ble_eq_true rfl⟩) (fun u10 H locs hp10 hW => ?_)
          obtain ⟨hf10_0, hf10_1⟩ : ((I 9 2 o1).toInt = 6 → (u10.1 4 6).toInt = 0 ∧ (u10.1 4 7).toInt = 0) ∧ (¬ (I 9 2 o1).toInt = 6 → ∃ x : Nat → Int32, SND x (J 101) (fun k => I 6 1 (elt E P 20 k)) (fun k => I 6 3 (elt E P 20 k)) (fun k => I 6 5 (elt E P 20 k)) (CUTP (J 105) (J 106) (J 107) (J 21 2).toInt a0.toInt) (I 9 5 o1) (I 9 3 o1) (J 20 2).toInt ∧ (u10.1 4 6).toInt = CT2 (HF (I 9 2 o1) (J 110) (J 111) a0.toInt (J 4 5) (J 109) (J 108) x) (J 22 2).toInt.toNat ∧ (u10.1 4 7).toInt = CT1 (HF (I 9 2 o1) (J 110) (J 111) a0.toInt (J 4 5) (J 109) (J 108) x) (J 22 2).toInt.toNat) := hp10
          have hW : WB g A s.heap H locs ((hv J [] [(4, 6), (4, 7)] u10.1), L, (hv I [] [(6, 6), (6, 7)] u10.2), P, E, N) (sgX g ++ dy) := hW
          have hT0 := hf10_0
          have hT1 := hf10_1
          refine lv_aload_n hx hb dX11_minuteOf_93 rfl (lv_at hl 1 rfl) ?_
          refine rg_12_0 C hW (mx_ rfl) tw_364 dX11_minuteOf_94 ?_
          refine rg_4_6 C hW (mx_ rfl) tw_245 dX11_minuteOf_97 ?_
          refine lv_topi (fun x11 (e11 : x11 = u10.1 4 6) => ?_)
          have t11 : x11.toInt = (u10.1 4 6).toInt := by rw [e11]
          have hWr : WB g A s.heap H locs ((hv J [42] [(4, 6), (4, 7)] (hv J [] [(4, 6), (4, 7)] u10.1)), L, (hv I [] [(6, 6), (6, 7)] (hv I [] [(6, 6), (6, 7)] u10.2)), P, E, N) (sgX g ++ dy) := by
            rw [← ag_hvE (J := J) (R := [42]) (F := [(4, 6), (4, 7)]) (ag_hv rfl rfl ag_rf)]
            rw [← ag_hvE (J := I) (R := []) (F := [(6, 6), (6, 7)]) (ag_hv rfl rfl ag_rf)]
            exact hW
          subst hQ9
          exact end_i C hr hlocks ((hv J [] [(4, 6), (4, 7)] u10.1), (hv I [] [(6, 6), (6, 7)] u10.2)) hWr (by first | exact Or.inr (Or.inr (Or.inr (Or.inr (Or.inr (Or.inr (Or.inr (Or.inl ⟨by first | rfl | assumption, by omega, show ((J 116 a0.toNatClampNeg).toInt = 6 → x11.toInt = 0) from by (rw [hsK1] at hT0 hT1; rw [hsV1, hsT1] at hT1; rw [← e11] at hT0 hT1; first | exact fun h9 => (hT0 h9).1 | (intro h9; obtain ⟨x, h1, h2, h3⟩ := hT1 h9; exact ⟨x, h1, h2⟩)), show (¬ (J 116 a0.toNatClampNeg).toInt = 6 → ∃ x : Nat → Int32, SND x (J 101) (fun k => I 6 1 (elt E P 20 k)) (fun k => I 6 3 (elt E P 20 k)) (fun k => I 6 5 (elt E P 20 k)) (CUTP (J 105) (J 106) (J 107) (J 21 2).toInt a0.toInt) (J 118 a0.toNatClampNeg) (J 120 a0.toNatClampNeg) (J 20 2).toInt ∧ x11.toInt = CT2 (HF (J 116 a0.toNatClampNeg) (J 110) (J 111) a0.toInt (J 4 5) (J 109) (J 108) x) (J 22 2).toInt.toNat) from by (rw [hsK1] at hT0 hT1; rw [hsV1, hsT1] at hT1; rw [← e11] at hT0 hT1; first | exact fun h9 => (hT0 h9).1 | (intro h9; obtain ⟨x, h1, h2, h3⟩ := hT1 h9; exact ⟨x, h1, h2⟩))⟩)))))))) dX11_minuteOf_100
        · refine lv_tableIn (off := 81) (tgt := 101) hx hb dX11_minuteOf_20 (Int.not_lt.mpr c3) (Int.not_lt.mpr c3b) (by rw [c3k]; rfl) (by decide) ?_
          refine lv_aload_n hx hb dX11_minuteOf_101 rfl (lv_at hl 1 rfl) ?_
          refine rg_12_0 C hW (mx_ rfl) tw_364 dX11_minuteOf_102 ?_
          refine lv_aload_n hx hb dX11_minuteOf_105 rfl (lv_at hl 0 rfl) ?_
          refine lv_iload_n hx hb dX11_minuteOf_106 rfl (lv_at hl 2 rfl) ?_
          refine cv_ C hW (runV (x := (g.2.2.1 4)) (As := [.ref o1, .int a0]) (rest := []) (T := ((J, L, I, P, E, N), sgX g ++ dy)) C hW (c_X3_tally_e l g J L I P E N dy H.size o1 hm1 a0 hwf (show NTR (P 6 0) (elt E P 20) (J 101) (J 20 2).toInt from by omega) (show INJ E P 20 (J 20 2).toInt from by omega) (show CUR (P 1 0) (I 1 1) (I 1 2) (elt E P 21) (elt E P 20) (J 105) (J 106) (J 107) (J 21 2).toInt (J 20 2).toInt from by omega) (show HMR (P 2 0) (I 2 1) (I 2 2) (I 2 3) (elt E P 22) (elt E P 20) (J 108) (J 109) (J 110) (J 111) (J 22 2).toInt (J 20 2).toInt from by omega) (show 0 ≤ a0.toInt ∧ a0.toInt ≤ 9999 from by omega)) mi_X3_tally tw_712 (recv_ (T := ((J, L, I, P, E, N), sgX g ++ dy)) C hW (mx_ rfl) rfl rfl) ⟨rfl, rfl, Nat.le_of_ble_eq_true rfl, Nat.le_of_ble_eq_true rfl⟩ rfl hl.1 rfl (Nat.le_of_ble_eq_true rfl) dX11_minuteOf_107 ⟨Nat.le_of_ble_eq_true rfl, Nat.le_of_ble_eq_true rfl⟩) (fun u12 H locs hp12 hW => ?_)
          obtain ⟨hf12_0, hf12_1⟩ : ((I 9 2 o1).toInt = 6 → (u12.1 4 6).toInt = 0 ∧ (u12.1 4 7).toInt = 0) ∧ (¬ (I 9 2 o1).toInt = 6 → ∃ x : Nat → Int32, SND x (J 101) (fun k => I 6 1 (elt E P 20 k)) (fun k => I 6 3 (elt E P 20 k)) (fun k => I 6 5 (elt E P 20 k)) (CUTP (J 105) (J 106) (J 107) (J 21 2).toInt a0.toInt) (I 9 5 o1) (I 9 3 o1) (J 20 2).toInt ∧ (u12.1 4 6).toInt = CT2 (HF (I 9 2 o1) (J 110) (J 111) a0.toInt (J 4 5) (J 109) (J 108) x) (J 22 2).toInt.toNat ∧ (u12.1 4 7).toInt = CT1 (HF (I 9 2 o1) (J 110) (J 111) a0.toInt (J 4 5) (J 109) (J 108) x) (J 22 2).toInt.toNat) := hp12
          have hW : WB g A s.heap H locs ((hv J [] [(4, 6), (4, 7)] u12.1), L, (hv I [] [(6, 6), (6, 7)] u12.2), P, E, N) (sgX g ++ dy) := hW
          have hT0 := hf12_0
          have hT1 := hf12_1
          refine lv_aload_n hx hb dX11_minuteOf_110 rfl (lv_at hl 1 rfl) ?_
          refine rg_12_0 C hW (mx_ rfl) tw_364 dX11_minuteOf_111 ?_
          refine rg_4_7 C hW (mx_ rfl) tw_247 dX11_minuteOf_114 ?_
          refine lv_topi (fun x13 (e13 : x13 = u12.1 4 7) => ?_)
          have t13 : x13.toInt = (u12.1 4 7).toInt := by rw [e13]
          have hWr : WB g A s.heap H locs ((hv J [42] [(4, 6), (4, 7)] (hv J [] [(4, 6), (4, 7)] u12.1)), L, (hv I [] [(6, 6), (6, 7)] (hv I [] [(6, 6), (6, 7)] u12.2)), P, E, N) (sgX g ++ dy) := by
            rw [← ag_hvE (J := J) (R := [42]) (F := [(4, 6), (4, 7)]) (ag_hv rfl rfl ag_rf)]
            rw [← ag_hvE (J := I) (R := []) (F := [(6, 6), (6, 7)]) (ag_hv rfl rfl ag_rf)]
            exact hW
          subst hQ9
          exact end_i C hr hlocks ((hv J [] [(4, 6), (4, 7)] u12.1), (hv I [] [(6, 6), (6, 7)] u12.2)) hWr (by first | exact Or.inr (Or.inr (Or.inr (Or.inr (Or.inr (Or.inr (Or.inr (Or.inr (⟨by first | rfl | assumption, by omega, show ((J 116 a0.toNatClampNeg).toInt = 6 → x13.toInt = 0) from by (rw [hsK1] at hT0 hT1; rw [hsV1, hsT1] at hT1; rw [← e13] at hT0 hT1; first | exact fun h9 => (hT0 h9).2 | (intro h9; obtain ⟨x, h1, h2, h3⟩ := hT1 h9; exact ⟨x, h1, h3⟩)), show (¬ (J 116 a0.toNatClampNeg).toInt = 6 → ∃ x : Nat → Int32, SND x (J 101) (fun k => I 6 1 (elt E P 20 k)) (fun k => I 6 3 (elt E P 20 k)) (fun k => I 6 5 (elt E P 20 k)) (CUTP (J 105) (J 106) (J 107) (J 21 2).toInt a0.toInt) (J 118 a0.toNatClampNeg) (J 120 a0.toNatClampNeg) (J 20 2).toInt ∧ x13.toInt = CT1 (HF (J 116 a0.toNatClampNeg) (J 110) (J 111) a0.toInt (J 4 5) (J 109) (J 108) x) (J 22 2).toInt.toNat) from by (rw [hsK1] at hT0 hT1; rw [hsV1, hsT1] at hT1; rw [← e13] at hT0 hT1; first | exact fun h9 => (hT0 h9).2 | (intro h9; obtain ⟨x, h1, h2, h3⟩ := hT1 h9; exact ⟨x, h1, h3⟩))⟩))))))))) dX11_minuteOf_117
        · refine lv_tableIn (off := 98) (tgt := 118) hx hb dX11_minuteOf_20 (Int.not_lt.mpr c3) (Int.not_lt.mpr c3b) (by rw [c3k]; rfl) (by decide) ?_
          refine lv_aload_n hx hb dX11_minuteOf_118 rfl (lv_at hl 0 rfl) ?_
          refine rg_9_3 C hW (List.mem_append_right _ hm1) tw_432 dX11_minuteOf_119 ?_
          refine lv_topi (fun x14 (e14 : x14 = I 9 3 o1) => ?_)
          have t14 : x14.toInt = (I 9 3 o1).toInt := by rw [e14]
          have hr9 : x14 = J 120 a0.toNatClampNeg := e14.trans hsT1
          have hWr : WB g A s.heap H locs ((hv J [42] [(4, 6), (4, 7)] J), L, (hv I [] [(6, 6), (6, 7)] I), P, E, N) (sgX g ++ dy) := by
            rw [← ag_hvE (J := J) (R := [42]) (F := [(4, 6), (4, 7)]) ag_rf]
            rw [← ag_hvE (J := I) (R := []) (F := [(6, 6), (6, 7)]) ag_rf]
            exact hW
          subst hQ9
          exact end_i C hr hlocks (J, I) hWr (by first | exact Or.inr (Or.inr (Or.inr (Or.inr (Or.inr (Or.inr (Or.inl ⟨by first | rfl | assumption, by omega⟩))))))) dX11_minuteOf_122
