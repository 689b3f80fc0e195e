/-- kept from omega's eyes -/
def HIDE (p : Prop) : Prop := p
/-- the bit of a minute's hour -/
def BT (s : Int32) (m : Int) : Bool := s.toBitVec.getLsbD (m / 60 % 24).toNat
/-- how a home heard a minute: 2 surely, 1 maybe, 0 -/
def HWV (kd su ma : Int32) (m a b : Int) : Int := if kd.toInt = 6 ∨ b < a then 0 else if kd.toInt = 2 ∨ BT su m = true then 2 else if BT ma m = true then 1 else 0
theorem shl_k (h : Int32) (h0 : 0 ≤ h.toInt) (h1 : h.toInt < 24) : ((1 : Int32) <<< (h &&& 31)).toBitVec = BitVec.twoPow 32 h.toInt.toNat := by
  rcases (show h.toInt = 0 ∨ h.toInt = 1 ∨ h.toInt = 2 ∨ h.toInt = 3 ∨ h.toInt = 4 ∨ h.toInt = 5 ∨ h.toInt = 6 ∨ h.toInt = 7 ∨ h.toInt = 8 ∨ h.toInt = 9 ∨ h.toInt = 10 ∨ h.toInt = 11 ∨ h.toInt = 12 ∨ h.toInt = 13 ∨ h.toInt = 14 ∨ h.toInt = 15 ∨ h.toInt = 16 ∨ h.toInt = 17 ∨ h.toInt = 18 ∨ h.toInt = 19 ∨ h.toInt = 20 ∨ h.toInt = 21 ∨ h.toInt = 22 ∨ h.toInt = 23 by omega) with q | q | q | q | q | q | q | q | q | q | q | q | q | q | q | q | q | q | q | q | q | q | q | q
  · rw [show h = 0 from Int32.toInt_inj.mp (q.trans (by decide))]; decide +kernel
  · rw [show h = 1 from Int32.toInt_inj.mp (q.trans (by decide))]; decide +kernel
  · rw [show h = 2 from Int32.toInt_inj.mp (q.trans (by decide))]; decide +kernel
  · rw [show h = 3 from Int32.toInt_inj.mp (q.trans (by decide))]; decide +kernel
  · rw [show h = 4 from Int32.toInt_inj.mp (q.trans (by decide))]; decide +kernel
  · rw [show h = 5 from Int32.toInt_inj.mp (q.trans (by decide))]; decide +kernel
  · rw [show h = 6 from Int32.toInt_inj.mp (q.trans (by decide))]; decide +kernel
  · rw [show h = 7 from Int32.toInt_inj.mp (q.trans (by decide))]; decide +kernel
  · rw [show h = 8 from Int32.toInt_inj.mp (q.trans (by decide))]; decide +kernel
  · rw [show h = 9 from Int32.toInt_inj.mp (q.trans (by decide))]; decide +kernel
  · rw [show h = 10 from Int32.toInt_inj.mp (q.trans (by decide))]; decide +kernel
  · rw [show h = 11 from Int32.toInt_inj.mp (q.trans (by decide))]; decide +kernel
  · rw [show h = 12 from Int32.toInt_inj.mp (q.trans (by decide))]; decide +kernel
  · rw [show h = 13 from Int32.toInt_inj.mp (q.trans (by decide))]; decide +kernel
  · rw [show h = 14 from Int32.toInt_inj.mp (q.trans (by decide))]; decide +kernel
  · rw [show h = 15 from Int32.toInt_inj.mp (q.trans (by decide))]; decide +kernel
  · rw [show h = 16 from Int32.toInt_inj.mp (q.trans (by decide))]; decide +kernel
  · rw [show h = 17 from Int32.toInt_inj.mp (q.trans (by decide))]; decide +kernel
  · rw [show h = 18 from Int32.toInt_inj.mp (q.trans (by decide))]; decide +kernel
  · rw [show h = 19 from Int32.toInt_inj.mp (q.trans (by decide))]; decide +kernel
  · rw [show h = 20 from Int32.toInt_inj.mp (q.trans (by decide))]; decide +kernel
  · rw [show h = 21 from Int32.toInt_inj.mp (q.trans (by decide))]; decide +kernel
  · rw [show h = 22 from Int32.toInt_inj.mp (q.trans (by decide))]; decide +kernel
  · rw [show h = 23 from Int32.toInt_inj.mp (q.trans (by decide))]; decide +kernel
theorem shr_k (h : Int32) (h0 : 0 ≤ h.toInt) (h1 : h.toInt < 24) : ((h &&& 31).toBitVec.smod 32#32).toNat = h.toInt.toNat := by
  rcases (show h.toInt = 0 ∨ h.toInt = 1 ∨ h.toInt = 2 ∨ h.toInt = 3 ∨ h.toInt = 4 ∨ h.toInt = 5 ∨ h.toInt = 6 ∨ h.toInt = 7 ∨ h.toInt = 8 ∨ h.toInt = 9 ∨ h.toInt = 10 ∨ h.toInt = 11 ∨ h.toInt = 12 ∨ h.toInt = 13 ∨ h.toInt = 14 ∨ h.toInt = 15 ∨ h.toInt = 16 ∨ h.toInt = 17 ∨ h.toInt = 18 ∨ h.toInt = 19 ∨ h.toInt = 20 ∨ h.toInt = 21 ∨ h.toInt = 22 ∨ h.toInt = 23 by omega) with q | q | q | q | q | q | q | q | q | q | q | q | q | q | q | q | q | q | q | q | q | q | q | q
  · rw [show h = 0 from Int32.toInt_inj.mp (q.trans (by decide))]; decide +kernel
  · rw [show h = 1 from Int32.toInt_inj.mp (q.trans (by decide))]; decide +kernel
  · rw [show h = 2 from Int32.toInt_inj.mp (q.trans (by decide))]; decide +kernel
  · rw [show h = 3 from Int32.toInt_inj.mp (q.trans (by decide))]; decide +kernel
  · rw [show h = 4 from Int32.toInt_inj.mp (q.trans (by decide))]; decide +kernel
  · rw [show h = 5 from Int32.toInt_inj.mp (q.trans (by decide))]; decide +kernel
  · rw [show h = 6 from Int32.toInt_inj.mp (q.trans (by decide))]; decide +kernel
  · rw [show h = 7 from Int32.toInt_inj.mp (q.trans (by decide))]; decide +kernel
  · rw [show h = 8 from Int32.toInt_inj.mp (q.trans (by decide))]; decide +kernel
  · rw [show h = 9 from Int32.toInt_inj.mp (q.trans (by decide))]; decide +kernel
  · rw [show h = 10 from Int32.toInt_inj.mp (q.trans (by decide))]; decide +kernel
  · rw [show h = 11 from Int32.toInt_inj.mp (q.trans (by decide))]; decide +kernel
  · rw [show h = 12 from Int32.toInt_inj.mp (q.trans (by decide))]; decide +kernel
  · rw [show h = 13 from Int32.toInt_inj.mp (q.trans (by decide))]; decide +kernel
  · rw [show h = 14 from Int32.toInt_inj.mp (q.trans (by decide))]; decide +kernel
  · rw [show h = 15 from Int32.toInt_inj.mp (q.trans (by decide))]; decide +kernel
  · rw [show h = 16 from Int32.toInt_inj.mp (q.trans (by decide))]; decide +kernel
  · rw [show h = 17 from Int32.toInt_inj.mp (q.trans (by decide))]; decide +kernel
  · rw [show h = 18 from Int32.toInt_inj.mp (q.trans (by decide))]; decide +kernel
  · rw [show h = 19 from Int32.toInt_inj.mp (q.trans (by decide))]; decide +kernel
  · rw [show h = 20 from Int32.toInt_inj.mp (q.trans (by decide))]; decide +kernel
  · rw [show h = 21 from Int32.toInt_inj.mp (q.trans (by decide))]; decide +kernel
  · rw [show h = 22 from Int32.toInt_inj.mp (q.trans (by decide))]; decide +kernel
  · rw [show h = 23 from Int32.toInt_inj.mp (q.trans (by decide))]; decide +kernel
theorem tp_ne : ∀ l, l < 32 → BitVec.twoPow 32 l ≠ 0#32 := by decide +kernel
theorem bt_c {s h x y : Int32} {m : Int} (h0 : 0 ≤ h.toInt) (h1 : h.toInt < 24) (hh : h.toInt = m / 60 % 24) (ex : x = 1 <<< (h &&& 31)) (ey : y = s &&& x) : y.toInt = 0 ↔ ¬ BT s m = true := by
  have e : y.toBitVec = if s.toBitVec.getLsbD h.toInt.toNat then BitVec.twoPow 32 h.toInt.toNat else 0#32 := by
    rw [ey, ex]
    show s.toBitVec &&& ((1 : Int32) <<< (h &&& 31)).toBitVec = _
    rw [shl_k h h0 h1, BitVec.and_twoPow]
  have e0 : y.toInt = 0 ↔ y.toBitVec = 0#32 := ⟨fun q => congrArg Int32.toBitVec (ext_i (q.trans (by decide) : y.toInt = (0 : Int32).toInt)), fun q => by rw [show y = 0 from Int32.toBitVec_inj.mp q]; decide⟩
  have hlt : h.toInt.toNat < 32 := by omega
  rw [e0, e]
  unfold BT
  rw [← hh]
  cases q : s.toBitVec.getLsbD h.toInt.toNat with
  | false => simp
  | true =>
    rw [if_pos rfl]
    exact iff_of_false (tp_ne _ hlt) (fun z => z rfl)
theorem bt_m0 (x : BitVec 32) (k : Nat) (hk : k < 32) : (x.sshiftRight k) &&& 1#32 = if x.getLsbD k then 1#32 else 0#32 := by
  rw [show (1#32) = BitVec.twoPow 32 0 from rfl, BitVec.and_twoPow, BitVec.getLsbD_sshiftRight]
  simp [hk]
theorem bt_m {s h x y : Int32} {m : Int} (h0 : 0 ≤ h.toInt) (h1 : h.toInt < 24) (hh : h.toInt = m / 60 % 24) (ex : x = s >>> (h &&& 31)) (ey : y = x &&& 1) : (y.toInt = 1 ∧ BT s m = true) ∨ (y.toInt = 0 ∧ ¬ BT s m = true) := by
  have hlt : h.toInt.toNat < 32 := by omega
  have e : y.toBitVec = if s.toBitVec.getLsbD h.toInt.toNat then 1#32 else 0#32 := by
    rw [ey, ex]
    show (s.toBitVec.sshiftRight' ((h &&& 31).toBitVec.smod 32#32)) &&& 1#32 = _
    rw [BitVec.sshiftRight_eq', shr_k h h0 h1]
    exact bt_m0 _ _ hlt
  unfold BT
  rw [← hh]
  cases q : s.toBitVec.getLsbD h.toInt.toNat with
  | false =>
    rw [q] at e
    exact Or.inr ⟨by rw [show y = 0 from Int32.toBitVec_inj.mp e]; decide, by simp⟩
  | true =>
    rw [q] at e
    exact Or.inl ⟨by rw [show y = 1 from Int32.toBitVec_inj.mp e]; decide, rfl⟩
section HW
variable {kd su ma : Int32} {m a b a' b' r : Int}
theorem hwv_0 (h : kd.toInt = 6 ∨ b < a) (hr : r = 0) : r = HWV kd su ma m a b := by rw [HWV, if_pos h]; exact hr
theorem hwv_2 (h : ¬ kd.toInt = 6) (h1 : a ≤ b) (h2 : kd.toInt = 2 ∨ BT su m = true) (hr : r = 2) : r = HWV kd su ma m a b := by rw [HWV, if_neg (by omega), if_pos h2]; exact hr
theorem hwv_1 (h : ¬ kd.toInt = 6) (h1 : a ≤ b) (h2 : ¬ kd.toInt = 2) (h3 : ¬ BT su m = true) (h4 : BT ma m = true) (hr : r = 1) : r = HWV kd su ma m a b := by rw [HWV, if_neg (by omega), if_neg (fun q => q.elim h2 h3), if_pos h4]; exact hr
theorem hwv_n (h : ¬ kd.toInt = 6) (h1 : a ≤ b) (h2 : ¬ kd.toInt = 2) (h3 : ¬ BT su m = true) (h4 : ¬ BT ma m = true) (hr : r = 0) : r = HWV kd su ma m a b := by rw [HWV, if_neg (by omega), if_neg (fun q => q.elim h2 h3), if_neg h4]; exact hr
theorem hrw_b (hm : 0 ≤ m) : 0 ≤ (hrw m).toInt ∧ (hrw m).toInt < 24 ∧ (hrw m).toInt = m / 60 % 24 := by
  have e : (hrw m).toInt = m / 60 % 24 := by
    unfold hrw
    exact Int32.toInt_ofInt_of_le (by omega) (by omega)
  omega
end HW
set_option maxHeartbeats 4000000 in
set_option maxRecDepth 100000 in
theorem c_X3_howHeard_e (l : Launch) (g : gG) (J : Nat → Nat → Int32) (L : Nat → Nat → Int64) (I : Nat → Nat → Nat → Int32) (P : Nat → Nat → Nat → Option Nat) (E : Nat → Option Nat) (N : Nat → Nat) (dy : List (Nat × Nat)) (sz : Nat) (a0 : Nat) (hm0 : (2, a0) ∈ dy) (a1 : Nat) (hm1 : (9, a1) ∈ dy) (a2 : Int32) (hwf : WXF g J P E N dy) (hm9 : 0 ≤ a2.toInt ∧ a2.toInt ≤ 9999) : Met l yX3_howHeard (WS yX3_howHeard cX3_howHeard 5 (some .int)) (RM (3) 0 0) (PC g [.ref (g.2.2.1 4), .ref a0, .ref a1, .int a2] ((J, L, I, P, E, N), sgX g ++ dy) sz) (va_Qi (fun (r : Int32) (u : Unit) => (∀ b : Nat, P 2 0 a0 = some b → r.toInt = HWV (I 9 2 a1) (I 2 2 a0) (I 2 3 a0) a2.toInt (J 4 5 * I 2 1 a0).toInt (I 6 7 b).toInt)) (fun u t => at_ g (FR g ((J, L, I, P, E, N), sgX g ++ dy) sz) ((J, L, I, P, E, N), sgX g ++ dy) t) (FR g ((J, L, I, P, E, N), sgX g ++ dy) sz)) 0 0 (FR g ((J, L, I, P, E, N), sgX g ++ dy) sz) := by
  refine ent (by decide +kernel) (Nat.le_of_ble_eq_true rfl) ?_
  intro p e s m below meth c ls hsz C hW hr hlocks hname hl
  generalize FR g ((J, L, I, P, E, N), sgX g ++ dy) sz = A at C hW ⊢
  generalize hQ9 : (va_Qi (fun (r : Int32) (u : Unit) => (∀ b : Nat, P 2 0 a0 = some b → r.toInt = HWV (I 9 2 a1) (I 2 2 a0) (I 2 3 a0) a2.toInt (J 4 5 * I 2 1 a0).toInt (I 6 7 b).toInt)) (fun u t => at_ g A ((J, L, I, P, E, N), sgX g ++ dy) t) A) = Q9
  have hx := C.1.1
  have hb := C.1.2.1
  have hts := C.1.2.2.2.2
  have hl : lv_has ls 5 [(0, .ref (g.2.2.1 4)), (1, .ref a0), (2, .ref a1), (3, .int a2)] := hl
  obtain ⟨H, hH⟩ : ∃ H : Heap, H = s.heap := ⟨_, rfl⟩
  obtain ⟨locs, hlocs⟩ : ∃ q : List Loc, q = [] := ⟨_, rfl⟩
  have hW : WB g A s.heap H locs (J, L, I, P, E, N) (sgX g ++ dy) := by rw [hH, hlocs]; exact hW
  refine start_ hH hlocs ?_
  refine lv_aload_n hx hb dX3_howHeard_0 rfl (lv_at hl 2 rfl) ?_
  refine rg_9_2 C hW (List.mem_append_right _ hm1) tw_428 dX3_howHeard_1 ?_
  refine lv_topi (fun x1 (e1 : x1 = I 9 2 a1) => ?_)
  have t1 : x1.toInt = (I 9 2 a1).toInt := by rw [e1]
  refine lv_bipush (v := 6) hx hb dX3_howHeard_4 (by decide) ?_
  refine lv_icmp_eq (tgt := 20) hx hb dX3_howHeard_6 (by decide) (fun c2 => ?_) (fun c2 => ?_)
  · have c2 : x1.toInt = 6 := teq rfl kp6 c2
    refine lv_iconst (v := 0) hx hb dX3_howHeard_20 (by decide) ?_
    subst hQ9
    exact end_i C hr hlocks () hW (show ∀ b : Nat, P 2 0 a0 = some b → 0 = HWV (I 9 2 a1) (I 2 2 a0) (I 2 3 a0) a2.toInt (J 4 5 * I 2 1 a0).toInt (I 6 7 b).toInt from by (intro b h9; first | exact hwv_0 (by omega) rfl | exact hwv_2 (by omega) (by omega) (Or.inl (by omega)) rfl)) dX3_howHeard_21
  · have c2 : ¬ x1.toInt = 6 := tne rfl kp6 c2
    refine lv_aload_n hx hb dX3_howHeard_9 rfl (lv_at hl 1 rfl) ?_
    refine lv_aload_n hx hb dX3_howHeard_10 rfl (lv_at hl 0 rfl) ?_
    refine rg_4_5 C hW (mx_ rfl) tw_242 dX3_howHeard_11 ?_
    refine ci_ C hW (runV (x := a0) (As := [.int (J 4 5)]) (rest := []) (T := ((J, L, I, P, E, N), sgX g ++ dy)) C hW (c_X1_isReached_e l g J L I P E N dy H.size a0 hm0 (J 4 5) hwf) mi_X1_isReached tw_721 (recv_ (T := ((J, L, I, P, E, N), sgX g ++ dy)) C hW (List.mem_append_right _ hm0) rfl rfl) ⟨rfl, rfl, Nat.le_of_ble_eq_true rfl, Nat.le_of_ble_eq_true rfl⟩ rfl hl.1 rfl (Nat.le_of_ble_eq_true rfl) dX3_howHeard_14 ⟨Nat.le_of_ble_eq_true rfl, Nat.le_of_ble_eq_true rfl⟩) (fun r3 u3 H locs hp3 hW => ?_)
    have hf3_0 : (∀ b : Nat, P 2 0 a0 = some b → ((r3.toInt : Int) = 1 ∧ ((J 4 5) * I 2 1 a0).toInt ≤ (I 6 7 b).toInt) ∨ ((r3.toInt : Int) = 0 ∧ (I 6 7 b).toInt < ((J 4 5) * I 2 1 a0).toInt)) := hp3
    clear hp3
    have hW : WB g A s.heap H locs (J, L, I, P, E, N) (sgX g ++ dy) := hW
    have hQ := hf3_0
    refine lv_if_ne (tgt := 22) hx hb dX3_howHeard_17 (by decide) (fun c4 => ?_) (fun c4 => ?_)
    · have c4 : ¬ r3.toInt = 0 := tne rfl kp0 c4
      refine lv_iconst (v := 1) hx hb dX3_howHeard_22 (by decide) ?_
      refine lv_iload_n hx hb dX3_howHeard_23 rfl (lv_at hl 3 rfl) ?_
      refine ci_ C hW (runSN (As := [.int a2]) (rest := [.int 1]) (T := ((J, L, I, P, E, N), sgX g ++ dy)) C hW (c_X11_hourOf_e l g J L I P E N dy H.size a2 (show 0 ≤ a2.toInt from by omega)) mi_X11_hourOf (List.mem_of_getElem? (i := 4) rfl) ⟨rfl, rfl, Nat.le_of_ble_eq_true rfl, Nat.le_of_ble_eq_true rfl⟩ rfl hl.1 rfl (Nat.le_of_ble_eq_true rfl) dX3_howHeard_24 ⟨Nat.le_of_ble_eq_true rfl, Nat.le_of_ble_eq_true rfl⟩) (fun r5 u5 H locs hp5 hW => ?_)
      have hc5 : ((r5 = hrw a2.toInt)) := hp5
      clear hp5
      have hr5 : r5 = hrw a2.toInt := hc5
      refine lv_as (hrw a2.toInt) hr5 ?_
      have hW : WB g A s.heap H locs (J, L, I, P, E, N) (sgX g ++ dy) := hW
      refine lv_ishl hx hb dX3_howHeard_27 ?_
      refine lv_topi (fun x6 (e6 : x6 = 1 <<< ((hrw a2.toInt) &&& 31)) => ?_)
      refine lv_istore (lv' := [(4, .int x6), (0, .ref (g.2.2.1 4)), (1, .ref a0), (2, .ref a1), (3, .int a2)]) hx hb dX3_howHeard_28 hl (by decide) rfl (fun ls hl => ?_)
      refine lv_aload_n hx hb dX3_howHeard_30 rfl (lv_at hl 3 rfl) ?_
      refine rg_9_2 C hW (List.mem_append_right _ hm1) tw_428 dX3_howHeard_31 ?_
      refine lv_topi (fun x7 (e7 : x7 = I 9 2 a1) => ?_)
      have t7 : x7.toInt = (I 9 2 a1).toInt := by rw [e7]
      refine lv_iconst (v := 2) hx hb dX3_howHeard_34 (by decide) ?_
      refine lv_icmp_eq (tgt := 48) hx hb dX3_howHeard_35 (by decide) (fun c8 => ?_) (fun c8 => ?_)
      · have c8 : x7.toInt = 2 := teq rfl kp2 c8
        refine lv_iconst (v := 2) hx hb dX3_howHeard_48 (by decide) ?_
        subst hQ9
        exact end_i C hr hlocks () hW (show ∀ b : Nat, P 2 0 a0 = some b → 2 = HWV (I 9 2 a1) (I 2 2 a0) (I 2 3 a0) a2.toInt (J 4 5 * I 2 1 a0).toInt (I 6 7 b).toInt from by (intro b h9; have hQ9 := hQ b h9; first | exact hwv_0 (by omega) rfl | exact hwv_2 (by omega) (by omega) (Or.inl (by omega)) rfl)) dX3_howHeard_49
      · have c8 : ¬ x7.toInt = 2 := tne rfl kp2 c8
        refine lv_aload_n hx hb dX3_howHeard_38 rfl (lv_at hl 2 rfl) ?_
        refine rg_2_2 C hW (List.mem_append_right _ hm0) tw_552 dX3_howHeard_39 ?_
        refine lv_topi (fun x9 (e9 : x9 = I 2 2 a0) => ?_)
        have t9 : x9.toInt = (I 2 2 a0).toInt := by rw [e9]
        refine lv_iload hx hb dX3_howHeard_42 (lv_at hl 0 rfl) ?_
        refine lv_iand hx hb dX3_howHeard_44 ?_
        refine lv_topi (fun x10 (e10 : x10 = x9 &&& x6) => ?_)
        refine lv_if_eq (tgt := 50) hx hb dX3_howHeard_45 (by decide) (fun c11 => ?_) (fun c11 => ?_)
        · have c11 : x10.toInt = 0 := teq rfl kp0 c11
          refine lv_aload_n hx hb dX3_howHeard_50 rfl (lv_at hl 2 rfl) ?_
          refine rg_2_3 C hW (List.mem_append_right _ hm0) tw_554 dX3_howHeard_51 ?_
          refine lv_topi (fun x12 (e12 : x12 = I 2 3 a0) => ?_)
          have t12 : x12.toInt = (I 2 3 a0).toInt := by rw [e12]
          refine lv_iload hx hb dX3_howHeard_54 (lv_at hl 0 rfl) ?_
          refine lv_iand hx hb dX3_howHeard_56 ?_
          refine lv_topi (fun x13 (e13 : x13 = x12 &&& x6) => ?_)
          refine lv_if_eq (tgt := 64) hx hb dX3_howHeard_57 (by decide) (fun c14 => ?_) (fun c14 => ?_)
          · have c14 : x13.toInt = 0 := teq rfl kp0 c14
            refine lv_iconst (v := 0) hx hb dX3_howHeard_64 (by decide) ?_
            subst hQ9
            exact end_i C hr hlocks () hW (show ∀ b : Nat, P 2 0 a0 = some b → 0 = HWV (I 9 2 a1) (I 2 2 a0) (I 2 3 a0) a2.toInt (J 4 5 * I 2 1 a0).toInt (I 6 7 b).toInt from by (intro b h9; have hQ9 := hQ b h9; have hb0 := bt_c (hrw_b (m := a2.toInt) (by omega)).1 (hrw_b (m := a2.toInt) (by omega)).2.1 (hrw_b (m := a2.toInt) (by omega)).2.2 (show x6 = 1 <<< (hrw a2.toInt &&& 31) from e6) e10; rw [e9] at hb0; have hb1 := bt_c (hrw_b (m := a2.toInt) (by omega)).1 (hrw_b (m := a2.toInt) (by omega)).2.1 (hrw_b (m := a2.toInt) (by omega)).2.2 (show x6 = 1 <<< (hrw a2.toInt &&& 31) from e6) e13; rw [e12] at hb1; first | exact hwv_0 (by omega) rfl | exact hwv_2 (by omega) (by omega) (Or.inl (by omega)) rfl | exact hwv_2 (by omega) (by omega) (Or.inr (Decidable.of_not_not (fun z => by have := hb0.mpr z; omega))) rfl | exact hwv_1 (by omega) (by omega) (by omega) (hb0.mp (by omega)) (Decidable.of_not_not (fun z => by have := hb1.mpr z; omega)) rfl | exact hwv_n (by omega) (by omega) (by omega) (hb0.mp (by omega)) (hb1.mp (by omega)) rfl)) dX3_howHeard_65
          · have c14 : ¬ x13.toInt = 0 := tne rfl kp0 c14
            refine lv_iconst (v := 1) hx hb dX3_howHeard_60 (by decide) ?_
            refine lv_goto (tgt := 65) hx hb dX3_howHeard_61 (by decide) ?_
            subst hQ9
            exact end_i C hr hlocks () hW (show ∀ b : Nat, P 2 0 a0 = some b → 1 = HWV (I 9 2 a1) (I 2 2 a0) (I 2 3 a0) a2.toInt (J 4 5 * I 2 1 a0).toInt (I 6 7 b).toInt from by (intro b h9; have hQ9 := hQ b h9; have hb0 := bt_c (hrw_b (m := a2.toInt) (by omega)).1 (hrw_b (m := a2.toInt) (by omega)).2.1 (hrw_b (m := a2.toInt) (by omega)).2.2 (show x6 = 1 <<< (hrw a2.toInt &&& 31) from e6) e10; rw [e9] at hb0; have hb1 := bt_c (hrw_b (m := a2.toInt) (by omega)).1 (hrw_b (m := a2.toInt) (by omega)).2.1 (hrw_b (m := a2.toInt) (by omega)).2.2 (show x6 = 1 <<< (hrw a2.toInt &&& 31) from e6) e13; rw [e12] at hb1; first | exact hwv_0 (by omega) rfl | exact hwv_2 (by omega) (by omega) (Or.inl (by omega)) rfl | exact hwv_2 (by omega) (by omega) (Or.inr (Decidable.of_not_not (fun z => by have := hb0.mpr z; omega))) rfl | exact hwv_1 (by omega) (by omega) (by omega) (hb0.mp (by omega)) (Decidable.of_not_not (fun z => by have := hb1.mpr z; omega)) rfl | exact hwv_n (by omega) (by omega) (by omega) (hb0.mp (by omega)) (hb1.mp (by omega)) rfl)) dX3_howHeard_65
        · have c11 : ¬ x10.toInt = 0 := tne rfl kp0 c11
          refine lv_iconst (v := 2) hx hb dX3_howHeard_48 (by decide) ?_
          subst hQ9
          exact end_i C hr hlocks () hW (show ∀ b : Nat, P 2 0 a0 = some b → 2 = HWV (I 9 2 a1) (I 2 2 a0) (I 2 3 a0) a2.toInt (J 4 5 * I 2 1 a0).toInt (I 6 7 b).toInt from by (intro b h9; have hQ9 := hQ b h9; have hb0 := bt_c (hrw_b (m := a2.toInt) (by omega)).1 (hrw_b (m := a2.toInt) (by omega)).2.1 (hrw_b (m := a2.toInt) (by omega)).2.2 (show x6 = 1 <<< (hrw a2.toInt &&& 31) from e6) e10; rw [e9] at hb0; first | exact hwv_0 (by omega) rfl | exact hwv_2 (by omega) (by omega) (Or.inl (by omega)) rfl | exact hwv_2 (by omega) (by omega) (Or.inr (Decidable.of_not_not (fun z => by have := hb0.mpr z; omega))) rfl)) dX3_howHeard_49
    · have c4 : r3.toInt = 0 := teq rfl kp0 c4
      refine lv_iconst (v := 0) hx hb dX3_howHeard_20 (by decide) ?_
      subst hQ9
      exact end_i C hr hlocks () hW (show ∀ b : Nat, P 2 0 a0 = some b → 0 = HWV (I 9 2 a1) (I 2 2 a0) (I 2 3 a0) a2.toInt (J 4 5 * I 2 1 a0).toInt (I 6 7 b).toInt from by (intro b h9; have hQ9 := hQ b h9; first | exact hwv_0 (by omega) rfl | exact hwv_2 (by omega) (by omega) (Or.inl (by omega)) rfl)) dX3_howHeard_21

set_option maxHeartbeats 4000000 in
set_option maxRecDepth 100000 in
theorem c_X11_heard_e (l : Launch) (g : gG) (J : Nat → Nat → Int32) (L : Nat → Nat → Int64) (I : Nat → Nat → Nat → Int32) (P : Nat → Nat → Nat → Option Nat) (E : Nat → Option Nat) (N : Nat → Nat) (dy : List (Nat × Nat)) (sz : Nat) (a0 : Int32) (a1 : Int32) (hwf : WXF g J P E N dy) (hnt : NTR (P 6 0) (elt E P 20) (J 101) (J 20 2).toInt) (hij : INJ E P 20 (J 20 2).toInt) (hcu : CUR (P 1 0) (I 1 1) (I 1 2) (elt E P 21) (elt E P 20) (J 105) (J 106) (J 107) (J 21 2).toInt (J 20 2).toInt) (hhm : HMR (P 2 0) (I 2 1) (I 2 2) (I 2 3) (elt E P 22) (elt E P 20) (J 108) (J 109) (J 110) (J 111) (J 22 2).toInt (J 20 2).toInt) (hspr : SPR I E P (J 27 2).toInt (J 3 1).toInt (J 116) (J 117) (J 118) (J 119) (J 120)) (hnw : (J 3 1).toInt ≤ 9999) : Met l yX11_heard (WS yX11_heard cX11_heard 5 (some .int)) (RM (5) 0 0) (PC g [.ref (g.2.2.1 12), .int a0, .int a1] ((J, L, I, P, E, N), sgX g ++ dy) sz) (va_Qi (fun (r : Int32) (u : (Nat → Nat → Int32) × (Nat → Nat → Nat → Int32)) => ((r.toInt = (-1) ∧ (¬ ((0 ≤ a0.toInt ∧ a0.toInt < (J 3 1).toInt) ∧ 0 ≤ a1.toInt ∧ a1.toInt < (J 22 2).toInt))) ∨ (r = r ∧ ((0 ≤ a0.toInt ∧ a0.toInt < (J 3 1).toInt) ∧ 0 ≤ a1.toInt ∧ a1.toInt < (J 22 2).toInt) ∧ (∃ x : Nat → Int32, SND x (J 101) (fun k => I 6 1 (elt E P 20 k)) (fun k => I 6 3 (elt E P 20 k)) (fun k => I 6 5 (elt E P 20 k)) (CUTP (J 105) (J 106) (J 107) (J 21 2).toInt a0.toInt) (J 118 a0.toNatClampNeg) (J 120 a0.toNatClampNeg) (J 20 2).toInt ∧ r.toInt = HWV (J 116 a0.toNatClampNeg) (J 110 a1.toNatClampNeg) (J 111 a1.toNatClampNeg) a0.toInt (J 4 5 * J 109 a1.toNatClampNeg).toInt (x (J 108 a1.toNatClampNeg).toNatClampNeg).toInt)))) (fun u t => at_ g (FR g ((J, L, I, P, E, N), sgX g ++ dy) sz) (((hv J [42] [] u.1), L, (hv I [] [(6, 6), (6, 7)] u.2), P, E, N), sgX g ++ dy) t) (FR g ((J, L, I, P, E, N), sgX g ++ dy) sz)) 0 0 (FR g ((J, L, I, P, E, N), sgX g ++ dy) sz) := by
  refine ent (by decide +kernel) (Nat.le_of_ble_eq_true rfl) ?_
  intro p e s m below meth c ls hsz C hW hr hlocks hname hl
  generalize FR g ((J, L, I, P, E, N), sgX g ++ dy) sz = A at C hW ⊢
  generalize hQ9 : (va_Qi (fun (r : Int32) (u : (Nat → Nat → Int32) × (Nat → Nat → Nat → Int32)) => ((r.toInt = (-1) ∧ (¬ ((0 ≤ a0.toInt ∧ a0.toInt < (J 3 1).toInt) ∧ 0 ≤ a1.toInt ∧ a1.toInt < (J 22 2).toInt))) ∨ (r = r ∧ ((0 ≤ a0.toInt ∧ a0.toInt < (J 3 1).toInt) ∧ 0 ≤ a1.toInt ∧ a1.toInt < (J 22 2).toInt) ∧ (∃ x : Nat → Int32, SND x (J 101) (fun k => I 6 1 (elt E P 20 k)) (fun k => I 6 3 (elt E P 20 k)) (fun k => I 6 5 (elt E P 20 k)) (CUTP (J 105) (J 106) (J 107) (J 21 2).toInt a0.toInt) (J 118 a0.toNatClampNeg) (J 120 a0.toNatClampNeg) (J 20 2).toInt ∧ r.toInt = HWV (J 116 a0.toNatClampNeg) (J 110 a1.toNatClampNeg) (J 111 a1.toNatClampNeg) a0.toInt (J 4 5 * J 109 a1.toNatClampNeg).toInt (x (J 108 a1.toNatClampNeg).toNatClampNeg).toInt)))) (fun u t => at_ g A (((hv J [42] [] u.1), L, (hv I [] [(6, 6), (6, 7)] u.2), P, E, N), sgX g ++ dy) t) A) = Q9
  have hx := C.1.1
  have hb := C.1.2.1
  have hts := C.1.2.2.2.2
  have hl : lv_has ls 5 [(0, .ref (g.2.2.1 12)), (1, .int a0), (2, .int a1)] := hl
  obtain ⟨H, hH⟩ : ∃ H : Heap, H = s.heap := ⟨_, rfl⟩
  obtain ⟨locs, hlocs⟩ : ∃ q : List Loc, q = [] := ⟨_, rfl⟩
  have hW : WB g A s.heap H locs (J, L, I, P, E, N) (sgX g ++ dy) := by rw [hH, hlocs]; exact hW
  refine start_ hH hlocs ?_
  refine lv_aload_n hx hb dX11_heard_0 rfl (lv_at hl 0 rfl) ?_
  refine rg_12_1 C hW (mx_ rfl) tw_365 dX11_heard_1 ?_
  refine lv_iload_n hx hb dX11_heard_4 rfl (lv_at hl 1 rfl) ?_
  refine cq_ C hW (runV (x := (g.2.2.1 3)) (As := [.int a0]) (rest := []) (T := ((J, L, I, P, E, N), sgX g ++ dy)) C hW (c_X2_spanOf_e l g J L I P E N dy H.size a0 hwf (show SPR I E P (J 27 2).toInt (J 3 1).toInt (J 116) (J 117) (J 118) (J 119) (J 120) from hspr)) mi_X2_spanOf tw_639 (recv_ (T := ((J, L, I, P, E, N), sgX g ++ dy)) C hW (mx_ rfl) rfl rfl) ⟨rfl, rfl, Nat.le_of_ble_eq_true rfl, Nat.le_of_ble_eq_true rfl⟩ rfl hl.1 rfl (Nat.le_of_ble_eq_true rfl) dX11_heard_5 ⟨Nat.le_of_ble_eq_true rfl, Nat.le_of_ble_eq_true rfl⟩) (fun q1 u1 H locs hp1 hW => ?_)
  have hq1 : ((q1 = none ∧ (¬ (0 ≤ a0.toInt ∧ a0.toInt < (J 3 1).toInt))) ∨ (∃ o9 : Nat, q1 = some o9 ∧ (9, o9) ∈ dy ∧ (0 ≤ a0.toInt ∧ a0.toInt < (J 3 1).toInt ∧ (I 9 0 o9).toInt ≤ a0.toInt ∧ a0.toInt ≤ (I 9 1 o9).toInt ∧ SPO I o9 (J 3 1).toInt (J 116) (J 117) (J 118) (J 119) (J 120)))) := hp1
  clear hp1
  have hW : WB g A s.heap H locs (J, L, I, P, E, N) (sgX g ++ dy) := hW
  rcases hq1 with ⟨ho1, hn1⟩ | ⟨o1, ho1, hm1, hs1⟩ <;> subst ho1
  · refine lv_asv (v' := .null) rfl ?_
    refine lv_astore_nN (lv' := [(3, .null), (0, .ref (g.2.2.1 12)), (1, .int a0), (2, .int a1)]) hx hb dX11_heard_8 rfl hl (by decide) rfl (fun ls hl => ?_)
    refine lv_aload_n hx hb dX11_heard_9 rfl (lv_at hl 1 rfl) ?_
    refine rg_12_0 C hW (mx_ rfl) tw_364 dX11_heard_10 ?_
    refine lv_iload_n hx hb dX11_heard_13 rfl (lv_at hl 3 rfl) ?_
    refine cq_ C hW (runV (x := (g.2.2.1 4)) (As := [.int a1]) (rest := []) (T := ((J, L, I, P, E, N), sgX g ++ dy)) C hW (c_X3_homeOf l g J L I P E N dy H.size a1 hwf) mi_X3_homeOf tw_576 (recv_ (T := ((J, L, I, P, E, N), sgX g ++ dy)) C hW (mx_ rfl) rfl rfl) ⟨rfl, rfl, Nat.le_of_ble_eq_true rfl, Nat.le_of_ble_eq_true rfl⟩ rfl hl.1 rfl (Nat.le_of_ble_eq_true rfl) dX11_heard_14 ⟨Nat.le_of_ble_eq_true rfl, Nat.le_of_ble_eq_true rfl⟩) (fun q2 u2 H locs hp2 hW => ?_)
    have hq2 : ((q2 = none ∧ (¬ (0 ≤ a1.toInt ∧ a1.toInt < (J 22 2).toInt))) ∨ (q2 = some (elt E P 22 a1.toNatClampNeg) ∧ (0 ≤ a1.toInt ∧ a1.toInt < (J 22 2).toInt))) := hp2
    clear hp2
    have hW : WB g A s.heap H locs (J, L, I, P, E, N) (sgX g ++ dy) := hW
    rcases hq2 with ⟨rfl, hn2⟩ | ⟨rfl, hs2⟩
    · refine lv_asv (v' := .null) rfl ?_
      refine lv_astoreN (lv' := [(4, .null), (3, .null), (0, .ref (g.2.2.1 12)), (1, .int a0), (2, .int a1)]) hx hb dX11_heard_17 hl (by decide) rfl (fun ls hl => ?_)
      refine lv_aload_nN hx hb dX11_heard_19 rfl (lv_at hl 1 rfl) ?_
      refine lv_ifnullN (tgt := 28) hx hb dX11_heard_20 (by decide) ?_
      refine lv_aload_n hx hb dX11_heard_28 rfl (lv_at hl 2 rfl) ?_
      refine lv_iconst (v := (-1)) hx hb dX11_heard_29 (by decide) ?_
      refine ci_ C hW (runV (x := (g.2.2.1 12)) (As := [.int (-1)]) (rest := []) (T := ((J, L, I, P, E, N), sgX g ++ dy)) C hW (c_X11_refuse l g J L I P E N dy H.size (-1) hwf) mi_X11_refuse tw_411 (recv_ (T := ((J, L, I, P, E, N), sgX g ++ dy)) C hW (mx_ rfl) rfl rfl) ⟨rfl, rfl, Nat.le_of_ble_eq_true rfl, Nat.le_of_ble_eq_true rfl⟩ rfl hl.1 rfl (Nat.le_of_ble_eq_true rfl) dX11_heard_30 ⟨Nat.le_of_ble_eq_true rfl, Nat.le_of_ble_eq_true rfl⟩) (fun r3 u3 H locs hp3 hW => ?_)
      have hc3 : ((r3 = (-1))) := hp3
      clear hp3
      have hr3 : r3.toInt = (-1) := by rw [hc3]; exact kn1
      have hW : WB g A s.heap H locs ((hv J [42] [] u3), L, I, P, E, N) (sgX g ++ dy) := hW
      have hWr : WB g A s.heap H locs ((hv J [42] [] (hv J [42] [] u3)), L, (hv I [] [(6, 6), (6, 7)] I), P, E, N) (sgX g ++ dy) := by
        rw [← ag_hvE (J := J) (R := [42]) (F := []) (ag_hv rfl rfl ag_rf)]
        rw [← ag_hvE (J := I) (R := []) (F := [(6, 6), (6, 7)]) ag_rf]
        exact hW
      subst hQ9
      exact end_i C hr hlocks ((hv J [42] [] u3), I) hWr (by first | exact Or.inl ⟨by omega, by omega⟩) dX11_heard_33
    · skip
      obtain ⟨o2, ho2⟩ : ∃ z : Nat, z = elt E P 22 a1.toNatClampNeg := ⟨_, rfl⟩
      have hm2 : (2, o2) ∈ dy := by rw [ho2]; exact (lw_mem (er := 2) hwf.1.2.2.1 (show (a1.toNatClampNeg : Int) < (J 22 2).toInt from by have := tcl a1; omega))
      refine lv_asv (v' := .ref o2) (by rw [ho2]; rfl) ?_
      refine lv_astore (lv' := [(4, .ref o2), (3, .null), (0, .ref (g.2.2.1 12)), (1, .int a0), (2, .int a1)]) hx hb dX11_heard_17 hl (by decide) rfl (fun ls hl => ?_)
      refine lv_aload_nN hx hb dX11_heard_19 rfl (lv_at hl 1 rfl) ?_
      refine lv_ifnullN (tgt := 28) hx hb dX11_heard_20 (by decide) ?_
      refine lv_aload_n hx hb dX11_heard_28 rfl (lv_at hl 2 rfl) ?_
      refine lv_iconst (v := (-1)) hx hb dX11_heard_29 (by decide) ?_
      refine ci_ C hW (runV (x := (g.2.2.1 12)) (As := [.int (-1)]) (rest := []) (T := ((J, L, I, P, E, N), sgX g ++ dy)) C hW (c_X11_refuse l g J L I P E N dy H.size (-1) hwf) mi_X11_refuse tw_411 (recv_ (T := ((J, L, I, P, E, N), sgX g ++ dy)) C hW (mx_ rfl) rfl rfl) ⟨rfl, rfl, Nat.le_of_ble_eq_true rfl, Nat.le_of_ble_eq_true rfl⟩ rfl hl.1 rfl (Nat.le_of_ble_eq_true rfl) dX11_heard_30 ⟨Nat.le_of_ble_eq_true rfl, Nat.le_of_ble_eq_true rfl⟩) (fun r4 u4 H locs hp4 hW => ?_)
      have hc4 : ((r4 = (-1))) := hp4
      clear hp4
      have hr4 : r4.toInt = (-1) := by rw [hc4]; exact kn1
      have hW : WB g A s.heap H locs ((hv J [42] [] u4), L, I, P, E, N) (sgX g ++ dy) := hW
      have hWr : WB g A s.heap H locs ((hv J [42] [] (hv J [42] [] u4)), L, (hv I [] [(6, 6), (6, 7)] I), P, E, N) (sgX g ++ dy) := by
        rw [← ag_hvE (J := J) (R := [42]) (F := []) (ag_hv rfl rfl ag_rf)]
        rw [← ag_hvE (J := I) (R := []) (F := [(6, 6), (6, 7)]) ag_rf]
        exact hW
      subst hQ9
      exact end_i C hr hlocks ((hv J [42] [] u4), I) hWr (by first | exact Or.inl ⟨by omega, by omega⟩) dX11_heard_33
  · refine lv_asv (v' := .ref o1) rfl ?_
    obtain ⟨hsK1, hsR1, hsV1, hsO1, hsT1⟩ := spo_at hs1
    have hsk1 := congrArg Int32.toInt hsK1
    refine lv_astore_n (lv' := [(3, .ref o1), (0, .ref (g.2.2.1 12)), (1, .int a0), (2, .int a1)]) hx hb dX11_heard_8 rfl hl (by decide) rfl (fun ls hl => ?_)
    refine lv_aload_n hx hb dX11_heard_9 rfl (lv_at hl 1 rfl) ?_
    refine rg_12_0 C hW (mx_ rfl) tw_364 dX11_heard_10 ?_
    refine lv_iload_n hx hb dX11_heard_13 rfl (lv_at hl 3 rfl) ?_
    refine cq_ C hW (runV (x := (g.2.2.1 4)) (As := [.int a1]) (rest := []) (T := ((J, L, I, P, E, N), sgX g ++ dy)) C hW (c_X3_homeOf l g J L I P E N dy H.size a1 hwf) mi_X3_homeOf tw_576 (recv_ (T := ((J, L, I, P, E, N), sgX g ++ dy)) C hW (mx_ rfl) rfl rfl) ⟨rfl, rfl, Nat.le_of_ble_eq_true rfl, Nat.le_of_ble_eq_true rfl⟩ rfl hl.1 rfl (Nat.le_of_ble_eq_true rfl) dX11_heard_14 ⟨Nat.le_of_ble_eq_true rfl, Nat.le_of_ble_eq_true rfl⟩) (fun q5 u5 H locs hp5 hW => ?_)
    have hq5 : ((q5 = none ∧ (¬ (0 ≤ a1.toInt ∧ a1.toInt < (J 22 2).toInt))) ∨ (q5 = some (elt E P 22 a1.toNatClampNeg) ∧ (0 ≤ a1.toInt ∧ a1.toInt < (J 22 2).toInt))) := hp5
    clear hp5
    have hW : WB g A s.heap H locs (J, L, I, P, E, N) (sgX g ++ dy) := hW
    rcases hq5 with ⟨rfl, hn5⟩ | ⟨rfl, hs5⟩
    · refine lv_asv (v' := .null) rfl ?_
      refine lv_astoreN (lv' := [(4, .null), (3, .ref o1), (0, .ref (g.2.2.1 12)), (1, .int a0), (2, .int a1)]) hx hb dX11_heard_17 hl (by decide) rfl (fun ls hl => ?_)
      refine lv_aload_n hx hb dX11_heard_19 rfl (lv_at hl 1 rfl) ?_
      refine lv_ifnull hx hb dX11_heard_20 ?_
      refine lv_aloadN hx hb dX11_heard_23 (lv_at hl 0 rfl) ?_
      refine lv_ifnonnullN hx hb dX11_heard_25 ?_
      refine lv_aload_n hx hb dX11_heard_28 rfl (lv_at hl 2 rfl) ?_
      refine lv_iconst (v := (-1)) hx hb dX11_heard_29 (by decide) ?_
      refine ci_ C hW (runV (x := (g.2.2.1 12)) (As := [.int (-1)]) (rest := []) (T := ((J, L, I, P, E, N), sgX g ++ dy)) C hW (c_X11_refuse l g J L I P E N dy H.size (-1) hwf) mi_X11_refuse tw_411 (recv_ (T := ((J, L, I, P, E, N), sgX g ++ dy)) C hW (mx_ rfl) rfl rfl) ⟨rfl, rfl, Nat.le_of_ble_eq_true rfl, Nat.le_of_ble_eq_true rfl⟩ rfl hl.1 rfl (Nat.le_of_ble_eq_true rfl) dX11_heard_30 ⟨Nat.le_of_ble_eq_true rfl, Nat.le_of_ble_eq_true rfl⟩) (fun r6 u6 H locs hp6 hW => ?_)
      have hc6 : ((r6 = (-1))) := hp6
      clear hp6
      have hr6 : r6.toInt = (-1) := by rw [hc6]; exact kn1
      have hW : WB g A s.heap H locs ((hv J [42] [] u6), L, I, P, E, N) (sgX g ++ dy) := hW
      have hWr : WB g A s.heap H locs ((hv J [42] [] (hv J [42] [] u6)), L, (hv I [] [(6, 6), (6, 7)] I), P, E, N) (sgX g ++ dy) := by
        rw [← ag_hvE (J := J) (R := [42]) (F := []) (ag_hv rfl rfl ag_rf)]
        rw [← ag_hvE (J := I) (R := []) (F := [(6, 6), (6, 7)]) ag_rf]
        exact hW
      subst hQ9
      exact end_i C hr hlocks ((hv J [42] [] u6), I) hWr (by first | exact Or.inl ⟨by omega, by omega⟩) dX11_heard_33
    · skip
      obtain ⟨o5, ho5⟩ : ∃ z : Nat, z = elt E P 22 a1.toNatClampNeg := ⟨_, rfl⟩
      have hm5 : (2, o5) ∈ dy := by rw [ho5]; exact (lw_mem (er := 2) hwf.1.2.2.1 (show (a1.toNatClampNeg : Int) < (J 22 2).toInt from by have := tcl a1; omega))
      refine lv_asv (v' := .ref o5) (by rw [ho5]; rfl) ?_
      refine lv_astore (lv' := [(4, .ref o5), (3, .ref o1), (0, .ref (g.2.2.1 12)), (1, .int a0), (2, .int a1)]) hx hb dX11_heard_17 hl (by decide) rfl (fun ls hl => ?_)
      refine lv_aload_n hx hb dX11_heard_19 rfl (lv_at hl 1 rfl) ?_
      refine lv_ifnull hx hb dX11_heard_20 ?_
      refine lv_aload hx hb dX11_heard_23 (lv_at hl 0 rfl) ?_
      refine lv_ifnonnull (tgt := 34) hx hb dX11_heard_25 (by decide) ?_
      refine lv_aload_n hx hb dX11_heard_34 rfl (lv_at hl 2 rfl) ?_
      refine rg_12_0 C hW (mx_ rfl) tw_364 dX11_heard_35 ?_
      refine lv_aload_n hx hb dX11_heard_38 rfl (lv_at hl 1 rfl) ?_
      refine rg_9_5 C hW (List.mem_append_right _ hm1) tw_436 dX11_heard_39 ?_
      refine lv_topi (fun x7 (e7 : x7 = I 9 5 o1) => ?_)
      have t7 : x7.toInt = (I 9 5 o1).toInt := by rw [e7]
      refine lv_aload_n hx hb dX11_heard_42 rfl (lv_at hl 1 rfl) ?_
      refine rg_9_3 C hW (List.mem_append_right _ hm1) tw_432 dX11_heard_43 ?_
      refine lv_topi (fun x8 (e8 : x8 = I 9 3 o1) => ?_)
      have t8 : x8.toInt = (I 9 3 o1).toInt := by rw [e8]
      refine lv_iload_n hx hb dX11_heard_46 rfl (lv_at hl 3 rfl) ?_
      refine cv_ C hW (runV (x := (g.2.2.1 4)) (As := [.int x7, .int x8, .int a0]) (rest := []) (T := ((J, L, I, P, E, N), sgX g ++ dy)) C hW (c_X3_carry_e l g J L I P E N dy H.size x7 x8 a0 hwf (show NTR (P 6 0) (elt E P 20) (J 101) (J 20 2).toInt from hnt) (show INJ E P 20 (J 20 2).toInt from hij) (show CUR (P 1 0) (I 1 1) (I 1 2) (elt E P 21) (elt E P 20) (J 105) (J 106) (J 107) (J 21 2).toInt (J 20 2).toInt from hcu)) mi_X3_carry tw_527 (recv_ (T := ((J, L, I, P, E, N), sgX g ++ dy)) C hW (mx_ rfl) rfl rfl) ⟨rfl, rfl, Nat.le_of_ble_eq_true rfl, Nat.le_of_ble_eq_true rfl⟩ rfl hl.1 rfl (Nat.le_of_ble_eq_true rfl) dX11_heard_47 ⟨Nat.le_of_ble_eq_true rfl, Nat.le_of_ble_eq_true rfl⟩) (fun u9 H locs hp9 hW => ?_)
      have hf9_0 : (SND (fun k => u9 6 7 (elt E P 20 k)) (J 101) (fun k => I 6 1 (elt E P 20 k)) (fun k => I 6 3 (elt E P 20 k)) (fun k => I 6 5 (elt E P 20 k)) (CUTP (J 105) (J 106) (J 107) (J 21 2).toInt a0.toInt) x7 x8 (J 20 2).toInt) := hp9
      clear hp9
      have hW : WB g A s.heap H locs (J, L, (hv I [] [(6, 6), (6, 7)] u9), P, E, N) (sgX g ++ dy) := hW
      have hS := hf9_0
      refine lv_aload_n hx hb dX11_heard_50 rfl (lv_at hl 2 rfl) ?_
      refine rg_12_0 C hW (mx_ rfl) tw_364 dX11_heard_51 ?_
      refine lv_aload hx hb dX11_heard_54 (lv_at hl 0 rfl) ?_
      refine lv_aload_n hx hb dX11_heard_56 rfl (lv_at hl 1 rfl) ?_
      refine lv_iload_n hx hb dX11_heard_57 rfl (lv_at hl 3 rfl) ?_
      refine ci_ C hW (runV (x := (g.2.2.1 4)) (As := [.ref o5, .ref o1, .int a0]) (rest := []) (T := ((J, L, (hv I [] [(6, 6), (6, 7)] u9), P, E, N), sgX g ++ dy)) C hW (c_X3_howHeard_e l g J L (hv I [] [(6, 6), (6, 7)] u9) P E N dy H.size o5 hm5 o1 hm1 a0 hwf (show 0 ≤ a0.toInt ∧ a0.toInt ≤ 9999 from by omega)) mi_X3_howHeard tw_727 (recv_ (T := ((J, L, (hv I [] [(6, 6), (6, 7)] u9), P, E, N), sgX g ++ dy)) C hW (mx_ rfl) rfl rfl) ⟨rfl, rfl, Nat.le_of_ble_eq_true rfl, Nat.le_of_ble_eq_true rfl⟩ rfl hl.1 rfl (Nat.le_of_ble_eq_true rfl) dX11_heard_58 ⟨Nat.le_of_ble_eq_true rfl, Nat.le_of_ble_eq_true rfl⟩) (fun r10 u10 H locs hp10 hW => ?_)
      have hf10_0 : (∀ b : Nat, P 2 0 o5 = some b → r10.toInt = HWV ((hv I [] [(6, 6), (6, 7)] u9) 9 2 o1) ((hv I [] [(6, 6), (6, 7)] u9) 2 2 o5) ((hv I [] [(6, 6), (6, 7)] u9) 2 3 o5) a0.toInt (J 4 5 * (hv I [] [(6, 6), (6, 7)] u9) 2 1 o5).toInt ((hv I [] [(6, 6), (6, 7)] u9) 6 7 b).toInt) := hp10
      clear hp10
      have hW : WB g A s.heap H locs (J, L, (hv I [] [(6, 6), (6, 7)] u9), P, E, N) (sgX g ++ dy) := hW
      have hB := hf10_0
      rw [e7.trans hsV1, e8.trans hsT1] at hS
      obtain ⟨h91, -, -, h94, h95, h96, -⟩ := hhm a1.toNatClampNeg (by have h8 := tcl a1; omega)
      rw [← ho5] at h91 h94 h95 h96
      have hb9 := hB _ h91
      rw [show (hv I [] [(6, 6), (6, 7)] u9) 9 2 o1 = J 116 a0.toNatClampNeg from hsK1, show (hv I [] [(6, 6), (6, 7)] u9) 2 2 o5 = J 110 a1.toNatClampNeg from h95, show (hv I [] [(6, 6), (6, 7)] u9) 2 3 o5 = J 111 a1.toNatClampNeg from h96, show (hv I [] [(6, 6), (6, 7)] u9) 2 1 o5 = J 109 a1.toNatClampNeg from h94] at hb9
      have hWr : WB g A s.heap H locs ((hv J [42] [] J), L, (hv I [] [(6, 6), (6, 7)] (hv I [] [(6, 6), (6, 7)] u9)), P, E, N) (sgX g ++ dy) := by
        rw [← ag_hvE (J := J) (R := [42]) (F := []) ag_rf]
        rw [← ag_hvE (J := I) (R := []) (F := [(6, 6), (6, 7)]) (ag_hv rfl rfl ag_rf)]
        exact hW
      subst hQ9
      exact end_i C hr hlocks (J, (hv I [] [(6, 6), (6, 7)] u9)) hWr (by first | exact Or.inr (⟨by first | rfl | assumption, by omega, show (∃ x : Nat → Int32, SND x (J 101) (fun k => I 6 1 (elt E P 20 k)) (fun k => I 6 3 (elt E P 20 k)) (fun k => I 6 5 (elt E P 20 k)) (CUTP (J 105) (J 106) (J 107) (J 21 2).toInt a0.toInt) (J 118 a0.toNatClampNeg) (J 120 a0.toNatClampNeg) (J 20 2).toInt ∧ r10.toInt = HWV (J 116 a0.toNatClampNeg) (J 110 a1.toNatClampNeg) (J 111 a1.toNatClampNeg) a0.toInt (J 4 5 * J 109 a1.toNatClampNeg).toInt (x (J 108 a1.toNatClampNeg).toNatClampNeg).toInt) from (by exact ⟨_, hS, hb9⟩)⟩)) dX11_heard_61
