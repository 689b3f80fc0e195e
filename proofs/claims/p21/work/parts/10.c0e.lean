/-- kept apart from omega -/
def HID (p : Prop) : Prop := p
theorem hid_i {p : Prop} (h : p) : HID p := h
theorem hid_o {p : Prop} (h : HID p) : p := h
theorem st_l {r : Int} {P Q : Prop} (h : (¬ r = 0 ∧ P) ∨ (r = 0 ∧ Q)) (hr : ¬ r = 0) : P := by
  rcases h with ⟨-, h⟩ | ⟨h, -⟩
  · exact h
  · exact absurd h hr
theorem st_r {r : Int} {P Q : Prop} (h : (¬ r = 0 ∧ P) ∨ (r = 0 ∧ Q)) (hr : r = 0) : Q := by
  rcases h with ⟨h, -⟩ | ⟨-, h⟩
  · exact absurd hr h
  · exact h
/-- the bytes that the reference goes through: the tape, or a text from its base on -/
def RBY (b : Int32) (t x : Nat → Int32) : Nat → Int32 := fun i => if b.toInt < 0 then t i else x (b.toInt.toNat + i)
theorem rby_n {b : Int32} {t x : Nat → Int32} (h : b.toInt < 0) : RBY b t x = t := by funext i; exact if_pos h
theorem rby_p {b : Int32} {t x : Nat → Int32} {i k : Nat} (h : 0 ≤ b.toInt) (e : k = b.toInt.toNat + i) : RBY b t x i = x k := by subst e; exact if_neg (by omega)
def LTR (x : Nat → Int32) : Int → Int32 := fun c => x c.toNat
theorem v_let {L : Int → Int32} {c : Int} {x : Int32} (h : isl c) (hx : x = L c) : VAL L [-c] x := by rw [hx]; exact val_let h
theorem dz {f : Nat → Int} {a b : Int} (h : a = b) (hd : isd (f a.toNat)) : isd (f b.toNat) := h ▸ hd
section PZ3
variable {nx : Nat → Int} {m d p q : Nat} {L : Int → Int32}
theorem rn {v : Int} (hd : isd (nx p)) (h : pnum nx 5 p 0 = (q, v)) : PT nx 4 d p q [v] := by
  have h1 := un_n (d := d) hd
  rw [h] at h1; exact h1
theorem un_z (hq : q = p) (h : ¬ nx p = 40) (h1 : ¬ isd (nx q)) (h2 : ¬ isl (nx p)) : PF nx 4 d p q := by
  subst hq; exact un_x h h1 h2
theorem rn_l (h : isl (nx p)) (hq : q = p + 1) : PT nx 4 d p q [-(nx p)] := by subst hq; exact un_l h
theorem ct_step3 {r cur p1 : Nat} {a b : List Int} (hr : r = 1 ∨ r = 3) (h : CT nx r d cur m p a) (hs : sgn r (nx cur)) (hp : p1 = cur + 1) (h1 : PT nx (r + 1) d p1 q b) : CT nx r d q m p (a ++ (b ++ [-(nx cur)])) := by
  subst hp; exact ct_step hr h hs h1
theorem val_op2 {s : Int} {a b : List Int} {v w x : Int32} (hs : 42 ≤ s ∧ s ≤ 62) (ha : VAL L a v) (hb : VAL L b w) (hx : opj s v w = x) : VAL L (a ++ (b ++ [-s])) x := by
  rw [← hx]; exact val_op hs ha hb
/-- the step of a sum or a product: what the rest's next piece makes of it -/
theorem stp {r cur p1 : Nat} {a : List Int} {v w x : Int32} {k : Int} {G : Prop} (hr : r = 1 ∨ r = 3) (h : CT nx r d cur m p a) (hv : VAL L a v) (hs : sgn r (nx cur)) (hp : p1 = cur + 1) (hB : (¬ k = 0 ∧ G ∧ ∃ b, PT nx (r + 1) d p1 q b ∧ VAL L b w) ∨ (k = 0 ∧ PF nx (r + 1) d p1 q)) (hx : opj (nx cur) v w = x) : (¬ k = 0 ∧ G ∧ ∃ c, CT nx r d q m p c ∧ VAL L c x) ∨ (k = 0 ∧ PF nx m d p q) := by
  rcases hB with ⟨h1, h2, b, h3, h4⟩ | ⟨h1, h2⟩
  · exact Or.inl ⟨h1, h2, _, ct_step3 hr h hs hp h3, val_op2 (by omega) hv h4 hx⟩
  · exact Or.inr ⟨h1, ct_fail2 hr h hs hp h2⟩
theorem sti {w : Int32} {k : Int} {G : Prop} (hm : m = 0 ∨ m = 2) (hB : (¬ k = 0 ∧ G ∧ ∃ b, PT nx (m + 2) d p q b ∧ VAL L b w) ∨ (k = 0 ∧ PF nx (m + 2) d p q)) : (¬ k = 0 ∧ G ∧ ∃ c, CT nx (m + 1) d q m p c ∧ VAL L c w) ∨ (k = 0 ∧ PF nx m d p q) := by
  rcases hB with ⟨h1, h2, b, h3, h4⟩ | ⟨h1, h2⟩
  · exact Or.inl ⟨h1, h2, _, ct_init hm h3, h4⟩
  · exact Or.inr ⟨h1, su_f hm h2⟩
theorem rb_x {p1 : Nat} {k : Int} {G : Prop} {w : Int32} (h : nx p = 40) (hp1 : p1 = p + 1) (hA : (¬ k = 0 ∧ G ∧ ∃ c, PT nx 0 d p1 q c ∧ VAL L c w) ∨ (k = 0 ∧ PF nx 0 d p1 q)) (hc : k = 0 ∨ ¬ cmc (nx q)) (hx : k = 0 ∨ ¬ nx q = 41) : PF nx 4 (d + 1) p q := by
  rcases hA with ⟨h1, h2, b, h3, h4⟩ | ⟨h1, h2⟩
  · exact bk_x2 h hp1 h3 (by omega) (by omega)
  · exact bk_f2 h hp1 h2
theorem rb_y {p1 p2 q' : Nat} {k : Int} {G : Prop} {w : Int32} {a : List Int} (h : nx p = 40) (hp1 : p1 = p + 1) (h1 : PT nx 0 d p1 q a) (h2 : cmc (nx q)) (hp2 : p2 = q + 1) (hB : (¬ k = 0 ∧ G ∧ ∃ c, PT nx 0 d p2 q' c ∧ VAL L c w) ∨ (k = 0 ∧ PF nx 0 d p2 q')) (hx : k = 0 ∨ ¬ nx q' = 41) : PF nx 4 (d + 1) p q' := by
  rcases hB with ⟨h3, h4, b, h5, h6⟩ | ⟨h3, h4⟩
  · exact bk_cx2 h hp1 h1 h2 hp2 h5 (by omega)
  · exact bk_cf2 h hp1 h1 h2 hp2 h4
theorem pf_dq {d' q' : Nat} (e : d' = d) (e2 : q' = q) (h : PF nx m d p q) : PF nx m d' p q' := by rw [e, e2]; exact h
theorem bk_ct3 {p1 p2 q' q2 : Nat} {a b : List Int} (h : nx p = 40) (hp1 : p1 = p + 1) (h1 : PT nx 0 d p1 q a) (h2 : cmc (nx q)) (hp2 : p2 = q + 1) (h3 : PT nx 0 d p2 q' b) (h4 : nx q' = 41) (hq : q2 = q' + 1) : PT nx 4 (d + 1) p q2 (a ++ (b ++ [-(nx q)])) := by
  subst hp1; subst hp2; subst hq
  rw [← List.append_assoc]; exact bk_ct h h1 h2 h3 h4
end PZ3
abbrev SUMC_e (d : Nat) : Prop := ∀ (l : Launch) (g : gG) (J : Nat → Nat → Int32) (L : Nat → Nat → Int64) (I : Nat → Nat → Nat → Int32) (P : Nat → Nat → Nat → Option Nat) (E : Nat → Option Nat) (N : Nat → Nat) (sz : Nat)  (hwm : WM J) (hat : 0 ≤ (J 13 56).toInt) (hps : ((J 13 58).toInt < 0 ∧ (J 13 59).toInt ≤ 60) ∨ (0 ≤ (J 13 58).toInt ∧ (J 13 58).toInt + (J 13 59).toInt ≤ 1800)) (hd : ¬ (J 13 60).toInt = 0 ∧ (J 13 57).toInt = 5 - (d : Int)) (hd5 : (d : Int) ≤ 5), Met l yX12_sum (WS yX12_sum cX12_sum 4 (some .int)) (RM (4 * d + 8) 0 0) (PC g [.ref (g.2.2.1 13)] ((J, L, I, P, E, N), sgM g) sz) (va_Qi (fun (r : Int32) (u : (Nat → Nat → Int32)) => ((¬ (u 13 60).toInt = 0 ∧ ((u 13 57).toInt = 5 - (d : Int)) ∧ ∃ c, PT (NX (RBY (J 13 58) (J 153) (J 124)) (J 13 59)) 0 (d : Nat) (J 13 56).toInt.toNat (u 13 56).toInt.toNat c ∧ VAL (LTR (J 154)) c r) ∨ ((u 13 60).toInt = 0 ∧ PF (NX (RBY (J 13 58) (J 153) (J 124)) (J 13 59)) 0 (d : Nat) (J 13 56).toInt.toNat (u 13 56).toInt.toNat)) ∧ ((J 13 56).toInt ≤ (u 13 56).toInt)) (fun u t => at_ g (FR g ((J, L, I, P, E, N), sgM g) sz) ((hv J [] [(13, 56), (13, 57), (13, 60)] u, L, I, P, E, N), sgM g) t) (FR g ((J, L, I, P, E, N), sgM g) sz)) 0 0 (FR g ((J, L, I, P, E, N), sgM g) sz)
abbrev TERMC_e (d : Nat) : Prop := ∀ (l : Launch) (g : gG) (J : Nat → Nat → Int32) (L : Nat → Nat → Int64) (I : Nat → Nat → Nat → Int32) (P : Nat → Nat → Nat → Option Nat) (E : Nat → Option Nat) (N : Nat → Nat) (sz : Nat)  (hwm : WM J) (hat : 0 ≤ (J 13 56).toInt) (hps : ((J 13 58).toInt < 0 ∧ (J 13 59).toInt ≤ 60) ∨ (0 ≤ (J 13 58).toInt ∧ (J 13 58).toInt + (J 13 59).toInt ≤ 1800)) (hd : ¬ (J 13 60).toInt = 0 ∧ (J 13 57).toInt = 5 - (d : Int)) (hd5 : (d : Int) ≤ 5), Met l yX12_term (WS yX12_term cX12_term 4 (some .int)) (RM (4 * d + 7) 0 0) (PC g [.ref (g.2.2.1 13)] ((J, L, I, P, E, N), sgM g) sz) (va_Qi (fun (r : Int32) (u : (Nat → Nat → Int32)) => ((¬ (u 13 60).toInt = 0 ∧ ((u 13 57).toInt = 5 - (d : Int)) ∧ ∃ c, PT (NX (RBY (J 13 58) (J 153) (J 124)) (J 13 59)) 2 (d : Nat) (J 13 56).toInt.toNat (u 13 56).toInt.toNat c ∧ VAL (LTR (J 154)) c r) ∨ ((u 13 60).toInt = 0 ∧ PF (NX (RBY (J 13 58) (J 153) (J 124)) (J 13 59)) 2 (d : Nat) (J 13 56).toInt.toNat (u 13 56).toInt.toNat)) ∧ ((J 13 56).toInt ≤ (u 13 56).toInt)) (fun u t => at_ g (FR g ((J, L, I, P, E, N), sgM g) sz) ((hv J [] [(13, 56), (13, 57), (13, 60)] u, L, I, P, E, N), sgM g) t) (FR g ((J, L, I, P, E, N), sgM g) sz)) 0 0 (FR g ((J, L, I, P, E, N), sgM g) sz)
abbrev UNITC_e (d : Nat) : Prop := ∀ (l : Launch) (g : gG) (J : Nat → Nat → Int32) (L : Nat → Nat → Int64) (I : Nat → Nat → Nat → Int32) (P : Nat → Nat → Nat → Option Nat) (E : Nat → Option Nat) (N : Nat → Nat) (sz : Nat)  (hwm : WM J) (hat : 0 ≤ (J 13 56).toInt) (hps : ((J 13 58).toInt < 0 ∧ (J 13 59).toInt ≤ 60) ∨ (0 ≤ (J 13 58).toInt ∧ (J 13 58).toInt + (J 13 59).toInt ≤ 1800)) (hd : ¬ (J 13 60).toInt = 0 ∧ (J 13 57).toInt = 5 - (d : Int)) (hd5 : (d : Int) ≤ 5), Met l yX12_unit (WS yX12_unit cX12_unit 5 (some .int)) (RM (4 * d + 6) 0 0) (PC g [.ref (g.2.2.1 13)] ((J, L, I, P, E, N), sgM g) sz) (va_Qi (fun (r : Int32) (u : (Nat → Nat → Int32)) => ((¬ (u 13 60).toInt = 0 ∧ ((u 13 57).toInt = 5 - (d : Int)) ∧ ∃ c, PT (NX (RBY (J 13 58) (J 153) (J 124)) (J 13 59)) 4 (d : Nat) (J 13 56).toInt.toNat (u 13 56).toInt.toNat c ∧ VAL (LTR (J 154)) c r) ∨ ((u 13 60).toInt = 0 ∧ PF (NX (RBY (J 13 58) (J 153) (J 124)) (J 13 59)) 4 (d : Nat) (J 13 56).toInt.toNat (u 13 56).toInt.toNat)) ∧ ((J 13 56).toInt ≤ (u 13 56).toInt)) (fun u t => at_ g (FR g ((J, L, I, P, E, N), sgM g) sz) ((hv J [] [(13, 56), (13, 57), (13, 60)] u, L, I, P, E, N), sgM g) t) (FR g ((J, L, I, P, E, N), sgM g) sz)) 0 0 (FR g ((J, L, I, P, E, N), sgM g) sz)
set_option maxHeartbeats 4000000 in
set_option maxRecDepth 100000 in
theorem c_X12_isLetter_e (l : Launch) (g : gG) (J : Nat → Nat → Int32) (L : Nat → Nat → Int64) (I : Nat → Nat → Nat → Int32) (P : Nat → Nat → Nat → Option Nat) (E : Nat → Option Nat) (N : Nat → Nat) (sz : Nat) (a0 : Int32)  : Met l yX12_isLetter (WS yX12_isLetter cX12_isLetter 1 (some .boolean)) (RM (1) 0 0) (PC g [.int a0] ((J, L, I, P, E, N), sgM g) sz) (va_Qi (fun (r : Int32) (u : Unit) => ((r.toInt = 1 ∧ ((a0.toInt = 107 ∨ a0.toInt = 104 ∨ a0.toInt = 118 ∨ a0.toInt = 115 ∨ a0.toInt = 109 ∨ a0.toInt = 119 ∨ a0.toInt = 97 ∨ a0.toInt = 110))) ∨ (r.toInt = 0 ∧ (¬ (a0.toInt = 107 ∨ a0.toInt = 104 ∨ a0.toInt = 118 ∨ a0.toInt = 115 ∨ a0.toInt = 109 ∨ a0.toInt = 119 ∨ a0.toInt = 97 ∨ a0.toInt = 110))))) (fun u t => at_ g (FR g ((J, L, I, P, E, N), sgM g) sz) ((J, L, I, P, E, N), sgM g) t) (FR g ((J, L, I, P, E, N), sgM g) sz)) 0 0 (FR g ((J, L, I, P, E, N), sgM g) sz) := by
  refine ent (by decide +kernel) (Nat.le_of_ble_eq_true rfl) ?_
  intro p e s m below meth c ls hsz C hW hr hlocks hname hl
  generalize FR g ((J, L, I, P, E, N), sgM g) sz = A at C hW ⊢
  have hx := C.1.1
  have hb := C.1.2.1
  have hts := C.1.2.2.2.2
  have hW : WB g A s.heap s.heap [] (J, L, I, P, E, N) (sgM g) := hW
  have hl : lv_has ls 1 [(0, .int a0)] := hl
  obtain ⟨H, hH⟩ : ∃ H : Heap, H = s.heap := ⟨_, rfl⟩
  obtain ⟨locs, hlocs⟩ : ∃ q : List Loc, q = [] := ⟨_, rfl⟩
  have hW : WB g A s.heap H locs (J, L, I, P, E, N) (sgM g) := by rw [hH, hlocs]; exact hW
  refine start_ hH hlocs ?_
  refine lv_iload_n hx hb dX12_isLetter_0 rfl (lv_at hl 0 rfl) ?_
  refine lv_bipush (v := 107) hx hb dX12_isLetter_1 (by decide) ?_
  refine lv_icmp_eq (tgt := 48) hx hb dX12_isLetter_3 (by decide) (fun c1 => ?_) (fun c1 => ?_)
  · have c1 : a0.toInt = 107 := teq rfl kp107 c1
    refine lv_iconst (v := 1) hx hb dX12_isLetter_48 (by decide) ?_
    refine lv_goto (tgt := 53) hx hb dX12_isLetter_49 (by decide) ?_
    exact end_z C hr hlocks (by decide) () hW (by first | exact Or.inl ⟨by decide, by omega⟩) dX12_isLetter_53
  · have c1 : ¬ a0.toInt = 107 := tne rfl kp107 c1
    refine lv_iload_n hx hb dX12_isLetter_6 rfl (lv_at hl 0 rfl) ?_
    refine lv_bipush (v := 104) hx hb dX12_isLetter_7 (by decide) ?_
    refine lv_icmp_eq (tgt := 48) hx hb dX12_isLetter_9 (by decide) (fun c2 => ?_) (fun c2 => ?_)
    · have c2 : a0.toInt = 104 := teq rfl kp104 c2
      refine lv_iconst (v := 1) hx hb dX12_isLetter_48 (by decide) ?_
      refine lv_goto (tgt := 53) hx hb dX12_isLetter_49 (by decide) ?_
      exact end_z C hr hlocks (by decide) () hW (by first | exact Or.inl ⟨by decide, by omega⟩) dX12_isLetter_53
    · have c2 : ¬ a0.toInt = 104 := tne rfl kp104 c2
      refine lv_iload_n hx hb dX12_isLetter_12 rfl (lv_at hl 0 rfl) ?_
      refine lv_bipush (v := 118) hx hb dX12_isLetter_13 (by decide) ?_
      refine lv_icmp_eq (tgt := 48) hx hb dX12_isLetter_15 (by decide) (fun c3 => ?_) (fun c3 => ?_)
      · have c3 : a0.toInt = 118 := teq rfl kp118 c3
        refine lv_iconst (v := 1) hx hb dX12_isLetter_48 (by decide) ?_
        refine lv_goto (tgt := 53) hx hb dX12_isLetter_49 (by decide) ?_
        exact end_z C hr hlocks (by decide) () hW (by first | exact Or.inl ⟨by decide, by omega⟩) dX12_isLetter_53
      · have c3 : ¬ a0.toInt = 118 := tne rfl kp118 c3
        refine lv_iload_n hx hb dX12_isLetter_18 rfl (lv_at hl 0 rfl) ?_
        refine lv_bipush (v := 115) hx hb dX12_isLetter_19 (by decide) ?_
        refine lv_icmp_eq (tgt := 48) hx hb dX12_isLetter_21 (by decide) (fun c4 => ?_) (fun c4 => ?_)
        · have c4 : a0.toInt = 115 := teq rfl kp115 c4
          refine lv_iconst (v := 1) hx hb dX12_isLetter_48 (by decide) ?_
          refine lv_goto (tgt := 53) hx hb dX12_isLetter_49 (by decide) ?_
          exact end_z C hr hlocks (by decide) () hW (by first | exact Or.inl ⟨by decide, by omega⟩) dX12_isLetter_53
        · have c4 : ¬ a0.toInt = 115 := tne rfl kp115 c4
          refine lv_iload_n hx hb dX12_isLetter_24 rfl (lv_at hl 0 rfl) ?_
          refine lv_bipush (v := 109) hx hb dX12_isLetter_25 (by decide) ?_
          refine lv_icmp_eq (tgt := 48) hx hb dX12_isLetter_27 (by decide) (fun c5 => ?_) (fun c5 => ?_)
          · have c5 : a0.toInt = 109 := teq rfl kp109 c5
            refine lv_iconst (v := 1) hx hb dX12_isLetter_48 (by decide) ?_
            refine lv_goto (tgt := 53) hx hb dX12_isLetter_49 (by decide) ?_
            exact end_z C hr hlocks (by decide) () hW (by first | exact Or.inl ⟨by decide, by omega⟩) dX12_isLetter_53
          · have c5 : ¬ a0.toInt = 109 := tne rfl kp109 c5
            refine lv_iload_n hx hb dX12_isLetter_30 rfl (lv_at hl 0 rfl) ?_
            refine lv_bipush (v := 119) hx hb dX12_isLetter_31 (by decide) ?_
            refine lv_icmp_eq (tgt := 48) hx hb dX12_isLetter_33 (by decide) (fun c6 => ?_) (fun c6 => ?_)
            · have c6 : a0.toInt = 119 := teq rfl kp119 c6
              refine lv_iconst (v := 1) hx hb dX12_isLetter_48 (by decide) ?_
              refine lv_goto (tgt := 53) hx hb dX12_isLetter_49 (by decide) ?_
              exact end_z C hr hlocks (by decide) () hW (by first | exact Or.inl ⟨by decide, by omega⟩) dX12_isLetter_53
            · have c6 : ¬ a0.toInt = 119 := tne rfl kp119 c6
              refine lv_iload_n hx hb dX12_isLetter_36 rfl (lv_at hl 0 rfl) ?_
              refine lv_bipush (v := 97) hx hb dX12_isLetter_37 (by decide) ?_
              refine lv_icmp_eq (tgt := 48) hx hb dX12_isLetter_39 (by decide) (fun c7 => ?_) (fun c7 => ?_)
              · have c7 : a0.toInt = 97 := teq rfl kp97 c7
                refine lv_iconst (v := 1) hx hb dX12_isLetter_48 (by decide) ?_
                refine lv_goto (tgt := 53) hx hb dX12_isLetter_49 (by decide) ?_
                exact end_z C hr hlocks (by decide) () hW (by first | exact Or.inl ⟨by decide, by omega⟩) dX12_isLetter_53
              · have c7 : ¬ a0.toInt = 97 := tne rfl kp97 c7
                refine lv_iload_n hx hb dX12_isLetter_42 rfl (lv_at hl 0 rfl) ?_
                refine lv_bipush (v := 110) hx hb dX12_isLetter_43 (by decide) ?_
                refine lv_icmp_ne (tgt := 52) hx hb dX12_isLetter_45 (by decide) (fun c8 => ?_) (fun c8 => ?_)
                · have c8 : ¬ a0.toInt = 110 := tne rfl kp110 c8
                  refine lv_iconst (v := 0) hx hb dX12_isLetter_52 (by decide) ?_
                  exact end_z C hr hlocks (by decide) () hW (by first | exact Or.inr (⟨by decide, by omega⟩)) dX12_isLetter_53
                · have c8 : a0.toInt = 110 := teq rfl kp110 c8
                  refine lv_iconst (v := 1) hx hb dX12_isLetter_48 (by decide) ?_
                  refine lv_goto (tgt := 53) hx hb dX12_isLetter_49 (by decide) ?_
                  exact end_z C hr hlocks (by decide) () hW (by first | exact Or.inl ⟨by decide, by omega⟩) dX12_isLetter_53

set_option maxHeartbeats 4000000 in
set_option maxRecDepth 100000 in
theorem c_X12_held_e (l : Launch) (g : gG) (J : Nat → Nat → Int32) (L : Nat → Nat → Int64) (I : Nat → Nat → Nat → Int32) (P : Nat → Nat → Nat → Option Nat) (E : Nat → Option Nat) (N : Nat → Nat) (sz : Nat) (a0 : Int64)  : Met l yX12_held (WS yX12_held cX12_held 2 (some .int)) (RM (1) 0 0) (PC g [.long a0] ((J, L, I, P, E, N), sgM g) sz) (va_Qi (fun (r : Int32) (u : Unit) => (r = hld a0)) (fun u t => at_ g (FR g ((J, L, I, P, E, N), sgM g) sz) ((J, L, I, P, E, N), sgM g) t) (FR g ((J, L, I, P, E, N), sgM g) sz)) 0 0 (FR g ((J, L, I, P, E, N), sgM g) sz) := by
  refine ent (by decide +kernel) (Nat.le_of_ble_eq_true rfl) ?_
  intro p e s m below meth c ls hsz C hW hr hlocks hname hl
  generalize FR g ((J, L, I, P, E, N), sgM g) sz = A at C hW ⊢
  have hx := C.1.1
  have hb := C.1.2.1
  have hts := C.1.2.2.2.2
  have hW : WB g A s.heap s.heap [] (J, L, I, P, E, N) (sgM g) := hW
  have hl : lv_has ls 2 [(0, .long a0)] := hl
  obtain ⟨H, hH⟩ : ∃ H : Heap, H = s.heap := ⟨_, rfl⟩
  obtain ⟨locs, hlocs⟩ : ∃ q : List Loc, q = [] := ⟨_, rfl⟩
  have hW : WB g A s.heap H locs (J, L, I, P, E, N) (sgM g) := by rw [hH, hlocs]; exact hW
  refine start_ hH hlocs ?_
  refine lv_lload_n hx hb dX12_held_0 rfl (lv_at hl 0 rfl) ?_
  refine lv_ldc2 hx hb C.1.2.2.2.1 (hts _ tw_1376) dX12_held_1 ?_
  refine W.lcmp hx hb dX12_held_4 ?_
  refine lv_topi (fun x1 (e1 : x1 = lg_cmp a0 (1000000000 : Int64)) => ?_)
  refine lv_if_le (tgt := 14) hx hb dX12_held_5 (by decide) (fun c2 => ?_) (fun c2 => ?_)
  · have c2 : x1.toInt ≤ 0 := tle rfl kp0 c2
    refine lv_lload_n hx hb dX12_held_14 rfl (lv_at hl 0 rfl) ?_
    refine lv_ldc2 hx hb C.1.2.2.2.1 (hts _ tw_1377) dX12_held_15 ?_
    refine W.lcmp hx hb dX12_held_18 ?_
    refine lv_topi (fun x3 (e3 : x3 = lg_cmp a0 (-1000000000 : Int64)) => ?_)
    refine lv_if_ge (tgt := 28) hx hb dX12_held_19 (by decide) (fun c4 => ?_) (fun c4 => ?_)
    · have c4 : 0 ≤ x3.toInt := tle kp0 rfl c4
      refine lv_lload_n hx hb dX12_held_28 rfl (lv_at hl 0 rfl) ?_
      refine lv_l2i (v := a0.toInt32) hx hb dX12_held_29 rfl ?_
      refine lv_topi (fun x5 (e5 : x5 = a0.toInt32) => ?_)
      exact end_i C hr hlocks () hW (show x5 = hld a0 from by first | exact hl_m e1 c2 e3 c4 e5 | exact hl_lo e1 c2 e3 c4 e6 | exact hl_hi e1 c2 e7) dX12_held_30
    · have c4 : x3.toInt < 0 := tnle kp0 rfl c4
      refine lv_ldc2 hx hb C.1.2.2.2.1 (hts _ tw_1377) dX12_held_22 ?_
      refine lv_goto (tgt := 29) hx hb dX12_held_25 (by decide) ?_
      refine lv_l2i (v := (-1000000000 : Int64).toInt32) hx hb dX12_held_29 rfl ?_
      refine lv_topi (fun x6 (e6 : x6 = (-1000000000 : Int64).toInt32) => ?_)
      exact end_i C hr hlocks () hW (show x6 = hld a0 from by first | exact hl_m e1 c2 e3 c4 e5 | exact hl_lo e1 c2 e3 c4 e6 | exact hl_hi e1 c2 e7) dX12_held_30
  · have c2 : 0 < x1.toInt := tnle rfl kp0 c2
    refine lv_ldc2 hx hb C.1.2.2.2.1 (hts _ tw_1376) dX12_held_8 ?_
    refine lv_goto (tgt := 29) hx hb dX12_held_11 (by decide) ?_
    refine lv_l2i (v := (1000000000 : Int64).toInt32) hx hb dX12_held_29 rfl ?_
    refine lv_topi (fun x7 (e7 : x7 = (1000000000 : Int64).toInt32) => ?_)
    exact end_i C hr hlocks () hW (show x7 = hld a0 from by first | exact hl_m e1 c2 e3 c4 e5 | exact hl_lo e1 c2 e3 c4 e6 | exact hl_hi e1 c2 e7) dX12_held_30

set_option maxHeartbeats 4000000 in
set_option maxRecDepth 100000 in
theorem c_X12_breaksOff_e (l : Launch) (g : gG) (J : Nat → Nat → Int32) (L : Nat → Nat → Int64) (I : Nat → Nat → Nat → Int32) (P : Nat → Nat → Nat → Option Nat) (E : Nat → Option Nat) (N : Nat → Nat) (sz : Nat)  (hwm : WM J) : Met l yX12_breaksOff (WS yX12_breaksOff cX12_breaksOff 1 (some .int)) (RM (1) 0 0) (PC g [.ref (g.2.2.1 13)] ((J, L, I, P, E, N), sgM g) sz) (va_Qi (fun (r : Int32) (u : (Nat → Nat → Int32)) => ((r.toInt = 0)) ∧ ((u 13 60).toInt = 0)) (fun u t => at_ g (FR g ((J, L, I, P, E, N), sgM g) sz) ((hv J [] [(13, 60)] u, L, I, P, E, N), sgM g) t) (FR g ((J, L, I, P, E, N), sgM g) sz)) 0 0 (FR g ((J, L, I, P, E, N), sgM g) sz) := by
  refine ent (by decide +kernel) (Nat.le_of_ble_eq_true rfl) ?_
  intro p e s m below meth c ls hsz C hW hr hlocks hname hl
  generalize FR g ((J, L, I, P, E, N), sgM g) sz = A at C hW ⊢
  have hx := C.1.1
  have hb := C.1.2.1
  have hts := C.1.2.2.2.2
  have hW : WB g A s.heap s.heap [] (J, L, I, P, E, N) (sgM g) := hW
  have hl : lv_has ls 1 [(0, .ref (g.2.2.1 13))] := hl
  obtain ⟨H, hH⟩ : ∃ H : Heap, H = s.heap := ⟨_, rfl⟩
  obtain ⟨locs, hlocs⟩ : ∃ q : List Loc, q = [] := ⟨_, rfl⟩
  have hW : WB g A s.heap H locs (J, L, I, P, E, N) (sgM g) := by rw [hH, hlocs]; exact hW
  obtain ⟨⟨hnd1, hnd2, hon, hhm1, hhm2, hhN, hcu1, hcu2, hco1, hco2, hcN⟩, ⟨hrd1, hrd2⟩, ⟨hnw1, hnw2, hns1, hns2, hof⟩, ⟨htm1, htm2, hts_⟩, ⟨had1, had2, hrw1, hrw2, htp1, htp2⟩⟩ := id hwm
  refine start_ hH hlocs ?_
  refine lv_aload_n hx hb dX12_breaksOff_0 rfl (lv_at hl 0 rfl) ?_
  refine lv_iconst (v := 0) hx hb dX12_breaksOff_1 (by decide) ?_
  refine rp_13_60 C hW (mm_ rfl) tw_1083 (by decide) dX12_breaksOff_2 (fun H locs hW => ?_)
  refine lv_iconst (v := 0) hx hb dX12_breaksOff_5 (by decide) ?_
  have hWr : WB g A s.heap H locs (hv J [] [(13, 60)] (up2 J 13 60 0), L, I, P, E, N) (sgM g) := by
    rw [← ag_hvE (J := J) (R := []) (F := [(13, 60)]) (ag_up (Or.inr rfl) ag_rf)]
    exact hW
  exact end_i C hr hlocks (up2 J 13 60 0) hWr ⟨by first | exact (by decide), show ((0 : Int32)).toInt = 0 from by exact kp0⟩ dX12_breaksOff_6

set_option maxHeartbeats 4000000 in
set_option maxRecDepth 100000 in
theorem c_X12_sign_e (l : Launch) (g : gG) (J : Nat → Nat → Int32) (L : Nat → Nat → Int64) (I : Nat → Nat → Nat → Int32) (P : Nat → Nat → Nat → Option Nat) (E : Nat → Option Nat) (N : Nat → Nat) (sz : Nat)  (hwm : WM J) (hat : 0 ≤ (J 13 56).toInt) (hps : ((J 13 58).toInt < 0 ∧ (J 13 59).toInt ≤ 60) ∨ (0 ≤ (J 13 58).toInt ∧ (J 13 58).toInt + (J 13 59).toInt ≤ 1800)) : Met l yX12_sign (WS yX12_sign cX12_sign 1 (some .int)) (RM (1) 0 0) (PC g [.ref (g.2.2.1 13)] ((J, L, I, P, E, N), sgM g) sz) (va_Qi (fun (r : Int32) (u : Unit) => (r.toInt = (NX (RBY (J 13 58) (J 153) (J 124)) (J 13 59)) (J 13 56).toInt.toNat) ∧ (r.toInt = -1 ∨ (J 13 56).toInt < (J 13 59).toInt)) (fun u t => at_ g (FR g ((J, L, I, P, E, N), sgM g) sz) ((J, L, I, P, E, N), sgM g) t) (FR g ((J, L, I, P, E, N), sgM g) sz)) 0 0 (FR g ((J, L, I, P, E, N), sgM g) sz) := by
  refine ent (by decide +kernel) (Nat.le_of_ble_eq_true rfl) ?_
  intro p e s m below meth c ls hsz C hW hr hlocks hname hl
  generalize FR g ((J, L, I, P, E, N), sgM g) sz = A at C hW ⊢
  have hx := C.1.1
  have hb := C.1.2.1
  have hts := C.1.2.2.2.2
  have hW : WB g A s.heap s.heap [] (J, L, I, P, E, N) (sgM g) := hW
  have hl : lv_has ls 1 [(0, .ref (g.2.2.1 13))] := hl
  obtain ⟨H, hH⟩ : ∃ H : Heap, H = s.heap := ⟨_, rfl⟩
  obtain ⟨locs, hlocs⟩ : ∃ q : List Loc, q = [] := ⟨_, rfl⟩
  have hW : WB g A s.heap H locs (J, L, I, P, E, N) (sgM g) := by rw [hH, hlocs]; exact hW
  obtain ⟨⟨hnd1, hnd2, hon, hhm1, hhm2, hhN, hcu1, hcu2, hco1, hco2, hcN⟩, ⟨hrd1, hrd2⟩, ⟨hnw1, hnw2, hns1, hns2, hof⟩, ⟨htm1, htm2, hts_⟩, ⟨had1, had2, hrw1, hrw2, htp1, htp2⟩⟩ := id hwm
  refine start_ hH hlocs ?_
  refine lv_aload_n hx hb dX12_sign_0 rfl (lv_at hl 0 rfl) ?_
  refine rg_13_56 C hW (mm_ rfl) tw_1079 dX12_sign_1 ?_
  refine lv_aload_n hx hb dX12_sign_4 rfl (lv_at hl 0 rfl) ?_
  refine rg_13_59 C hW (mm_ rfl) tw_1082 dX12_sign_5 ?_
  refine lv_icmp_lt (tgt := 15) hx hb dX12_sign_8 (by decide) (fun c1 => ?_) (fun c1 => ?_)
  · have c1 : (J 13 56).toInt < (J 13 59).toInt := tlt rfl rfl c1
    refine lv_aload_n hx hb dX12_sign_15 rfl (lv_at hl 0 rfl) ?_
    refine rg_13_58 C hW (mm_ rfl) tw_1081 dX12_sign_16 ?_
    refine lv_if_ge (tgt := 34) hx hb dX12_sign_19 (by decide) (fun c2 => ?_) (fun c2 => ?_)
    · have c2 : 0 ≤ (J 13 58).toInt := tle kp0 rfl c2
      refine lv_aload_n hx hb dX12_sign_34 rfl (lv_at hl 0 rfl) ?_
      refine rg_13_24 C hW (mm_ rfl) tw_1047 dX12_sign_35 ?_
      refine lv_aload_n hx hb dX12_sign_38 rfl (lv_at hl 0 rfl) ?_
      refine rg_13_58 C hW (mm_ rfl) tw_1081 dX12_sign_39 ?_
      refine lv_aload_n hx hb dX12_sign_42 rfl (lv_at hl 0 rfl) ?_
      refine rg_13_56 C hW (mm_ rfl) tw_1079 dX12_sign_43 ?_
      refine lv_iadd hx hb dX12_sign_46 ?_
      refine lv_topi (fun x3 (e3 : x3 = (J 13 58) + (J 13 56)) => ?_)
      try have t3 : x3.toInt = (J 13 58).toInt + (J 13 56).toInt := tadd e3 rfl rfl (by omega)
      have hin : vp_in x3 1800 := tin rfl (by omega)
      refine ra_124 C hW (mm_ rfl) hin dX12_sign_47 ?_
      refine lv_topi (fun x4 (e4 : x4 = J 124 x3.toNatClampNeg) => ?_)
      exact end_i C hr hlocks () hW ⟨show x4.toInt = (NX (RBY (J 13 58) (J 153) (J 124)) (J 13 59)) (J 13 56).toInt.toNat from by (rw [nx_at (by omega), rby_p (k := x3.toNatClampNeg) (by omega) (by have h8 := tcl x3; omega)]; exact congrArg Int32.toInt e4), show x4.toInt = -1 ∨ (J 13 56).toInt < (J 13 59).toInt from by first | exact Or.inl rfl | omega⟩ dX12_sign_48
    · have c2 : (J 13 58).toInt < 0 := tnle kp0 rfl c2
      refine lv_aload_n hx hb dX12_sign_22 rfl (lv_at hl 0 rfl) ?_
      refine rg_13_53 C hW (mm_ rfl) tw_1076 dX12_sign_23 ?_
      refine lv_aload_n hx hb dX12_sign_26 rfl (lv_at hl 0 rfl) ?_
      refine rg_13_56 C hW (mm_ rfl) tw_1079 dX12_sign_27 ?_
      have hin : vp_in (J 13 56) 60 := tin rfl (by omega)
      refine ra_153 C hW (mm_ rfl) hin dX12_sign_30 ?_
      refine lv_topi (fun x5 (e5 : x5 = J 153 ((J 13 56).toNatClampNeg)) => ?_)
      refine lv_goto (tgt := 48) hx hb dX12_sign_31 (by decide) ?_
      exact end_i C hr hlocks () hW ⟨show x5.toInt = (NX (RBY (J 13 58) (J 153) (J 124)) (J 13 59)) (J 13 56).toInt.toNat from by (rw [nx_at (by omega), rby_n (by omega)]; exact congrArg Int32.toInt e5), show x5.toInt = -1 ∨ (J 13 56).toInt < (J 13 59).toInt from by first | exact Or.inl rfl | omega⟩ dX12_sign_48
  · have c1 : (J 13 59).toInt ≤ (J 13 56).toInt := tnlt rfl rfl c1
    refine lv_iconst (v := (-1)) hx hb dX12_sign_11 (by decide) ?_
    refine lv_goto (tgt := 48) hx hb dX12_sign_12 (by decide) ?_
    exact end_i C hr hlocks () hW ⟨show (-1) = (NX (RBY (J 13 58) (J 153) (J 124)) (J 13 59)) (J 13 56).toInt.toNat from by exact (nx_end (by omega)).symm, show (-1) = -1 ∨ (J 13 56).toInt < (J 13 59).toInt from by first | exact Or.inl rfl | omega⟩ dX12_sign_48

set_option maxHeartbeats 4000000 in
set_option maxRecDepth 100000 in
theorem c_X12_takes_e (l : Launch) (g : gG) (J : Nat → Nat → Int32) (L : Nat → Nat → Int64) (I : Nat → Nat → Nat → Int32) (P : Nat → Nat → Nat → Option Nat) (E : Nat → Option Nat) (N : Nat → Nat) (sz : Nat) (a0 : Int32) (hwm : WM J) (hat : 0 ≤ (J 13 56).toInt) (hps : ((J 13 58).toInt < 0 ∧ (J 13 59).toInt ≤ 60) ∨ (0 ≤ (J 13 58).toInt ∧ (J 13 58).toInt + (J 13 59).toInt ≤ 1800)) (hc0 : 0 ≤ a0.toInt) : Met l yX12_takes (WS yX12_takes cX12_takes 2 (some .boolean)) (RM (2) 0 0) (PC g [.ref (g.2.2.1 13), .int a0] ((J, L, I, P, E, N), sgM g) sz) (va_Qi (fun (r : Int32) (u : (Nat → Nat → Int32)) => ((r.toInt = 1 ∧ (¬ (J 13 60).toInt = 0) ∧ ((NX (RBY (J 13 58) (J 153) (J 124)) (J 13 59)) (J 13 56).toInt.toNat = a0.toInt) ∧ ((u 13 56).toInt = (J 13 56).toInt + 1)) ∨ (r.toInt = 0 ∧ ((J 13 60).toInt = 0 ∨ ¬ (NX (RBY (J 13 58) (J 153) (J 124)) (J 13 59)) (J 13 56).toInt.toNat = a0.toInt) ∧ ((u 13 56).toInt = (J 13 56).toInt)))) (fun u t => at_ g (FR g ((J, L, I, P, E, N), sgM g) sz) ((hv J [] [(13, 56)] u, L, I, P, E, N), sgM g) t) (FR g ((J, L, I, P, E, N), sgM g) sz)) 0 0 (FR g ((J, L, I, P, E, N), sgM g) sz) := by
  refine ent (by decide +kernel) (Nat.le_of_ble_eq_true rfl) ?_
  intro p e s m below meth c ls hsz C hW hr hlocks hname hl
  generalize FR g ((J, L, I, P, E, N), sgM g) sz = A at C hW ⊢
  have hx := C.1.1
  have hb := C.1.2.1
  have hts := C.1.2.2.2.2
  have hW : WB g A s.heap s.heap [] (J, L, I, P, E, N) (sgM g) := hW
  have hl : lv_has ls 2 [(0, .ref (g.2.2.1 13)), (1, .int a0)] := hl
  obtain ⟨H, hH⟩ : ∃ H : Heap, H = s.heap := ⟨_, rfl⟩
  obtain ⟨locs, hlocs⟩ : ∃ q : List Loc, q = [] := ⟨_, rfl⟩
  have hW : WB g A s.heap H locs (J, L, I, P, E, N) (sgM g) := by rw [hH, hlocs]; exact hW
  obtain ⟨⟨hnd1, hnd2, hon, hhm1, hhm2, hhN, hcu1, hcu2, hco1, hco2, hcN⟩, ⟨hrd1, hrd2⟩, ⟨hnw1, hnw2, hns1, hns2, hof⟩, ⟨htm1, htm2, hts_⟩, ⟨had1, had2, hrw1, hrw2, htp1, htp2⟩⟩ := id hwm
  refine start_ hH hlocs ?_
  refine lv_aload_n hx hb dX12_takes_0 rfl (lv_at hl 0 rfl) ?_
  refine rg_13_60 C hW (mm_ rfl) tw_1083 dX12_takes_1 ?_
  refine lv_if_eq (tgt := 15) hx hb dX12_takes_4 (by decide) (fun c1 => ?_) (fun c1 => ?_)
  · have c1 : (J 13 60).toInt = 0 := teq rfl kp0 c1
    refine lv_iconst (v := 0) hx hb dX12_takes_15 (by decide) ?_
    have hWr : WB g A s.heap H locs (hv J [] [(13, 56)] J, L, I, P, E, N) (sgM g) := by
      rw [← ag_hvE (J := J) (R := []) (F := [(13, 56)]) ag_rf]
      exact hW
    exact end_z C hr hlocks (by decide) J hWr (by first | exact Or.inr (⟨by decide, show ((J 13 60).toInt = 0 ∨ ¬ (NX (RBY (J 13 58) (J 153) (J 124)) (J 13 59)) (J 13 56).toInt.toNat = a0.toInt) from by omega, show ((J 13 56).toInt = (J 13 56).toInt) from by omega⟩)) dX12_takes_16
  · have c1 : ¬ (J 13 60).toInt = 0 := tne rfl kp0 c1
    refine lv_aload_n hx hb dX12_takes_7 rfl (lv_at hl 0 rfl) ?_
    refine ci_ C hW (runV (x := (g.2.2.1 13)) (As := []) (rest := []) (T := ((J, L, I, P, E, N), sgM g)) C hW (c_X12_sign_e l g J L I P E N H.size  hwm (show 0 ≤ (J 13 56).toInt from by omega) (show ((J 13 58).toInt < 0 ∧ (J 13 59).toInt ≤ 60) ∨ (0 ≤ (J 13 58).toInt ∧ (J 13 58).toInt + (J 13 59).toInt ≤ 1800) from by omega)) mi_X12_sign tw_1358 (recv_ (T := ((J, L, I, P, E, N), sgM g)) C hW (mm_ rfl) rfl rfl) ⟨rfl, rfl, Nat.le_of_ble_eq_true rfl, Nat.le_of_ble_eq_true rfl⟩ rfl hl.1 rfl (Nat.le_of_ble_eq_true rfl) dX12_takes_8 ⟨Nat.le_of_ble_eq_true rfl, Nat.le_of_ble_eq_true rfl⟩) (fun r2 u2 H locs hp2 hW => ?_)
    obtain ⟨hf2_0, hf2_1⟩ : (r2.toInt = (NX (RBY (J 13 58) (J 153) (J 124)) (J 13 59)) (J 13 56).toInt.toNat) ∧ (r2.toInt = -1 ∨ (J 13 56).toInt < (J 13 59).toInt) := hp2
    have hW : WB g A s.heap H locs (J, L, I, P, E, N) (sgM g) := hW
    refine lv_iload_n hx hb dX12_takes_11 rfl (lv_at hl 1 rfl) ?_
    refine lv_icmp_eq (tgt := 17) hx hb dX12_takes_12 (by decide) (fun c3 => ?_) (fun c3 => ?_)
    · have c3 : r2.toInt = a0.toInt := teq rfl rfl c3
      refine lv_aload_n hx hb dX12_takes_17 rfl (lv_at hl 0 rfl) ?_
      refine lv_dup hx hb dX12_takes_18 rfl ?_
      refine rg_13_56 C hW (mm_ rfl) tw_1079 dX12_takes_19 ?_
      refine lv_iconst (v := 1) hx hb dX12_takes_22 (by decide) ?_
      refine lv_iadd hx hb dX12_takes_23 ?_
      refine lv_topi (fun x4 (e4 : x4 = (J 13 56) + 1) => ?_)
      try have t4 : x4.toInt = (J 13 56).toInt + 1 := tadd e4 rfl kp1 (by omega)
      refine rp_13_56 C hW (mm_ rfl) tw_1079 dX12_takes_24 (fun H locs hW => ?_)
      refine lv_iconst (v := 1) hx hb dX12_takes_27 (by decide) ?_
      have hWr : WB g A s.heap H locs (hv J [] [(13, 56)] (up2 J 13 56 x4), L, I, P, E, N) (sgM g) := by
        rw [← ag_hvE (J := J) (R := []) (F := [(13, 56)]) (ag_up (Or.inr rfl) ag_rf)]
        exact hW
      exact end_z C hr hlocks (by decide) (up2 J 13 56 x4) hWr (by first | exact Or.inl ⟨by decide, show (¬ (J 13 60).toInt = 0) from by omega, show ((NX (RBY (J 13 58) (J 153) (J 124)) (J 13 59)) (J 13 56).toInt.toNat = a0.toInt) from by omega, show ((x4).toInt = (J 13 56).toInt + 1) from by omega⟩) dX12_takes_28
    · have c3 : ¬ r2.toInt = a0.toInt := tne rfl rfl c3
      refine lv_iconst (v := 0) hx hb dX12_takes_15 (by decide) ?_
      have hWr : WB g A s.heap H locs (hv J [] [(13, 56)] J, L, I, P, E, N) (sgM g) := by
        rw [← ag_hvE (J := J) (R := []) (F := [(13, 56)]) ag_rf]
        exact hW
      exact end_z C hr hlocks (by decide) J hWr (by first | exact Or.inr (⟨by decide, show ((J 13 60).toInt = 0 ∨ ¬ (NX (RBY (J 13 58) (J 153) (J 124)) (J 13 59)) (J 13 56).toInt.toNat = a0.toInt) from by omega, show ((J 13 56).toInt = (J 13 56).toInt) from by omega⟩)) dX12_takes_16

set_option maxHeartbeats 4000000 in
set_option maxRecDepth 100000 in
theorem c_X12_unit_e (d : Nat) (hs : ∀ k : Nat, d = k + 1 → SUMC_e k) (l : Launch) (g : gG) (J : Nat → Nat → Int32) (L : Nat → Nat → Int64) (I : Nat → Nat → Nat → Int32) (P : Nat → Nat → Nat → Option Nat) (E : Nat → Option Nat) (N : Nat → Nat) (sz : Nat)  (hwm : WM J) (hat : 0 ≤ (J 13 56).toInt) (hps : ((J 13 58).toInt < 0 ∧ (J 13 59).toInt ≤ 60) ∨ (0 ≤ (J 13 58).toInt ∧ (J 13 58).toInt + (J 13 59).toInt ≤ 1800)) (hd : ¬ (J 13 60).toInt = 0 ∧ (J 13 57).toInt = 5 - (d : Int)) (hd5 : (d : Int) ≤ 5) : Met l yX12_unit (WS yX12_unit cX12_unit 5 (some .int)) (RM (4 * d + 6) 0 0) (PC g [.ref (g.2.2.1 13)] ((J, L, I, P, E, N), sgM g) sz) (va_Qi (fun (r : Int32) (u : (Nat → Nat → Int32)) => ((¬ (u 13 60).toInt = 0 ∧ ((u 13 57).toInt = 5 - (d : Int)) ∧ ∃ c, PT (NX (RBY (J 13 58) (J 153) (J 124)) (J 13 59)) 4 (d : Nat) (J 13 56).toInt.toNat (u 13 56).toInt.toNat c ∧ VAL (LTR (J 154)) c r) ∨ ((u 13 60).toInt = 0 ∧ PF (NX (RBY (J 13 58) (J 153) (J 124)) (J 13 59)) 4 (d : Nat) (J 13 56).toInt.toNat (u 13 56).toInt.toNat)) ∧ ((J 13 56).toInt ≤ (u 13 56).toInt)) (fun u t => at_ g (FR g ((J, L, I, P, E, N), sgM g) sz) ((hv J [] [(13, 56), (13, 57), (13, 60)] u, L, I, P, E, N), sgM g) t) (FR g ((J, L, I, P, E, N), sgM g) sz)) 0 0 (FR g ((J, L, I, P, E, N), sgM g) sz) := by
  refine ent (by decide +kernel) (Nat.le_of_ble_eq_true rfl) ?_
  intro p e s m below meth c ls hsz C hW hr hlocks hname hl
  generalize FR g ((J, L, I, P, E, N), sgM g) sz = A at C hW ⊢
  have hx := C.1.1
  have hb := C.1.2.1
  have hts := C.1.2.2.2.2
  have hW : WB g A s.heap s.heap [] (J, L, I, P, E, N) (sgM g) := hW
  have hl : lv_has ls 5 [(0, .ref (g.2.2.1 13))] := hl
  obtain ⟨H, hH⟩ : ∃ H : Heap, H = s.heap := ⟨_, rfl⟩
  obtain ⟨locs, hlocs⟩ : ∃ q : List Loc, q = [] := ⟨_, rfl⟩
  have hW : WB g A s.heap H locs (J, L, I, P, E, N) (sgM g) := by rw [hH, hlocs]; exact hW
  obtain ⟨⟨hnd1, hnd2, hon, hhm1, hhm2, hhN, hcu1, hcu2, hco1, hco2, hcN⟩, ⟨hrd1, hrd2⟩, ⟨hnw1, hnw2, hns1, hns2, hof⟩, ⟨htm1, htm2, hts_⟩, ⟨had1, had2, hrw1, hrw2, htp1, htp2⟩⟩ := id hwm
  refine start_ hH hlocs ?_
  refine lv_aload_n hx hb dX12_unit_0 rfl (lv_at hl 0 rfl) ?_
  refine rg_13_60 C hW (mm_ rfl) tw_1083 dX12_unit_1 ?_
  refine lv_if_ne (tgt := 9) hx hb dX12_unit_4 (by decide) (fun c1 => ?_) (fun c1 => ?_)
  · have c1 : ¬ (J 13 60).toInt = 0 := tne rfl kp0 c1
    refine lv_aload_n hx hb dX12_unit_9 rfl (lv_at hl 0 rfl) ?_
    refine ci_ C hW (runV (x := (g.2.2.1 13)) (As := []) (rest := []) (T := ((J, L, I, P, E, N), sgM g)) C hW (c_X12_sign_e l g J L I P E N H.size  hwm (show 0 ≤ (J 13 56).toInt from by omega) (show ((J 13 58).toInt < 0 ∧ (J 13 59).toInt ≤ 60) ∨ (0 ≤ (J 13 58).toInt ∧ (J 13 58).toInt + (J 13 59).toInt ≤ 1800) from by omega)) mi_X12_sign tw_1358 (recv_ (T := ((J, L, I, P, E, N), sgM g)) C hW (mm_ rfl) rfl rfl) ⟨rfl, rfl, by (simp only [RM]; omega), by (simp only [RM]; omega)⟩ rfl hl.1 rfl (Nat.le_of_ble_eq_true rfl) dX12_unit_10 ⟨Nat.le_of_ble_eq_true rfl, Nat.le_of_ble_eq_true rfl⟩) (fun r2 u2 H locs hp2 hW => ?_)
    obtain ⟨hf2_0, hf2_1⟩ : (r2.toInt = (NX (RBY (J 13 58) (J 153) (J 124)) (J 13 59)) (J 13 56).toInt.toNat) ∧ (r2.toInt = -1 ∨ (J 13 56).toInt < (J 13 59).toInt) := hp2
    have hW : WB g A s.heap H locs (J, L, I, P, E, N) (sgM g) := hW
    have hN := hf2_0
    refine lv_istore_n (lv' := [(1, .int r2), (0, .ref (g.2.2.1 13))]) hx hb dX12_unit_13 rfl hl (by decide) rfl (fun ls hl => ?_)
    refine lv_iload_n hx hb dX12_unit_14 rfl (lv_at hl 0 rfl) ?_
    refine ci_ C hW (runS (As := [.int r2]) (rest := []) (T := ((J, L, I, P, E, N), sgM g)) C hW (c_X12_isLetter_e l g J L I P E N H.size r2 ) mi_X12_isLetter tw_1362 ⟨rfl, rfl, by (simp only [RM]; omega), by (simp only [RM]; omega)⟩ rfl hl.1 rfl (Nat.le_of_ble_eq_true rfl) dX12_unit_15 ⟨Nat.le_of_ble_eq_true rfl, Nat.le_of_ble_eq_true rfl⟩) (fun r3 u3 H locs hp3 hW => ?_)
    have hc3 : ((r3.toInt = 1 ∧ ((r2.toInt = 107 ∨ r2.toInt = 104 ∨ r2.toInt = 118 ∨ r2.toInt = 115 ∨ r2.toInt = 109 ∨ r2.toInt = 119 ∨ r2.toInt = 97 ∨ r2.toInt = 110))) ∨ (r3.toInt = 0 ∧ (¬ (r2.toInt = 107 ∨ r2.toInt = 104 ∨ r2.toInt = 118 ∨ r2.toInt = 115 ∨ r2.toInt = 109 ∨ r2.toInt = 119 ∨ r2.toInt = 97 ∨ r2.toInt = 110)))) := hp3
    clear hp3
    have hW : WB g A s.heap H locs (J, L, I, P, E, N) (sgM g) := hW
    refine lv_if_eq (tgt := 38) hx hb dX12_unit_18 (by decide) (fun c4 => ?_) (fun c4 => ?_)
    · have c4 : r3.toInt = 0 := teq rfl kp0 c4
      have hnl := hid_i (hc3.resolve_left (fun q => by have q1 := q.1; omega)).2
      clear hc3
      refine lv_iload_n hx hb dX12_unit_38 rfl (lv_at hl 0 rfl) ?_
      refine lv_bipush (v := 40) hx hb dX12_unit_39 (by decide) ?_
      refine lv_icmp_ne (tgt := 206) hx hb dX12_unit_41 (by decide) (fun c5 => ?_) (fun c5 => ?_)
      · have c5 : ¬ r2.toInt = 40 := tne rfl kp40 c5
        refine lv_iconst (v := 0) hx hb dX12_unit_206 (by decide) ?_
        refine lv_istore_n (lv' := [(2, .int 0), (1, .int r2), (0, .ref (g.2.2.1 13))]) hx hb dX12_unit_207 rfl hl (by decide) rfl (fun ls hl => ?_)
        refine lv_iconst (v := 0) hx hb dX12_unit_208 (by decide) ?_
        refine lv_istore_n (lv' := [(3, .int 0), (2, .int 0), (1, .int r2), (0, .ref (g.2.2.1 13))]) hx hb dX12_unit_209 rfl hl (by decide) rfl (fun ls hl => ?_)
        have loop210 : ∀ (n : Nat) (m2 : Int32) (m3 : Int32) (Gl6 : Nat → Nat → Int32) (H : Heap) (locs : List Loc) (ls : Array Slot), (5 - m3.toInt).toNat < n → 0 ≤ m3.toInt ∧ m3.toInt ≤ 5 ∧ 0 ≤ (Gl6 13 56).toInt ∧ (J 13 56).toInt ≤ (Gl6 13 56).toInt → (0 ≤ m2.toInt ∧ (m3.toInt = 0 → m2.toInt ≤ 0) ∧ (m3.toInt = 1 → m2.toInt ≤ 9) ∧ (m3.toInt = 2 → m2.toInt ≤ 99) ∧ (m3.toInt = 3 → m2.toInt ≤ 999) ∧ (m3.toInt = 4 → m2.toInt ≤ 9999) ∧ (m3.toInt = 5 → m2.toInt ≤ 99999)) → (m3.toInt = 0 ∧ (Gl6 13 56).toInt = (J 13 56).toInt) ∨ (1 ≤ m3.toInt ∧ isd ((NX (RBY (J 13 58) (J 153) (J 124)) (J 13 59)) (J 13 56).toInt.toNat)) → pnum (NX (RBY (J 13 58) (J 153) (J 124)) (J 13 59)) (5 - m3.toInt).toNat (Gl6 13 56).toInt.toNat m2.toInt = pnum (NX (RBY (J 13 58) (J 153) (J 124)) (J 13 59)) 5 (J 13 56).toInt.toNat 0 → WB g A s.heap H locs ((hv J [] [(13, 56)] Gl6), L, I, P, E, N) (sgM g) → lv_has ls 5 [(3, .int m3), (2, .int m2), (1, .int r2), (0, .ref (g.2.2.1 13))] → W p l e (RM (4 * d + 6) 0 0) s m ([.ref (g.2.2.1 13)] : List Value).toArray below meth c H locs 0 0 (MQ below (va_Qi (fun (r : Int32) (u : (Nat → Nat → Int32)) => ((¬ (u 13 60).toInt = 0 ∧ ((u 13 57).toInt = 5 - (d : Int)) ∧ ∃ c, PT (NX (RBY (J 13 58) (J 153) (J 124)) (J 13 59)) 4 (d : Nat) (J 13 56).toInt.toNat (u 13 56).toInt.toNat c ∧ VAL (LTR (J 154)) c r) ∨ ((u 13 60).toInt = 0 ∧ PF (NX (RBY (J 13 58) (J 153) (J 124)) (J 13 59)) 4 (d : Nat) (J 13 56).toInt.toNat (u 13 56).toInt.toNat)) ∧ ((J 13 56).toInt ≤ (u 13 56).toInt)) (fun u t => at_ g A ((hv J [] [(13, 56), (13, 57), (13, 60)] u, L, I, P, E, N), sgM g) t) A) ([.ref (g.2.2.1 13)] : List Value).toArray s 0 0 A) (F0 m 210 ls []) := by
          intro n
          induction n with
          | zero => intro m2 m3 Gl6 H locs ls hmeas; exact absurd hmeas (Nat.not_lt_zero _)
          | succ n ih =>
            intro m2 m3 Gl6 H locs ls hmeas hi hvv hz hpn hW hl
            refine lv_iload_n hx hb dX12_unit_210 rfl (lv_at hl 0 rfl) ?_
            refine lv_iconst (v := 5) hx hb dX12_unit_211 (by decide) ?_
            refine lv_icmp_ge (tgt := 262) hx hb dX12_unit_212 (by decide) (fun c7 => ?_) (fun c7 => ?_)
            · have c7 : 5 ≤ m3.toInt := tle kp5 rfl c7
              refine lv_iload_n hx hb dX12_unit_262 rfl (lv_at hl 0 rfl) ?_
              refine lv_if_ne (tgt := 273) hx hb dX12_unit_263 (by decide) (fun c8 => ?_) (fun c8 => ?_)
              · have c8 : ¬ m3.toInt = 0 := tne rfl kp0 c8
                refine lv_iload_n hx hb dX12_unit_273 rfl (lv_at hl 1 rfl) ?_
                have hWr : WB g A s.heap H locs (hv J [] [(13, 56), (13, 57), (13, 60)] (hv J [] [(13, 56)] Gl6), L, I, P, E, N) (sgM g) := by
                  rw [← ag_hvE (J := J) (R := []) (F := [(13, 56), (13, 57), (13, 60)]) (ag_hv rfl rfl ag_rf)]
                  exact hW
                exact end_i C hr hlocks (hv J [] [(13, 56)] Gl6) hWr ⟨show (¬ (J 13 60).toInt = 0 ∧ ((J 13 57).toInt = 5 - (d : Int)) ∧ ∃ c, PT (NX (RBY (J 13 58) (J 153) (J 124)) (J 13 59)) 4 (d : Nat) (J 13 56).toInt.toNat (Gl6 13 56).toInt.toNat c ∧ VAL (LTR (J 154)) c m2) ∨ ((J 13 60).toInt = 0 ∧ PF (NX (RBY (J 13 58) (J 153) (J 124)) (J 13 59)) 4 (d : Nat) (J 13 56).toInt.toNat (Gl6 13 56).toInt.toNat) from by exact Or.inl ⟨by omega, by omega, _, rn (hz.elim (fun q => by omega) (fun q => q.2)) (pn_end hpn (by omega)), val_num (by omega) rfl⟩, show (J 13 56).toInt ≤ (Gl6 13 56).toInt from by omega⟩ dX12_unit_274
              · have c8 : m3.toInt = 0 := teq rfl kp0 c8
                exfalso; omega
            · have c7 : m3.toInt < 5 := tnle kp5 rfl c7
              refine lv_aload_n hx hb dX12_unit_215 rfl (lv_at hl 3 rfl) ?_
              refine ci_ C hW (runV (x := (g.2.2.1 13)) (As := []) (rest := []) (T := (((hv J [] [(13, 56)] Gl6), L, I, P, E, N), sgM g)) C hW (c_X12_sign_e l g (hv J [] [(13, 56)] Gl6) L I P E N H.size  hwm (show 0 ≤ (Gl6 13 56).toInt from by omega) (show ((J 13 58).toInt < 0 ∧ (J 13 59).toInt ≤ 60) ∨ (0 ≤ (J 13 58).toInt ∧ (J 13 58).toInt + (J 13 59).toInt ≤ 1800) from by omega)) mi_X12_sign tw_1358 (recv_ (T := (((hv J [] [(13, 56)] Gl6), L, I, P, E, N), sgM g)) C hW (mm_ rfl) rfl rfl) ⟨rfl, rfl, by (simp only [RM]; omega), by (simp only [RM]; omega)⟩ rfl hl.1 rfl (Nat.le_of_ble_eq_true rfl) dX12_unit_216 ⟨Nat.le_of_ble_eq_true rfl, Nat.le_of_ble_eq_true rfl⟩) (fun r9 u9 H locs hp9 hW => ?_)
              obtain ⟨hf9_0, hf9_1⟩ : (r9.toInt = (NX (RBY (J 13 58) (J 153) (J 124)) (J 13 59)) (Gl6 13 56).toInt.toNat) ∧ (r9.toInt = -1 ∨ (Gl6 13 56).toInt < (J 13 59).toInt) := hp9
              have hW : WB g A s.heap H locs ((hv J [] [(13, 56)] Gl6), L, I, P, E, N) (sgM g) := hW
              refine lv_bipush (v := 48) hx hb dX12_unit_219 (by decide) ?_
              refine lv_icmp_lt (tgt := 262) hx hb dX12_unit_221 (by decide) (fun c10 => ?_) (fun c10 => ?_)
              · have c10 : r9.toInt < 48 := tlt rfl kp48 c10
                refine lv_iload_n hx hb dX12_unit_262 rfl (lv_at hl 0 rfl) ?_
                refine lv_if_ne (tgt := 273) hx hb dX12_unit_263 (by decide) (fun c11 => ?_) (fun c11 => ?_)
                · have c11 : ¬ m3.toInt = 0 := tne rfl kp0 c11
                  refine lv_iload_n hx hb dX12_unit_273 rfl (lv_at hl 1 rfl) ?_
                  have hWr : WB g A s.heap H locs (hv J [] [(13, 56), (13, 57), (13, 60)] (hv J [] [(13, 56)] Gl6), L, I, P, E, N) (sgM g) := by
                    rw [← ag_hvE (J := J) (R := []) (F := [(13, 56), (13, 57), (13, 60)]) (ag_hv rfl rfl ag_rf)]
                    exact hW
                  exact end_i C hr hlocks (hv J [] [(13, 56)] Gl6) hWr ⟨show (¬ (J 13 60).toInt = 0 ∧ ((J 13 57).toInt = 5 - (d : Int)) ∧ ∃ c, PT (NX (RBY (J 13 58) (J 153) (J 124)) (J 13 59)) 4 (d : Nat) (J 13 56).toInt.toNat (Gl6 13 56).toInt.toNat c ∧ VAL (LTR (J 154)) c m2) ∨ ((J 13 60).toInt = 0 ∧ PF (NX (RBY (J 13 58) (J 153) (J 124)) (J 13 59)) 4 (d : Nat) (J 13 56).toInt.toNat (Gl6 13 56).toInt.toNat) from by exact Or.inl ⟨by omega, by omega, _, rn (hz.elim (fun q => by omega) (fun q => q.2)) (pn_end hpn (by omega)), val_num (by omega) rfl⟩, show (J 13 56).toInt ≤ (Gl6 13 56).toInt from by omega⟩ dX12_unit_274
                · have c11 : m3.toInt = 0 := teq rfl kp0 c11
                  refine lv_aload_n hx hb dX12_unit_266 rfl (lv_at hl 3 rfl) ?_
                  refine ci_ C hW (runV (x := (g.2.2.1 13)) (As := []) (rest := []) (T := (((hv J [] [(13, 56)] Gl6), L, I, P, E, N), sgM g)) C hW (c_X12_breaksOff_e l g (hv J [] [(13, 56)] Gl6) L I P E N H.size  hwm) mi_X12_breaksOff tw_1365 (recv_ (T := (((hv J [] [(13, 56)] Gl6), L, I, P, E, N), sgM g)) C hW (mm_ rfl) rfl rfl) ⟨rfl, rfl, by (simp only [RM]; omega), by (simp only [RM]; omega)⟩ rfl hl.1 rfl (Nat.le_of_ble_eq_true rfl) dX12_unit_267 ⟨Nat.le_of_ble_eq_true rfl, Nat.le_of_ble_eq_true rfl⟩) (fun r12 u12 H locs hp12 hW => ?_)
                  obtain ⟨hc12, hf12_0⟩ : ((r12.toInt = 0)) ∧ ((u12 13 60).toInt = 0) := hp12
                  have hW : WB g A s.heap H locs ((hv (hv J [] [(13, 56)] Gl6) [] [(13, 60)] u12), L, I, P, E, N) (sgM g) := hW
                  refine lv_goto (tgt := 274) hx hb dX12_unit_270 (by decide) ?_
                  have hWr : WB g A s.heap H locs (hv J [] [(13, 56), (13, 57), (13, 60)] (hv (hv J [] [(13, 56)] Gl6) [] [(13, 60)] u12), L, I, P, E, N) (sgM g) := by
                    rw [← ag_hvE (J := J) (R := []) (F := [(13, 56), (13, 57), (13, 60)]) (ag_hv rfl rfl (ag_hv rfl rfl ag_rf))]
                    exact hW
                  exact end_i C hr hlocks (hv (hv J [] [(13, 56)] Gl6) [] [(13, 60)] u12) hWr ⟨show (¬ (u12 13 60).toInt = 0 ∧ ((J 13 57).toInt = 5 - (d : Int)) ∧ ∃ c, PT (NX (RBY (J 13 58) (J 153) (J 124)) (J 13 59)) 4 (d : Nat) (J 13 56).toInt.toNat (Gl6 13 56).toInt.toNat c ∧ VAL (LTR (J 154)) c r12) ∨ ((u12 13 60).toInt = 0 ∧ PF (NX (RBY (J 13 58) (J 153) (J 124)) (J 13 59)) 4 (d : Nat) (J 13 56).toInt.toNat (Gl6 13 56).toInt.toNat) from by exact Or.inr ⟨by omega, un_z (by omega) (by omega) (by omega) (by have h9 := hid_o hnl; omega)⟩, show (J 13 56).toInt ≤ (Gl6 13 56).toInt from by omega⟩ dX12_unit_274
              · have c10 : 48 ≤ r9.toInt := tnlt rfl kp48 c10
                refine lv_aload_n hx hb dX12_unit_224 rfl (lv_at hl 3 rfl) ?_
                refine ci_ C hW (runV (x := (g.2.2.1 13)) (As := []) (rest := []) (T := (((hv J [] [(13, 56)] Gl6), L, I, P, E, N), sgM g)) C hW (c_X12_sign_e l g (hv J [] [(13, 56)] Gl6) L I P E N H.size  hwm (show 0 ≤ (Gl6 13 56).toInt from by omega) (show ((J 13 58).toInt < 0 ∧ (J 13 59).toInt ≤ 60) ∨ (0 ≤ (J 13 58).toInt ∧ (J 13 58).toInt + (J 13 59).toInt ≤ 1800) from by omega)) mi_X12_sign tw_1358 (recv_ (T := (((hv J [] [(13, 56)] Gl6), L, I, P, E, N), sgM g)) C hW (mm_ rfl) rfl rfl) ⟨rfl, rfl, by (simp only [RM]; omega), by (simp only [RM]; omega)⟩ rfl hl.1 rfl (Nat.le_of_ble_eq_true rfl) dX12_unit_225 ⟨Nat.le_of_ble_eq_true rfl, Nat.le_of_ble_eq_true rfl⟩) (fun r13 u13 H locs hp13 hW => ?_)
                obtain ⟨hf13_0, hf13_1⟩ : (r13.toInt = (NX (RBY (J 13 58) (J 153) (J 124)) (J 13 59)) (Gl6 13 56).toInt.toNat) ∧ (r13.toInt = -1 ∨ (Gl6 13 56).toInt < (J 13 59).toInt) := hp13
                have hW : WB g A s.heap H locs ((hv J [] [(13, 56)] Gl6), L, I, P, E, N) (sgM g) := hW
                refine lv_bipush (v := 57) hx hb dX12_unit_228 (by decide) ?_
                refine lv_icmp_gt (tgt := 262) hx hb dX12_unit_230 (by decide) (fun c14 => ?_) (fun c14 => ?_)
                · have c14 : 57 < r13.toInt := tlt kp57 rfl c14
                  refine lv_iload_n hx hb dX12_unit_262 rfl (lv_at hl 0 rfl) ?_
                  refine lv_if_ne (tgt := 273) hx hb dX12_unit_263 (by decide) (fun c15 => ?_) (fun c15 => ?_)
                  · have c15 : ¬ m3.toInt = 0 := tne rfl kp0 c15
                    refine lv_iload_n hx hb dX12_unit_273 rfl (lv_at hl 1 rfl) ?_
                    have hWr : WB g A s.heap H locs (hv J [] [(13, 56), (13, 57), (13, 60)] (hv J [] [(13, 56)] Gl6), L, I, P, E, N) (sgM g) := by
                      rw [← ag_hvE (J := J) (R := []) (F := [(13, 56), (13, 57), (13, 60)]) (ag_hv rfl rfl ag_rf)]
                      exact hW
                    exact end_i C hr hlocks (hv J [] [(13, 56)] Gl6) hWr ⟨show (¬ (J 13 60).toInt = 0 ∧ ((J 13 57).toInt = 5 - (d : Int)) ∧ ∃ c, PT (NX (RBY (J 13 58) (J 153) (J 124)) (J 13 59)) 4 (d : Nat) (J 13 56).toInt.toNat (Gl6 13 56).toInt.toNat c ∧ VAL (LTR (J 154)) c m2) ∨ ((J 13 60).toInt = 0 ∧ PF (NX (RBY (J 13 58) (J 153) (J 124)) (J 13 59)) 4 (d : Nat) (J 13 56).toInt.toNat (Gl6 13 56).toInt.toNat) from by exact Or.inl ⟨by omega, by omega, _, rn (hz.elim (fun q => by omega) (fun q => q.2)) (pn_end hpn (by omega)), val_num (by omega) rfl⟩, show (J 13 56).toInt ≤ (Gl6 13 56).toInt from by omega⟩ dX12_unit_274
                  · have c15 : m3.toInt = 0 := teq rfl kp0 c15
                    refine lv_aload_n hx hb dX12_unit_266 rfl (lv_at hl 3 rfl) ?_
                    refine ci_ C hW (runV (x := (g.2.2.1 13)) (As := []) (rest := []) (T := (((hv J [] [(13, 56)] Gl6), L, I, P, E, N), sgM g)) C hW (c_X12_breaksOff_e l g (hv J [] [(13, 56)] Gl6) L I P E N H.size  hwm) mi_X12_breaksOff tw_1365 (recv_ (T := (((hv J [] [(13, 56)] Gl6), L, I, P, E, N), sgM g)) C hW (mm_ rfl) rfl rfl) ⟨rfl, rfl, by (simp only [RM]; omega), by (simp only [RM]; omega)⟩ rfl hl.1 rfl (Nat.le_of_ble_eq_true rfl) dX12_unit_267 ⟨Nat.le_of_ble_eq_true rfl, Nat.le_of_ble_eq_true rfl⟩) (fun r16 u16 H locs hp16 hW => ?_)
                    obtain ⟨hc16, hf16_0⟩ : ((r16.toInt = 0)) ∧ ((u16 13 60).toInt = 0) := hp16
                    have hW : WB g A s.heap H locs ((hv (hv J [] [(13, 56)] Gl6) [] [(13, 60)] u16), L, I, P, E, N) (sgM g) := hW
                    refine lv_goto (tgt := 274) hx hb dX12_unit_270 (by decide) ?_
                    have hWr : WB g A s.heap H locs (hv J [] [(13, 56), (13, 57), (13, 60)] (hv (hv J [] [(13, 56)] Gl6) [] [(13, 60)] u16), L, I, P, E, N) (sgM g) := by
                      rw [← ag_hvE (J := J) (R := []) (F := [(13, 56), (13, 57), (13, 60)]) (ag_hv rfl rfl (ag_hv rfl rfl ag_rf))]
                      exact hW
                    exact end_i C hr hlocks (hv (hv J [] [(13, 56)] Gl6) [] [(13, 60)] u16) hWr ⟨show (¬ (u16 13 60).toInt = 0 ∧ ((J 13 57).toInt = 5 - (d : Int)) ∧ ∃ c, PT (NX (RBY (J 13 58) (J 153) (J 124)) (J 13 59)) 4 (d : Nat) (J 13 56).toInt.toNat (Gl6 13 56).toInt.toNat c ∧ VAL (LTR (J 154)) c r16) ∨ ((u16 13 60).toInt = 0 ∧ PF (NX (RBY (J 13 58) (J 153) (J 124)) (J 13 59)) 4 (d : Nat) (J 13 56).toInt.toNat (Gl6 13 56).toInt.toNat) from by exact Or.inr ⟨by omega, un_z (by omega) (by omega) (by omega) (by have h9 := hid_o hnl; omega)⟩, show (J 13 56).toInt ≤ (Gl6 13 56).toInt from by omega⟩ dX12_unit_274
                · have c14 : r13.toInt ≤ 57 := tnlt kp57 rfl c14
                  refine lv_bipush (v := 10) hx hb dX12_unit_233 (by decide) ?_
                  refine lv_iload_n hx hb dX12_unit_235 rfl (lv_at hl 1 rfl) ?_
                  refine lv_imul hx hb dX12_unit_236 ?_
                  refine lv_topi (fun x17 (e17 : x17 = 10 * m2) => ?_)
                  try have t17 : x17.toInt = 10 * m2.toInt := tmul e17 kp10 rfl (by omega)
                  refine lv_aload_n hx hb dX12_unit_237 rfl (lv_at hl 3 rfl) ?_
                  refine ci_ C hW (runV (x := (g.2.2.1 13)) (As := []) (rest := [.int x17]) (T := (((hv J [] [(13, 56)] Gl6), L, I, P, E, N), sgM g)) C hW (c_X12_sign_e l g (hv J [] [(13, 56)] Gl6) L I P E N H.size  hwm (show 0 ≤ (Gl6 13 56).toInt from by omega) (show ((J 13 58).toInt < 0 ∧ (J 13 59).toInt ≤ 60) ∨ (0 ≤ (J 13 58).toInt ∧ (J 13 58).toInt + (J 13 59).toInt ≤ 1800) from by omega)) mi_X12_sign tw_1358 (recv_ (T := (((hv J [] [(13, 56)] Gl6), L, I, P, E, N), sgM g)) C hW (mm_ rfl) rfl rfl) ⟨rfl, rfl, by (simp only [RM]; omega), by (simp only [RM]; omega)⟩ rfl hl.1 rfl (Nat.le_of_ble_eq_true rfl) dX12_unit_238 ⟨Nat.le_of_ble_eq_true rfl, Nat.le_of_ble_eq_true rfl⟩) (fun r18 u18 H locs hp18 hW => ?_)
                  obtain ⟨hf18_0, hf18_1⟩ : (r18.toInt = (NX (RBY (J 13 58) (J 153) (J 124)) (J 13 59)) (Gl6 13 56).toInt.toNat) ∧ (r18.toInt = -1 ∨ (Gl6 13 56).toInt < (J 13 59).toInt) := hp18
                  have hW : WB g A s.heap H locs ((hv J [] [(13, 56)] Gl6), L, I, P, E, N) (sgM g) := hW
                  refine lv_iadd hx hb dX12_unit_241 ?_
                  refine lv_topi (fun x19 (e19 : x19 = x17 + r18) => ?_)
                  try have t19 : x19.toInt = x17.toInt + r18.toInt := tadd e19 rfl rfl (by omega)
                  refine lv_bipush (v := 48) hx hb dX12_unit_242 (by decide) ?_
                  refine lv_isub hx hb dX12_unit_244 ?_
                  refine lv_topi (fun x20 (e20 : x20 = x19 - 48) => ?_)
                  try have t20 : x20.toInt = x19.toInt - 48 := tsub e20 rfl kp48 (by omega)
                  refine lv_istore_n (lv' := [(2, .int x20), (3, .int m3), (1, .int r2), (0, .ref (g.2.2.1 13))]) hx hb dX12_unit_245 rfl hl (by decide) rfl (fun ls hl => ?_)
                  refine lv_aload_n hx hb dX12_unit_246 rfl (lv_at hl 3 rfl) ?_
                  refine lv_dup hx hb dX12_unit_247 rfl ?_
                  refine rg_13_56 C hW (mm_ rfl) tw_1079 dX12_unit_248 ?_
                  refine lv_as (Gl6 13 56) rfl ?_
                  refine lv_iconst (v := 1) hx hb dX12_unit_251 (by decide) ?_
                  refine lv_iadd hx hb dX12_unit_252 ?_
                  refine lv_topi (fun x21 (e21 : x21 = (Gl6 13 56) + 1) => ?_)
                  try have t21 : x21.toInt = (Gl6 13 56).toInt + 1 := tadd e21 rfl kp1 (by omega)
                  refine rp_13_56 C hW (mm_ rfl) tw_1079 dX12_unit_253 (fun H locs hW => ?_)
                  obtain ⟨x22, e22⟩ : ∃ y : Int32, y = m3 + 1 := ⟨_, rfl⟩
                  refine lv_iinc (v := x22) (lv' := [(3, .int x22), (2, .int x20), (1, .int r2), (0, .ref (g.2.2.1 13))]) hx hb dX12_unit_256 hl (k := 1) rfl (by rw [e22]; rfl) (by decide) rfl (fun ls hl => ?_)
                  try have t22 : x22.toInt = m3.toInt + 1 := tadd e22 rfl kp1 (by omega)
                  refine lv_goto (tgt := 210) hx hb dX12_unit_259 (by decide) ?_
                  have hWl : WB g A s.heap H locs ((hv J [] [(13, 56)] (up2 (hv J [] [(13, 56)] Gl6) 13 56 x21)), L, I, P, E, N) (sgM g) := by
                    rw [← ag_hvE (J := J) (R := []) (F := [(13, 56)]) (ag_up (Or.inr rfl) (ag_hv rfl rfl ag_rf))]
                    exact hW
                  refine ih x20 x22 (up2 (hv J [] [(13, 56)] Gl6) 13 56 x21) H locs ls ?_ ?_ ?_ ?_ ?_ hWl (lv_sub hl [0, 1, 2, 3] rfl)
                  · show (5 - x22.toInt).toNat < n
                    omega
                  · show 0 ≤ x22.toInt ∧ x22.toInt ≤ 5 ∧ 0 ≤ (x21).toInt ∧ (J 13 56).toInt ≤ (x21).toInt
                    first | omega | exact hi | assumption
                  · show 0 ≤ x20.toInt ∧ (x22.toInt = 0 → x20.toInt ≤ 0) ∧ (x22.toInt = 1 → x20.toInt ≤ 9) ∧ (x22.toInt = 2 → x20.toInt ≤ 99) ∧ (x22.toInt = 3 → x20.toInt ≤ 999) ∧ (x22.toInt = 4 → x20.toInt ≤ 9999) ∧ (x22.toInt = 5 → x20.toInt ≤ 99999)
                    first | omega | exact hvv | assumption
                  · show (x22.toInt = 0 ∧ (x21).toInt = (J 13 56).toInt) ∨ (1 ≤ x22.toInt ∧ isd ((NX (RBY (J 13 58) (J 153) (J 124)) (J 13 59)) (J 13 56).toInt.toNat))
                    exact Or.inr ⟨by omega, hz.elim (fun q => dz (f := (NX (RBY (J 13 58) (J 153) (J 124)) (J 13 59))) q.2 (by omega)) (fun q => q.2)⟩
                  · show pnum (NX (RBY (J 13 58) (J 153) (J 124)) (J 13 59)) (5 - x22.toInt).toNat (x21).toInt.toNat x20.toInt = pnum (NX (RBY (J 13 58) (J 153) (J 124)) (J 13 59)) 5 (J 13 56).toInt.toNat 0
                    exact pn_step hpn (by omega) (by omega) (by omega) (by omega)
        -- into the loop
        have hWl : WB g A s.heap H locs ((hv J [] [(13, 56)] J), L, I, P, E, N) (sgM g) := by
          rw [← ag_hvE (J := J) (R := []) (F := [(13, 56)]) ag_rf]
          exact hW
        refine loop210 ((5 - (0 : Int32).toInt).toNat + 1) 0 0 J H locs ls ?_ ?_ ?_ ?_ ?_ hWl (lv_sub hl [0, 1, 2, 3] rfl)
        · exact Nat.lt_succ_self _
        · show 0 ≤ (0 : Int32).toInt ∧ (0 : Int32).toInt ≤ 5 ∧ 0 ≤ (J 13 56).toInt ∧ (J 13 56).toInt ≤ (J 13 56).toInt
          try rw [kp0]
          try rw [kp0]
          first | omega | exact hi | assumption
        · show 0 ≤ (0 : Int32).toInt ∧ ((0 : Int32).toInt = 0 → (0 : Int32).toInt ≤ 0) ∧ ((0 : Int32).toInt = 1 → (0 : Int32).toInt ≤ 9) ∧ ((0 : Int32).toInt = 2 → (0 : Int32).toInt ≤ 99) ∧ ((0 : Int32).toInt = 3 → (0 : Int32).toInt ≤ 999) ∧ ((0 : Int32).toInt = 4 → (0 : Int32).toInt ≤ 9999) ∧ ((0 : Int32).toInt = 5 → (0 : Int32).toInt ≤ 99999)
          try rw [kp0]
          try rw [kp0]
          omega
        · show ((0 : Int32).toInt = 0 ∧ (J 13 56).toInt = (J 13 56).toInt) ∨ (1 ≤ (0 : Int32).toInt ∧ isd ((NX (RBY (J 13 58) (J 153) (J 124)) (J 13 59)) (J 13 56).toInt.toNat))
          try rw [kp0]
          try rw [kp0]
          exact Or.inl ⟨kp0, rfl⟩
        · show pnum (NX (RBY (J 13 58) (J 153) (J 124)) (J 13 59)) (5 - (0 : Int32).toInt).toNat (J 13 56).toInt.toNat (0 : Int32).toInt = pnum (NX (RBY (J 13 58) (J 153) (J 124)) (J 13 59)) 5 (J 13 56).toInt.toNat 0
          try rw [kp0]
          try rw [kp0]
          rfl
      · have c5 : r2.toInt = 40 := teq rfl kp40 c5
        refine lv_aload_n hx hb dX12_unit_44 rfl (lv_at hl 1 rfl) ?_
        refine rg_13_57 C hW (mm_ rfl) tw_1080 dX12_unit_45 ?_
        refine lv_iconst (v := 5) hx hb dX12_unit_48 (by decide) ?_
        refine lv_icmp_ne (tgt := 57) hx hb dX12_unit_49 (by decide) (fun c23 => ?_) (fun c23 => ?_)
        · have c23 : ¬ (J 13 57).toInt = 5 := tne rfl kp5 c23
          obtain ⟨d1, hd1⟩ : ∃ k : Nat, d = k + 1 := ⟨d - 1, by omega⟩
          refine lv_aload_n hx hb dX12_unit_57 rfl (lv_at hl 1 rfl) ?_
          refine lv_dup hx hb dX12_unit_58 rfl ?_
          refine rg_13_56 C hW (mm_ rfl) tw_1079 dX12_unit_59 ?_
          refine lv_iconst (v := 1) hx hb dX12_unit_62 (by decide) ?_
          refine lv_iadd hx hb dX12_unit_63 ?_
          refine lv_topi (fun x24 (e24 : x24 = (J 13 56) + 1) => ?_)
          try have t24 : x24.toInt = (J 13 56).toInt + 1 := tadd e24 rfl kp1 (by omega)
          refine rp_13_56 C hW (mm_ rfl) tw_1079 dX12_unit_64 (fun H locs hW => ?_)
          refine lv_aload_n hx hb dX12_unit_67 rfl (lv_at hl 1 rfl) ?_
          refine lv_dup hx hb dX12_unit_68 rfl ?_
          refine rg_13_57 C hW (mm_ rfl) tw_1080 dX12_unit_69 ?_
          refine lv_as (J 13 57) rfl ?_
          refine lv_iconst (v := 1) hx hb dX12_unit_72 (by decide) ?_
          refine lv_iadd hx hb dX12_unit_73 ?_
          refine lv_topi (fun x25 (e25 : x25 = (J 13 57) + 1) => ?_)
          try have t25 : x25.toInt = (J 13 57).toInt + 1 := tadd e25 rfl kp1 (by omega)
          refine rp_13_57 C hW (mm_ rfl) tw_1080 dX12_unit_74 (fun H locs hW => ?_)
          refine lv_aload_n hx hb dX12_unit_77 rfl (lv_at hl 1 rfl) ?_
          refine ci_ C hW (runV (x := (g.2.2.1 13)) (As := []) (rest := []) (T := (((up2 (up2 J 13 56 x24) 13 57 x25), L, I, P, E, N), sgM g)) C hW ((hs d1 hd1) l g (up2 (up2 J 13 56 x24) 13 57 x25) L I P E N H.size  hwm (show 0 ≤ (x24).toInt from by omega) (show ((J 13 58).toInt < 0 ∧ (J 13 59).toInt ≤ 60) ∨ (0 ≤ (J 13 58).toInt ∧ (J 13 58).toInt + (J 13 59).toInt ≤ 1800) from by omega) (show ¬ (J 13 60).toInt = 0 ∧ (x25).toInt = 5 - (d1 : Int) from by omega) (show (d1 : Int) ≤ 5 from by omega)) mi_X12_sum tw_1346 (recv_ (T := (((up2 (up2 J 13 56 x24) 13 57 x25), L, I, P, E, N), sgM g)) C hW (mm_ rfl) rfl rfl) ⟨rfl, rfl, by (simp only [RM]; omega), by (simp only [RM]; omega)⟩ rfl hl.1 rfl (Nat.le_of_ble_eq_true rfl) dX12_unit_78 ⟨Nat.le_of_ble_eq_true rfl, Nat.le_of_ble_eq_true rfl⟩) (fun r26 u26 H locs hp26 hW => ?_)
          obtain ⟨hf26_0, hf26_1⟩ : ((¬ (u26 13 60).toInt = 0 ∧ ((u26 13 57).toInt = 5 - (d1 : Int)) ∧ ∃ c, PT (NX (RBY (J 13 58) (J 153) (J 124)) (J 13 59)) 0 (d1 : Nat) (x24).toInt.toNat (u26 13 56).toInt.toNat c ∧ VAL (LTR (J 154)) c r26) ∨ ((u26 13 60).toInt = 0 ∧ PF (NX (RBY (J 13 58) (J 153) (J 124)) (J 13 59)) 0 (d1 : Nat) (x24).toInt.toNat (u26 13 56).toInt.toNat)) ∧ ((x24).toInt ≤ (u26 13 56).toInt) := hp26
          have hW : WB g A s.heap H locs ((hv (up2 (up2 J 13 56 x24) 13 57 x25) [] [(13, 56), (13, 57), (13, 60)] u26), L, I, P, E, N) (sgM g) := hW
          have hA := hf26_0
          refine lv_istore_n (lv' := [(2, .int r26), (1, .int r2), (0, .ref (g.2.2.1 13))]) hx hb dX12_unit_81 rfl hl (by decide) rfl (fun ls hl => ?_)
          refine lv_aload_n hx hb dX12_unit_82 rfl (lv_at hl 2 rfl) ?_
          refine ci_ C hW (runV (x := (g.2.2.1 13)) (As := []) (rest := []) (T := (((hv (up2 (up2 J 13 56 x24) 13 57 x25) [] [(13, 56), (13, 57), (13, 60)] u26), L, I, P, E, N), sgM g)) C hW (c_X12_sign_e l g (hv (up2 (up2 J 13 56 x24) 13 57 x25) [] [(13, 56), (13, 57), (13, 60)] u26) L I P E N H.size  hwm (show 0 ≤ (u26 13 56).toInt from by omega) (show ((J 13 58).toInt < 0 ∧ (J 13 59).toInt ≤ 60) ∨ (0 ≤ (J 13 58).toInt ∧ (J 13 58).toInt + (J 13 59).toInt ≤ 1800) from by omega)) mi_X12_sign tw_1358 (recv_ (T := (((hv (up2 (up2 J 13 56 x24) 13 57 x25) [] [(13, 56), (13, 57), (13, 60)] u26), L, I, P, E, N), sgM g)) C hW (mm_ rfl) rfl rfl) ⟨rfl, rfl, by (simp only [RM]; omega), by (simp only [RM]; omega)⟩ rfl hl.1 rfl (Nat.le_of_ble_eq_true rfl) dX12_unit_83 ⟨Nat.le_of_ble_eq_true rfl, Nat.le_of_ble_eq_true rfl⟩) (fun r27 u27 H locs hp27 hW => ?_)
          obtain ⟨hf27_0, hf27_1⟩ : (r27.toInt = (NX (RBY (J 13 58) (J 153) (J 124)) (J 13 59)) (u26 13 56).toInt.toNat) ∧ (r27.toInt = -1 ∨ (u26 13 56).toInt < (J 13 59).toInt) := hp27
          have hW : WB g A s.heap H locs ((hv (up2 (up2 J 13 56 x24) 13 57 x25) [] [(13, 56), (13, 57), (13, 60)] u26), L, I, P, E, N) (sgM g) := hW
          refine lv_istore_n (lv' := [(3, .int r27), (2, .int r26), (1, .int r2), (0, .ref (g.2.2.1 13))]) hx hb dX12_unit_86 rfl hl (by decide) rfl (fun ls hl => ?_)
          refine lv_aload_n hx hb dX12_unit_87 rfl (lv_at hl 3 rfl) ?_
          refine rg_13_60 C hW (mm_ rfl) tw_1083 dX12_unit_88 ?_
          refine lv_as (u26 13 60) rfl ?_
          refine lv_if_eq (tgt := 180) hx hb dX12_unit_91 (by decide) (fun c28 => ?_) (fun c28 => ?_)
          · have c28 : (u26 13 60).toInt = 0 := teq rfl kp0 c28
            refine lv_aload_n hx hb dX12_unit_180 rfl (lv_at hl 3 rfl) ?_
            refine lv_bipush (v := 41) hx hb dX12_unit_181 (by decide) ?_
            refine ci_ C hW (runV (x := (g.2.2.1 13)) (As := [.int 41]) (rest := []) (T := (((hv (up2 (up2 J 13 56 x24) 13 57 x25) [] [(13, 56), (13, 57), (13, 60)] u26), L, I, P, E, N), sgM g)) C hW (c_X12_takes_e l g (hv (up2 (up2 J 13 56 x24) 13 57 x25) [] [(13, 56), (13, 57), (13, 60)] u26) L I P E N H.size 41 hwm (show 0 ≤ (u26 13 56).toInt from by (try simp only [kp41]); omega) (show ((J 13 58).toInt < 0 ∧ (J 13 59).toInt ≤ 60) ∨ (0 ≤ (J 13 58).toInt ∧ (J 13 58).toInt + (J 13 59).toInt ≤ 1800) from by (try simp only [kp41]); omega) (show 0 ≤ (41 : Int32).toInt from by (try simp only [kp41]); omega)) mi_X12_takes tw_1369 (recv_ (T := (((hv (up2 (up2 J 13 56 x24) 13 57 x25) [] [(13, 56), (13, 57), (13, 60)] u26), L, I, P, E, N), sgM g)) C hW (mm_ rfl) rfl rfl) ⟨rfl, rfl, by (simp only [RM]; omega), by (simp only [RM]; omega)⟩ rfl hl.1 rfl (Nat.le_of_ble_eq_true rfl) dX12_unit_183 ⟨Nat.le_of_ble_eq_true rfl, Nat.le_of_ble_eq_true rfl⟩) (fun r29 u29 H locs hp29 hW => ?_)
            have hc29 : ((r29.toInt = 1 ∧ (¬ (u26 13 60).toInt = 0) ∧ ((NX (RBY (J 13 58) (J 153) (J 124)) (J 13 59)) (u26 13 56).toInt.toNat = 41) ∧ ((u29 13 56).toInt = (u26 13 56).toInt + 1)) ∨ (r29.toInt = 0 ∧ ((u26 13 60).toInt = 0 ∨ ¬ (NX (RBY (J 13 58) (J 153) (J 124)) (J 13 59)) (u26 13 56).toInt.toNat = 41) ∧ ((u29 13 56).toInt = (u26 13 56).toInt))) := hp29
            clear hp29
            have hW : WB g A s.heap H locs ((hv (hv (up2 (up2 J 13 56 x24) 13 57 x25) [] [(13, 56), (13, 57), (13, 60)] u26) [] [(13, 56)] u29), L, I, P, E, N) (sgM g) := hW
            refine lv_if_ne (tgt := 194) hx hb dX12_unit_186 (by decide) (fun c30 => ?_) (fun c30 => ?_)
            · have c30 : ¬ r29.toInt = 0 := tne rfl kp0 c30
              refine lv_aload_n hx hb dX12_unit_194 rfl (lv_at hl 3 rfl) ?_
              refine lv_dup hx hb dX12_unit_195 rfl ?_
              refine rg_13_57 C hW (mm_ rfl) tw_1080 dX12_unit_196 ?_
              refine lv_as (u26 13 57) rfl ?_
              refine lv_iconst (v := 1) hx hb dX12_unit_199 (by decide) ?_
              refine lv_isub hx hb dX12_unit_200 ?_
              refine lv_topi (fun x31 (e31 : x31 = (u26 13 57) - 1) => ?_)
              try have t31 : x31.toInt = (u26 13 57).toInt - 1 := tsub e31 rfl kp1 (by omega)
              refine rp_13_57 C hW (mm_ rfl) tw_1080 dX12_unit_201 (fun H locs hW => ?_)
              refine lv_iload_n hx hb dX12_unit_204 rfl (lv_at hl 1 rfl) ?_
              have hWr : WB g A s.heap H locs (hv J [] [(13, 56), (13, 57), (13, 60)] (up2 (hv (hv (up2 (up2 J 13 56 x24) 13 57 x25) [] [(13, 56), (13, 57), (13, 60)] u26) [] [(13, 56)] u29) 13 57 x31), L, I, P, E, N) (sgM g) := by
                rw [← ag_hvE (J := J) (R := []) (F := [(13, 56), (13, 57), (13, 60)]) (ag_up (Or.inr rfl) (ag_hv rfl rfl (ag_hv rfl rfl (ag_up (Or.inr rfl) (ag_up (Or.inr rfl) ag_rf)))))]
                exact hW
              exact end_i C hr hlocks (up2 (hv (hv (up2 (up2 J 13 56 x24) 13 57 x25) [] [(13, 56), (13, 57), (13, 60)] u26) [] [(13, 56)] u29) 13 57 x31) hWr ⟨show (¬ (u26 13 60).toInt = 0 ∧ ((x31).toInt = 5 - (d : Int)) ∧ ∃ c, PT (NX (RBY (J 13 58) (J 153) (J 124)) (J 13 59)) 4 (d : Nat) (J 13 56).toInt.toNat (u29 13 56).toInt.toNat c ∧ VAL (LTR (J 154)) c r26) ∨ ((u26 13 60).toInt = 0 ∧ PF (NX (RBY (J 13 58) (J 153) (J 124)) (J 13 59)) 4 (d : Nat) (J 13 56).toInt.toNat (u29 13 56).toInt.toNat) from by (obtain ⟨hA1, a9, hA2, hA3⟩ := st_l hA (by omega); exact Or.inl ⟨by omega, by omega, _, pt_d hd1 (bk_t2 (by omega) (by omega) hA2 (by omega) (by omega)), hA3⟩), show (J 13 56).toInt ≤ (u29 13 56).toInt from by omega⟩ dX12_unit_205
            · have c30 : r29.toInt = 0 := teq rfl kp0 c30
              refine lv_aload_n hx hb dX12_unit_189 rfl (lv_at hl 3 rfl) ?_
              refine ci_ C hW (runV (x := (g.2.2.1 13)) (As := []) (rest := []) (T := (((hv (hv (up2 (up2 J 13 56 x24) 13 57 x25) [] [(13, 56), (13, 57), (13, 60)] u26) [] [(13, 56)] u29), L, I, P, E, N), sgM g)) C hW (c_X12_breaksOff_e l g (hv (hv (up2 (up2 J 13 56 x24) 13 57 x25) [] [(13, 56), (13, 57), (13, 60)] u26) [] [(13, 56)] u29) L I P E N H.size  hwm) mi_X12_breaksOff tw_1365 (recv_ (T := (((hv (hv (up2 (up2 J 13 56 x24) 13 57 x25) [] [(13, 56), (13, 57), (13, 60)] u26) [] [(13, 56)] u29), L, I, P, E, N), sgM g)) C hW (mm_ rfl) rfl rfl) ⟨rfl, rfl, by (simp only [RM]; omega), by (simp only [RM]; omega)⟩ rfl hl.1 rfl (Nat.le_of_ble_eq_true rfl) dX12_unit_190 ⟨Nat.le_of_ble_eq_true rfl, Nat.le_of_ble_eq_true rfl⟩) (fun r32 u32 H locs hp32 hW => ?_)
              obtain ⟨hc32, hf32_0⟩ : ((r32.toInt = 0)) ∧ ((u32 13 60).toInt = 0) := hp32
              have hW : WB g A s.heap H locs ((hv (hv (hv (up2 (up2 J 13 56 x24) 13 57 x25) [] [(13, 56), (13, 57), (13, 60)] u26) [] [(13, 56)] u29) [] [(13, 60)] u32), L, I, P, E, N) (sgM g) := hW
              have hWr : WB g A s.heap H locs (hv J [] [(13, 56), (13, 57), (13, 60)] (hv (hv (hv (up2 (up2 J 13 56 x24) 13 57 x25) [] [(13, 56), (13, 57), (13, 60)] u26) [] [(13, 56)] u29) [] [(13, 60)] u32), L, I, P, E, N) (sgM g) := by
                rw [← ag_hvE (J := J) (R := []) (F := [(13, 56), (13, 57), (13, 60)]) (ag_hv rfl rfl (ag_hv rfl rfl (ag_hv rfl rfl (ag_up (Or.inr rfl) (ag_up (Or.inr rfl) ag_rf)))))]
                exact hW
              exact end_i C hr hlocks (hv (hv (hv (up2 (up2 J 13 56 x24) 13 57 x25) [] [(13, 56), (13, 57), (13, 60)] u26) [] [(13, 56)] u29) [] [(13, 60)] u32) hWr ⟨show (¬ (u32 13 60).toInt = 0 ∧ ((u26 13 57).toInt = 5 - (d : Int)) ∧ ∃ c, PT (NX (RBY (J 13 58) (J 153) (J 124)) (J 13 59)) 4 (d : Nat) (J 13 56).toInt.toNat (u29 13 56).toInt.toNat c ∧ VAL (LTR (J 154)) c r32) ∨ ((u32 13 60).toInt = 0 ∧ PF (NX (RBY (J 13 58) (J 153) (J 124)) (J 13 59)) 4 (d : Nat) (J 13 56).toInt.toNat (u29 13 56).toInt.toNat) from by exact Or.inr ⟨by omega, pf_dq hd1 (by omega) (rb_x (by omega) (by omega) hA (by omega) (by omega))⟩, show (J 13 56).toInt ≤ (u29 13 56).toInt from by omega⟩ dX12_unit_193
          · have c28 : ¬ (u26 13 60).toInt = 0 := tne rfl kp0 c28
            refine lv_iload_n hx hb dX12_unit_94 rfl (lv_at hl 0 rfl) ?_
            refine lv_bipush (v := 60) hx hb dX12_unit_95 (by decide) ?_
            refine lv_icmp_eq (tgt := 112) hx hb dX12_unit_97 (by decide) (fun c33 => ?_) (fun c33 => ?_)
            · have c33 : r27.toInt = 60 := teq rfl kp60 c33
              obtain ⟨hA1, a9, hA2, hA3⟩ := st_l hA (by omega)
              refine lv_aload_n hx hb dX12_unit_112 rfl (lv_at hl 3 rfl) ?_
              refine lv_dup hx hb dX12_unit_113 rfl ?_
              refine rg_13_56 C hW (mm_ rfl) tw_1079 dX12_unit_114 ?_
              refine lv_as (u26 13 56) rfl ?_
              refine lv_iconst (v := 1) hx hb dX12_unit_117 (by decide) ?_
              refine lv_iadd hx hb dX12_unit_118 ?_
              refine lv_topi (fun x34 (e34 : x34 = (u26 13 56) + 1) => ?_)
              try have t34 : x34.toInt = (u26 13 56).toInt + 1 := tadd e34 rfl kp1 (by omega)
              refine rp_13_56 C hW (mm_ rfl) tw_1079 dX12_unit_119 (fun H locs hW => ?_)
              refine lv_aload_n hx hb dX12_unit_122 rfl (lv_at hl 3 rfl) ?_
              refine ci_ C hW (runV (x := (g.2.2.1 13)) (As := []) (rest := []) (T := (((up2 (hv (up2 (up2 J 13 56 x24) 13 57 x25) [] [(13, 56), (13, 57), (13, 60)] u26) 13 56 x34), L, I, P, E, N), sgM g)) C hW ((hs d1 hd1) l g (up2 (hv (up2 (up2 J 13 56 x24) 13 57 x25) [] [(13, 56), (13, 57), (13, 60)] u26) 13 56 x34) L I P E N H.size  hwm (show 0 ≤ (x34).toInt from by omega) (show ((J 13 58).toInt < 0 ∧ (J 13 59).toInt ≤ 60) ∨ (0 ≤ (J 13 58).toInt ∧ (J 13 58).toInt + (J 13 59).toInt ≤ 1800) from by omega) (show ¬ (u26 13 60).toInt = 0 ∧ (u26 13 57).toInt = 5 - (d1 : Int) from by omega) (show (d1 : Int) ≤ 5 from by omega)) mi_X12_sum tw_1346 (recv_ (T := (((up2 (hv (up2 (up2 J 13 56 x24) 13 57 x25) [] [(13, 56), (13, 57), (13, 60)] u26) 13 56 x34), L, I, P, E, N), sgM g)) C hW (mm_ rfl) rfl rfl) ⟨rfl, rfl, by (simp only [RM]; omega), by (simp only [RM]; omega)⟩ rfl hl.1 rfl (Nat.le_of_ble_eq_true rfl) dX12_unit_123 ⟨Nat.le_of_ble_eq_true rfl, Nat.le_of_ble_eq_true rfl⟩) (fun r35 u35 H locs hp35 hW => ?_)
              obtain ⟨hf35_0, hf35_1⟩ : ((¬ (u35 13 60).toInt = 0 ∧ ((u35 13 57).toInt = 5 - (d1 : Int)) ∧ ∃ c, PT (NX (RBY (J 13 58) (J 153) (J 124)) (J 13 59)) 0 (d1 : Nat) (x34).toInt.toNat (u35 13 56).toInt.toNat c ∧ VAL (LTR (J 154)) c r35) ∨ ((u35 13 60).toInt = 0 ∧ PF (NX (RBY (J 13 58) (J 153) (J 124)) (J 13 59)) 0 (d1 : Nat) (x34).toInt.toNat (u35 13 56).toInt.toNat)) ∧ ((x34).toInt ≤ (u35 13 56).toInt) := hp35
              have hW : WB g A s.heap H locs ((hv (up2 (hv (up2 (up2 J 13 56 x24) 13 57 x25) [] [(13, 56), (13, 57), (13, 60)] u26) 13 56 x34) [] [(13, 56), (13, 57), (13, 60)] u35), L, I, P, E, N) (sgM g) := hW
              have hB := hf35_0
              refine lv_istore (lv' := [(4, .int r35), (3, .int r27), (2, .int r26), (1, .int r2), (0, .ref (g.2.2.1 13))]) hx hb dX12_unit_126 hl (by decide) rfl (fun ls hl => ?_)
              refine lv_iload_n hx hb dX12_unit_128 rfl (lv_at hl 1 rfl) ?_
              refine lv_bipush (v := 60) hx hb dX12_unit_129 (by decide) ?_
              refine lv_icmp_ne (tgt := 148) hx hb dX12_unit_131 (by decide) (fun c36 => ?_) (fun c36 => ?_)
              · have c36 : ¬ r27.toInt = 60 := tne rfl kp60 c36
                exfalso; omega
              · have c36 : r27.toInt = 60 := teq rfl kp60 c36
                refine lv_iload_n hx hb dX12_unit_134 rfl (lv_at hl 2 rfl) ?_
                refine lv_iload hx hb dX12_unit_135 (lv_at hl 0 rfl) ?_
                refine lv_icmp_ge (tgt := 144) hx hb dX12_unit_137 (by decide) (fun c37 => ?_) (fun c37 => ?_)
                · have c37 : r35.toInt ≤ r26.toInt := tle rfl rfl c37
                  refine lv_iconst (v := 0) hx hb dX12_unit_144 (by decide) ?_
                  refine lv_goto (tgt := 179) hx hb dX12_unit_145 (by decide) ?_
                  refine lv_istore_n (lv' := [(2, .int 0), (4, .int r35), (3, .int r27), (1, .int r2), (0, .ref (g.2.2.1 13))]) hx hb dX12_unit_179 rfl hl (by decide) rfl (fun ls hl => ?_)
                  refine lv_aload_n hx hb dX12_unit_180 rfl (lv_at hl 4 rfl) ?_
                  refine lv_bipush (v := 41) hx hb dX12_unit_181 (by decide) ?_
                  refine ci_ C hW (runV (x := (g.2.2.1 13)) (As := [.int 41]) (rest := []) (T := (((hv (up2 (hv (up2 (up2 J 13 56 x24) 13 57 x25) [] [(13, 56), (13, 57), (13, 60)] u26) 13 56 x34) [] [(13, 56), (13, 57), (13, 60)] u35), L, I, P, E, N), sgM g)) C hW (c_X12_takes_e l g (hv (up2 (hv (up2 (up2 J 13 56 x24) 13 57 x25) [] [(13, 56), (13, 57), (13, 60)] u26) 13 56 x34) [] [(13, 56), (13, 57), (13, 60)] u35) L I P E N H.size 41 hwm (show 0 ≤ (u35 13 56).toInt from by (try simp only [kp41]); omega) (show ((J 13 58).toInt < 0 ∧ (J 13 59).toInt ≤ 60) ∨ (0 ≤ (J 13 58).toInt ∧ (J 13 58).toInt + (J 13 59).toInt ≤ 1800) from by (try simp only [kp41]); omega) (show 0 ≤ (41 : Int32).toInt from by (try simp only [kp41]); omega)) mi_X12_takes tw_1369 (recv_ (T := (((hv (up2 (hv (up2 (up2 J 13 56 x24) 13 57 x25) [] [(13, 56), (13, 57), (13, 60)] u26) 13 56 x34) [] [(13, 56), (13, 57), (13, 60)] u35), L, I, P, E, N), sgM g)) C hW (mm_ rfl) rfl rfl) ⟨rfl, rfl, by (simp only [RM]; omega), by (simp only [RM]; omega)⟩ rfl hl.1 rfl (Nat.le_of_ble_eq_true rfl) dX12_unit_183 ⟨Nat.le_of_ble_eq_true rfl, Nat.le_of_ble_eq_true rfl⟩) (fun r38 u38 H locs hp38 hW => ?_)
                  have hc38 : ((r38.toInt = 1 ∧ (¬ (u35 13 60).toInt = 0) ∧ ((NX (RBY (J 13 58) (J 153) (J 124)) (J 13 59)) (u35 13 56).toInt.toNat = 41) ∧ ((u38 13 56).toInt = (u35 13 56).toInt + 1)) ∨ (r38.toInt = 0 ∧ ((u35 13 60).toInt = 0 ∨ ¬ (NX (RBY (J 13 58) (J 153) (J 124)) (J 13 59)) (u35 13 56).toInt.toNat = 41) ∧ ((u38 13 56).toInt = (u35 13 56).toInt))) := hp38
                  clear hp38
                  have hW : WB g A s.heap H locs ((hv (hv (up2 (hv (up2 (up2 J 13 56 x24) 13 57 x25) [] [(13, 56), (13, 57), (13, 60)] u26) 13 56 x34) [] [(13, 56), (13, 57), (13, 60)] u35) [] [(13, 56)] u38), L, I, P, E, N) (sgM g) := hW
                  refine lv_if_ne (tgt := 194) hx hb dX12_unit_186 (by decide) (fun c39 => ?_) (fun c39 => ?_)
                  · have c39 : ¬ r38.toInt = 0 := tne rfl kp0 c39
                    refine lv_aload_n hx hb dX12_unit_194 rfl (lv_at hl 4 rfl) ?_
                    refine lv_dup hx hb dX12_unit_195 rfl ?_
                    refine rg_13_57 C hW (mm_ rfl) tw_1080 dX12_unit_196 ?_
                    refine lv_as (u35 13 57) rfl ?_
                    refine lv_iconst (v := 1) hx hb dX12_unit_199 (by decide) ?_
                    refine lv_isub hx hb dX12_unit_200 ?_
                    refine lv_topi (fun x40 (e40 : x40 = (u35 13 57) - 1) => ?_)
                    try have t40 : x40.toInt = (u35 13 57).toInt - 1 := tsub e40 rfl kp1 (by omega)
                    refine rp_13_57 C hW (mm_ rfl) tw_1080 dX12_unit_201 (fun H locs hW => ?_)
                    refine lv_iload_n hx hb dX12_unit_204 rfl (lv_at hl 0 rfl) ?_
                    have hWr : WB g A s.heap H locs (hv J [] [(13, 56), (13, 57), (13, 60)] (up2 (hv (hv (up2 (hv (up2 (up2 J 13 56 x24) 13 57 x25) [] [(13, 56), (13, 57), (13, 60)] u26) 13 56 x34) [] [(13, 56), (13, 57), (13, 60)] u35) [] [(13, 56)] u38) 13 57 x40), L, I, P, E, N) (sgM g) := by
                      rw [← ag_hvE (J := J) (R := []) (F := [(13, 56), (13, 57), (13, 60)]) (ag_up (Or.inr rfl) (ag_hv rfl rfl (ag_hv rfl rfl (ag_up (Or.inr rfl) (ag_hv rfl rfl (ag_up (Or.inr rfl) (ag_up (Or.inr rfl) ag_rf)))))))]
                      exact hW
                    exact end_i C hr hlocks (up2 (hv (hv (up2 (hv (up2 (up2 J 13 56 x24) 13 57 x25) [] [(13, 56), (13, 57), (13, 60)] u26) 13 56 x34) [] [(13, 56), (13, 57), (13, 60)] u35) [] [(13, 56)] u38) 13 57 x40) hWr ⟨show (¬ (u35 13 60).toInt = 0 ∧ ((x40).toInt = 5 - (d : Int)) ∧ ∃ c, PT (NX (RBY (J 13 58) (J 153) (J 124)) (J 13 59)) 4 (d : Nat) (J 13 56).toInt.toNat (u38 13 56).toInt.toNat c ∧ VAL (LTR (J 154)) c 0) ∨ ((u35 13 60).toInt = 0 ∧ PF (NX (RBY (J 13 58) (J 153) (J 124)) (J 13 59)) 4 (d : Nat) (J 13 56).toInt.toNat (u38 13 56).toInt.toNat) from by (obtain ⟨hB1, b9, hB2, hB3⟩ := st_l hB (by omega); exact Or.inl ⟨by omega, by omega, _, pt_d hd1 (bk_ct3 (by omega) (by omega) hA2 (by omega) (by omega) hB2 (by omega) (by omega)), val_op2 (by omega) hA3 hB3 (op_c0 (by omega))⟩), show (J 13 56).toInt ≤ (u38 13 56).toInt from by omega⟩ dX12_unit_205
                  · have c39 : r38.toInt = 0 := teq rfl kp0 c39
                    refine lv_aload_n hx hb dX12_unit_189 rfl (lv_at hl 4 rfl) ?_
                    refine ci_ C hW (runV (x := (g.2.2.1 13)) (As := []) (rest := []) (T := (((hv (hv (up2 (hv (up2 (up2 J 13 56 x24) 13 57 x25) [] [(13, 56), (13, 57), (13, 60)] u26) 13 56 x34) [] [(13, 56), (13, 57), (13, 60)] u35) [] [(13, 56)] u38), L, I, P, E, N), sgM g)) C hW (c_X12_breaksOff_e l g (hv (hv (up2 (hv (up2 (up2 J 13 56 x24) 13 57 x25) [] [(13, 56), (13, 57), (13, 60)] u26) 13 56 x34) [] [(13, 56), (13, 57), (13, 60)] u35) [] [(13, 56)] u38) L I P E N H.size  hwm) mi_X12_breaksOff tw_1365 (recv_ (T := (((hv (hv (up2 (hv (up2 (up2 J 13 56 x24) 13 57 x25) [] [(13, 56), (13, 57), (13, 60)] u26) 13 56 x34) [] [(13, 56), (13, 57), (13, 60)] u35) [] [(13, 56)] u38), L, I, P, E, N), sgM g)) C hW (mm_ rfl) rfl rfl) ⟨rfl, rfl, by (simp only [RM]; omega), by (simp only [RM]; omega)⟩ rfl hl.1 rfl (Nat.le_of_ble_eq_true rfl) dX12_unit_190 ⟨Nat.le_of_ble_eq_true rfl, Nat.le_of_ble_eq_true rfl⟩) (fun r41 u41 H locs hp41 hW => ?_)
                    obtain ⟨hc41, hf41_0⟩ : ((r41.toInt = 0)) ∧ ((u41 13 60).toInt = 0) := hp41
                    have hW : WB g A s.heap H locs ((hv (hv (hv (up2 (hv (up2 (up2 J 13 56 x24) 13 57 x25) [] [(13, 56), (13, 57), (13, 60)] u26) 13 56 x34) [] [(13, 56), (13, 57), (13, 60)] u35) [] [(13, 56)] u38) [] [(13, 60)] u41), L, I, P, E, N) (sgM g) := hW
                    have hWr : WB g A s.heap H locs (hv J [] [(13, 56), (13, 57), (13, 60)] (hv (hv (hv (up2 (hv (up2 (up2 J 13 56 x24) 13 57 x25) [] [(13, 56), (13, 57), (13, 60)] u26) 13 56 x34) [] [(13, 56), (13, 57), (13, 60)] u35) [] [(13, 56)] u38) [] [(13, 60)] u41), L, I, P, E, N) (sgM g) := by
                      rw [← ag_hvE (J := J) (R := []) (F := [(13, 56), (13, 57), (13, 60)]) (ag_hv rfl rfl (ag_hv rfl rfl (ag_hv rfl rfl (ag_up (Or.inr rfl) (ag_hv rfl rfl (ag_up (Or.inr rfl) (ag_up (Or.inr rfl) ag_rf)))))))]
                      exact hW
                    exact end_i C hr hlocks (hv (hv (hv (up2 (hv (up2 (up2 J 13 56 x24) 13 57 x25) [] [(13, 56), (13, 57), (13, 60)] u26) 13 56 x34) [] [(13, 56), (13, 57), (13, 60)] u35) [] [(13, 56)] u38) [] [(13, 60)] u41) hWr ⟨show (¬ (u41 13 60).toInt = 0 ∧ ((u35 13 57).toInt = 5 - (d : Int)) ∧ ∃ c, PT (NX (RBY (J 13 58) (J 153) (J 124)) (J 13 59)) 4 (d : Nat) (J 13 56).toInt.toNat (u38 13 56).toInt.toNat c ∧ VAL (LTR (J 154)) c r41) ∨ ((u41 13 60).toInt = 0 ∧ PF (NX (RBY (J 13 58) (J 153) (J 124)) (J 13 59)) 4 (d : Nat) (J 13 56).toInt.toNat (u38 13 56).toInt.toNat) from by exact Or.inr ⟨by omega, pf_dq hd1 (by omega) (rb_y (by omega) (by omega) hA2 (by omega) (by omega) hB (by omega))⟩, show (J 13 56).toInt ≤ (u38 13 56).toInt from by omega⟩ dX12_unit_193
                · have c37 : r26.toInt < r35.toInt := tnle rfl rfl c37
                  refine lv_iconst (v := 1) hx hb dX12_unit_140 (by decide) ?_
                  refine lv_goto (tgt := 179) hx hb dX12_unit_141 (by decide) ?_
                  refine lv_istore_n (lv' := [(2, .int 1), (4, .int r35), (3, .int r27), (1, .int r2), (0, .ref (g.2.2.1 13))]) hx hb dX12_unit_179 rfl hl (by decide) rfl (fun ls hl => ?_)
                  refine lv_aload_n hx hb dX12_unit_180 rfl (lv_at hl 4 rfl) ?_
                  refine lv_bipush (v := 41) hx hb dX12_unit_181 (by decide) ?_
                  refine ci_ C hW (runV (x := (g.2.2.1 13)) (As := [.int 41]) (rest := []) (T := (((hv (up2 (hv (up2 (up2 J 13 56 x24) 13 57 x25) [] [(13, 56), (13, 57), (13, 60)] u26) 13 56 x34) [] [(13, 56), (13, 57), (13, 60)] u35), L, I, P, E, N), sgM g)) C hW (c_X12_takes_e l g (hv (up2 (hv (up2 (up2 J 13 56 x24) 13 57 x25) [] [(13, 56), (13, 57), (13, 60)] u26) 13 56 x34) [] [(13, 56), (13, 57), (13, 60)] u35) L I P E N H.size 41 hwm (show 0 ≤ (u35 13 56).toInt from by (try simp only [kp41]); omega) (show ((J 13 58).toInt < 0 ∧ (J 13 59).toInt ≤ 60) ∨ (0 ≤ (J 13 58).toInt ∧ (J 13 58).toInt + (J 13 59).toInt ≤ 1800) from by (try simp only [kp41]); omega) (show 0 ≤ (41 : Int32).toInt from by (try simp only [kp41]); omega)) mi_X12_takes tw_1369 (recv_ (T := (((hv (up2 (hv (up2 (up2 J 13 56 x24) 13 57 x25) [] [(13, 56), (13, 57), (13, 60)] u26) 13 56 x34) [] [(13, 56), (13, 57), (13, 60)] u35), L, I, P, E, N), sgM g)) C hW (mm_ rfl) rfl rfl) ⟨rfl, rfl, by (simp only [RM]; omega), by (simp only [RM]; omega)⟩ rfl hl.1 rfl (Nat.le_of_ble_eq_true rfl) dX12_unit_183 ⟨Nat.le_of_ble_eq_true rfl, Nat.le_of_ble_eq_true rfl⟩) (fun r42 u42 H locs hp42 hW => ?_)
                  have hc42 : ((r42.toInt = 1 ∧ (¬ (u35 13 60).toInt = 0) ∧ ((NX (RBY (J 13 58) (J 153) (J 124)) (J 13 59)) (u35 13 56).toInt.toNat = 41) ∧ ((u42 13 56).toInt = (u35 13 56).toInt + 1)) ∨ (r42.toInt = 0 ∧ ((u35 13 60).toInt = 0 ∨ ¬ (NX (RBY (J 13 58) (J 153) (J 124)) (J 13 59)) (u35 13 56).toInt.toNat = 41) ∧ ((u42 13 56).toInt = (u35 13 56).toInt))) := hp42
                  clear hp42
                  have hW : WB g A s.heap H locs ((hv (hv (up2 (hv (up2 (up2 J 13 56 x24) 13 57 x25) [] [(13, 56), (13, 57), (13, 60)] u26) 13 56 x34) [] [(13, 56), (13, 57), (13, 60)] u35) [] [(13, 56)] u42), L, I, P, E, N) (sgM g) := hW
                  refine lv_if_ne (tgt := 194) hx hb dX12_unit_186 (by decide) (fun c43 => ?_) (fun c43 => ?_)
                  · have c43 : ¬ r42.toInt = 0 := tne rfl kp0 c43
                    refine lv_aload_n hx hb dX12_unit_194 rfl (lv_at hl 4 rfl) ?_
                    refine lv_dup hx hb dX12_unit_195 rfl ?_
                    refine rg_13_57 C hW (mm_ rfl) tw_1080 dX12_unit_196 ?_
                    refine lv_as (u35 13 57) rfl ?_
                    refine lv_iconst (v := 1) hx hb dX12_unit_199 (by decide) ?_
                    refine lv_isub hx hb dX12_unit_200 ?_
                    refine lv_topi (fun x44 (e44 : x44 = (u35 13 57) - 1) => ?_)
                    try have t44 : x44.toInt = (u35 13 57).toInt - 1 := tsub e44 rfl kp1 (by omega)
                    refine rp_13_57 C hW (mm_ rfl) tw_1080 dX12_unit_201 (fun H locs hW => ?_)
                    refine lv_iload_n hx hb dX12_unit_204 rfl (lv_at hl 0 rfl) ?_
                    have hWr : WB g A s.heap H locs (hv J [] [(13, 56), (13, 57), (13, 60)] (up2 (hv (hv (up2 (hv (up2 (up2 J 13 56 x24) 13 57 x25) [] [(13, 56), (13, 57), (13, 60)] u26) 13 56 x34) [] [(13, 56), (13, 57), (13, 60)] u35) [] [(13, 56)] u42) 13 57 x44), L, I, P, E, N) (sgM g) := by
                      rw [← ag_hvE (J := J) (R := []) (F := [(13, 56), (13, 57), (13, 60)]) (ag_up (Or.inr rfl) (ag_hv rfl rfl (ag_hv rfl rfl (ag_up (Or.inr rfl) (ag_hv rfl rfl (ag_up (Or.inr rfl) (ag_up (Or.inr rfl) ag_rf)))))))]
                      exact hW
                    exact end_i C hr hlocks (up2 (hv (hv (up2 (hv (up2 (up2 J 13 56 x24) 13 57 x25) [] [(13, 56), (13, 57), (13, 60)] u26) 13 56 x34) [] [(13, 56), (13, 57), (13, 60)] u35) [] [(13, 56)] u42) 13 57 x44) hWr ⟨show (¬ (u35 13 60).toInt = 0 ∧ ((x44).toInt = 5 - (d : Int)) ∧ ∃ c, PT (NX (RBY (J 13 58) (J 153) (J 124)) (J 13 59)) 4 (d : Nat) (J 13 56).toInt.toNat (u42 13 56).toInt.toNat c ∧ VAL (LTR (J 154)) c 1) ∨ ((u35 13 60).toInt = 0 ∧ PF (NX (RBY (J 13 58) (J 153) (J 124)) (J 13 59)) 4 (d : Nat) (J 13 56).toInt.toNat (u42 13 56).toInt.toNat) from by (obtain ⟨hB1, b9, hB2, hB3⟩ := st_l hB (by omega); exact Or.inl ⟨by omega, by omega, _, pt_d hd1 (bk_ct3 (by omega) (by omega) hA2 (by omega) (by omega) hB2 (by omega) (by omega)), val_op2 (by omega) hA3 hB3 (op_c1 (by omega))⟩), show (J 13 56).toInt ≤ (u42 13 56).toInt from by omega⟩ dX12_unit_205
                  · have c43 : r42.toInt = 0 := teq rfl kp0 c43
                    refine lv_aload_n hx hb dX12_unit_189 rfl (lv_at hl 4 rfl) ?_
                    refine ci_ C hW (runV (x := (g.2.2.1 13)) (As := []) (rest := []) (T := (((hv (hv (up2 (hv (up2 (up2 J 13 56 x24) 13 57 x25) [] [(13, 56), (13, 57), (13, 60)] u26) 13 56 x34) [] [(13, 56), (13, 57), (13, 60)] u35) [] [(13, 56)] u42), L, I, P, E, N), sgM g)) C hW (c_X12_breaksOff_e l g (hv (hv (up2 (hv (up2 (up2 J 13 56 x24) 13 57 x25) [] [(13, 56), (13, 57), (13, 60)] u26) 13 56 x34) [] [(13, 56), (13, 57), (13, 60)] u35) [] [(13, 56)] u42) L I P E N H.size  hwm) mi_X12_breaksOff tw_1365 (recv_ (T := (((hv (hv (up2 (hv (up2 (up2 J 13 56 x24) 13 57 x25) [] [(13, 56), (13, 57), (13, 60)] u26) 13 56 x34) [] [(13, 56), (13, 57), (13, 60)] u35) [] [(13, 56)] u42), L, I, P, E, N), sgM g)) C hW (mm_ rfl) rfl rfl) ⟨rfl, rfl, by (simp only [RM]; omega), by (simp only [RM]; omega)⟩ rfl hl.1 rfl (Nat.le_of_ble_eq_true rfl) dX12_unit_190 ⟨Nat.le_of_ble_eq_true rfl, Nat.le_of_ble_eq_true rfl⟩) (fun r45 u45 H locs hp45 hW => ?_)
                    obtain ⟨hc45, hf45_0⟩ : ((r45.toInt = 0)) ∧ ((u45 13 60).toInt = 0) := hp45
                    have hW : WB g A s.heap H locs ((hv (hv (hv (up2 (hv (up2 (up2 J 13 56 x24) 13 57 x25) [] [(13, 56), (13, 57), (13, 60)] u26) 13 56 x34) [] [(13, 56), (13, 57), (13, 60)] u35) [] [(13, 56)] u42) [] [(13, 60)] u45), L, I, P, E, N) (sgM g) := hW
                    have hWr : WB g A s.heap H locs (hv J [] [(13, 56), (13, 57), (13, 60)] (hv (hv (hv (up2 (hv (up2 (up2 J 13 56 x24) 13 57 x25) [] [(13, 56), (13, 57), (13, 60)] u26) 13 56 x34) [] [(13, 56), (13, 57), (13, 60)] u35) [] [(13, 56)] u42) [] [(13, 60)] u45), L, I, P, E, N) (sgM g) := by
                      rw [← ag_hvE (J := J) (R := []) (F := [(13, 56), (13, 57), (13, 60)]) (ag_hv rfl rfl (ag_hv rfl rfl (ag_hv rfl rfl (ag_up (Or.inr rfl) (ag_hv rfl rfl (ag_up (Or.inr rfl) (ag_up (Or.inr rfl) ag_rf)))))))]
                      exact hW
                    exact end_i C hr hlocks (hv (hv (hv (up2 (hv (up2 (up2 J 13 56 x24) 13 57 x25) [] [(13, 56), (13, 57), (13, 60)] u26) 13 56 x34) [] [(13, 56), (13, 57), (13, 60)] u35) [] [(13, 56)] u42) [] [(13, 60)] u45) hWr ⟨show (¬ (u45 13 60).toInt = 0 ∧ ((u35 13 57).toInt = 5 - (d : Int)) ∧ ∃ c, PT (NX (RBY (J 13 58) (J 153) (J 124)) (J 13 59)) 4 (d : Nat) (J 13 56).toInt.toNat (u42 13 56).toInt.toNat c ∧ VAL (LTR (J 154)) c r45) ∨ ((u45 13 60).toInt = 0 ∧ PF (NX (RBY (J 13 58) (J 153) (J 124)) (J 13 59)) 4 (d : Nat) (J 13 56).toInt.toNat (u42 13 56).toInt.toNat) from by exact Or.inr ⟨by omega, pf_dq hd1 (by omega) (rb_y (by omega) (by omega) hA2 (by omega) (by omega) hB (by omega))⟩, show (J 13 56).toInt ≤ (u42 13 56).toInt from by omega⟩ dX12_unit_193
            · have c33 : ¬ r27.toInt = 60 := tne rfl kp60 c33
              refine lv_iload_n hx hb dX12_unit_100 rfl (lv_at hl 0 rfl) ?_
              refine lv_bipush (v := 61) hx hb dX12_unit_101 (by decide) ?_
              refine lv_icmp_eq (tgt := 112) hx hb dX12_unit_103 (by decide) (fun c46 => ?_) (fun c46 => ?_)
              · have c46 : r27.toInt = 61 := teq rfl kp61 c46
                obtain ⟨hA1, a9, hA2, hA3⟩ := st_l hA (by omega)
                refine lv_aload_n hx hb dX12_unit_112 rfl (lv_at hl 3 rfl) ?_
                refine lv_dup hx hb dX12_unit_113 rfl ?_
                refine rg_13_56 C hW (mm_ rfl) tw_1079 dX12_unit_114 ?_
                refine lv_as (u26 13 56) rfl ?_
                refine lv_iconst (v := 1) hx hb dX12_unit_117 (by decide) ?_
                refine lv_iadd hx hb dX12_unit_118 ?_
                refine lv_topi (fun x47 (e47 : x47 = (u26 13 56) + 1) => ?_)
                try have t47 : x47.toInt = (u26 13 56).toInt + 1 := tadd e47 rfl kp1 (by omega)
                refine rp_13_56 C hW (mm_ rfl) tw_1079 dX12_unit_119 (fun H locs hW => ?_)
                refine lv_aload_n hx hb dX12_unit_122 rfl (lv_at hl 3 rfl) ?_
                refine ci_ C hW (runV (x := (g.2.2.1 13)) (As := []) (rest := []) (T := (((up2 (hv (up2 (up2 J 13 56 x24) 13 57 x25) [] [(13, 56), (13, 57), (13, 60)] u26) 13 56 x47), L, I, P, E, N), sgM g)) C hW ((hs d1 hd1) l g (up2 (hv (up2 (up2 J 13 56 x24) 13 57 x25) [] [(13, 56), (13, 57), (13, 60)] u26) 13 56 x47) L I P E N H.size  hwm (show 0 ≤ (x47).toInt from by omega) (show ((J 13 58).toInt < 0 ∧ (J 13 59).toInt ≤ 60) ∨ (0 ≤ (J 13 58).toInt ∧ (J 13 58).toInt + (J 13 59).toInt ≤ 1800) from by omega) (show ¬ (u26 13 60).toInt = 0 ∧ (u26 13 57).toInt = 5 - (d1 : Int) from by omega) (show (d1 : Int) ≤ 5 from by omega)) mi_X12_sum tw_1346 (recv_ (T := (((up2 (hv (up2 (up2 J 13 56 x24) 13 57 x25) [] [(13, 56), (13, 57), (13, 60)] u26) 13 56 x47), L, I, P, E, N), sgM g)) C hW (mm_ rfl) rfl rfl) ⟨rfl, rfl, by (simp only [RM]; omega), by (simp only [RM]; omega)⟩ rfl hl.1 rfl (Nat.le_of_ble_eq_true rfl) dX12_unit_123 ⟨Nat.le_of_ble_eq_true rfl, Nat.le_of_ble_eq_true rfl⟩) (fun r48 u48 H locs hp48 hW => ?_)
                obtain ⟨hf48_0, hf48_1⟩ : ((¬ (u48 13 60).toInt = 0 ∧ ((u48 13 57).toInt = 5 - (d1 : Int)) ∧ ∃ c, PT (NX (RBY (J 13 58) (J 153) (J 124)) (J 13 59)) 0 (d1 : Nat) (x47).toInt.toNat (u48 13 56).toInt.toNat c ∧ VAL (LTR (J 154)) c r48) ∨ ((u48 13 60).toInt = 0 ∧ PF (NX (RBY (J 13 58) (J 153) (J 124)) (J 13 59)) 0 (d1 : Nat) (x47).toInt.toNat (u48 13 56).toInt.toNat)) ∧ ((x47).toInt ≤ (u48 13 56).toInt) := hp48
                have hW : WB g A s.heap H locs ((hv (up2 (hv (up2 (up2 J 13 56 x24) 13 57 x25) [] [(13, 56), (13, 57), (13, 60)] u26) 13 56 x47) [] [(13, 56), (13, 57), (13, 60)] u48), L, I, P, E, N) (sgM g) := hW
                have hB := hf48_0
                refine lv_istore (lv' := [(4, .int r48), (3, .int r27), (2, .int r26), (1, .int r2), (0, .ref (g.2.2.1 13))]) hx hb dX12_unit_126 hl (by decide) rfl (fun ls hl => ?_)
                refine lv_iload_n hx hb dX12_unit_128 rfl (lv_at hl 1 rfl) ?_
                refine lv_bipush (v := 60) hx hb dX12_unit_129 (by decide) ?_
                refine lv_icmp_ne (tgt := 148) hx hb dX12_unit_131 (by decide) (fun c49 => ?_) (fun c49 => ?_)
                · have c49 : ¬ r27.toInt = 60 := tne rfl kp60 c49
                  refine lv_iload_n hx hb dX12_unit_148 rfl (lv_at hl 1 rfl) ?_
                  refine lv_bipush (v := 61) hx hb dX12_unit_149 (by decide) ?_
                  refine lv_icmp_ne (tgt := 168) hx hb dX12_unit_151 (by decide) (fun c50 => ?_) (fun c50 => ?_)
                  · have c50 : ¬ r27.toInt = 61 := tne rfl kp61 c50
                    exfalso; omega
                  · have c50 : r27.toInt = 61 := teq rfl kp61 c50
                    refine lv_iload_n hx hb dX12_unit_154 rfl (lv_at hl 2 rfl) ?_
                    refine lv_iload hx hb dX12_unit_155 (lv_at hl 0 rfl) ?_
                    refine lv_icmp_ne (tgt := 164) hx hb dX12_unit_157 (by decide) (fun c51 => ?_) (fun c51 => ?_)
                    · have c51 : ¬ r26.toInt = r48.toInt := tne rfl rfl c51
                      refine lv_iconst (v := 0) hx hb dX12_unit_164 (by decide) ?_
                      refine lv_goto (tgt := 179) hx hb dX12_unit_165 (by decide) ?_
                      refine lv_istore_n (lv' := [(2, .int 0), (4, .int r48), (3, .int r27), (1, .int r2), (0, .ref (g.2.2.1 13))]) hx hb dX12_unit_179 rfl hl (by decide) rfl (fun ls hl => ?_)
                      refine lv_aload_n hx hb dX12_unit_180 rfl (lv_at hl 4 rfl) ?_
                      refine lv_bipush (v := 41) hx hb dX12_unit_181 (by decide) ?_
                      refine ci_ C hW (runV (x := (g.2.2.1 13)) (As := [.int 41]) (rest := []) (T := (((hv (up2 (hv (up2 (up2 J 13 56 x24) 13 57 x25) [] [(13, 56), (13, 57), (13, 60)] u26) 13 56 x47) [] [(13, 56), (13, 57), (13, 60)] u48), L, I, P, E, N), sgM g)) C hW (c_X12_takes_e l g (hv (up2 (hv (up2 (up2 J 13 56 x24) 13 57 x25) [] [(13, 56), (13, 57), (13, 60)] u26) 13 56 x47) [] [(13, 56), (13, 57), (13, 60)] u48) L I P E N H.size 41 hwm (show 0 ≤ (u48 13 56).toInt from by (try simp only [kp41]); omega) (show ((J 13 58).toInt < 0 ∧ (J 13 59).toInt ≤ 60) ∨ (0 ≤ (J 13 58).toInt ∧ (J 13 58).toInt + (J 13 59).toInt ≤ 1800) from by (try simp only [kp41]); omega) (show 0 ≤ (41 : Int32).toInt from by (try simp only [kp41]); omega)) mi_X12_takes tw_1369 (recv_ (T := (((hv (up2 (hv (up2 (up2 J 13 56 x24) 13 57 x25) [] [(13, 56), (13, 57), (13, 60)] u26) 13 56 x47) [] [(13, 56), (13, 57), (13, 60)] u48), L, I, P, E, N), sgM g)) C hW (mm_ rfl) rfl rfl) ⟨rfl, rfl, by (simp only [RM]; omega), by (simp only [RM]; omega)⟩ rfl hl.1 rfl (Nat.le_of_ble_eq_true rfl) dX12_unit_183 ⟨Nat.le_of_ble_eq_true rfl, Nat.le_of_ble_eq_true rfl⟩) (fun r52 u52 H locs hp52 hW => ?_)
                      have hc52 : ((r52.toInt = 1 ∧ (¬ (u48 13 60).toInt = 0) ∧ ((NX (RBY (J 13 58) (J 153) (J 124)) (J 13 59)) (u48 13 56).toInt.toNat = 41) ∧ ((u52 13 56).toInt = (u48 13 56).toInt + 1)) ∨ (r52.toInt = 0 ∧ ((u48 13 60).toInt = 0 ∨ ¬ (NX (RBY (J 13 58) (J 153) (J 124)) (J 13 59)) (u48 13 56).toInt.toNat = 41) ∧ ((u52 13 56).toInt = (u48 13 56).toInt))) := hp52
                      clear hp52
                      have hW : WB g A s.heap H locs ((hv (hv (up2 (hv (up2 (up2 J 13 56 x24) 13 57 x25) [] [(13, 56), (13, 57), (13, 60)] u26) 13 56 x47) [] [(13, 56), (13, 57), (13, 60)] u48) [] [(13, 56)] u52), L, I, P, E, N) (sgM g) := hW
                      refine lv_if_ne (tgt := 194) hx hb dX12_unit_186 (by decide) (fun c53 => ?_) (fun c53 => ?_)
                      · have c53 : ¬ r52.toInt = 0 := tne rfl kp0 c53
                        refine lv_aload_n hx hb dX12_unit_194 rfl (lv_at hl 4 rfl) ?_
                        refine lv_dup hx hb dX12_unit_195 rfl ?_
                        refine rg_13_57 C hW (mm_ rfl) tw_1080 dX12_unit_196 ?_
                        refine lv_as (u48 13 57) rfl ?_
                        refine lv_iconst (v := 1) hx hb dX12_unit_199 (by decide) ?_
                        refine lv_isub hx hb dX12_unit_200 ?_
                        refine lv_topi (fun x54 (e54 : x54 = (u48 13 57) - 1) => ?_)
                        try have t54 : x54.toInt = (u48 13 57).toInt - 1 := tsub e54 rfl kp1 (by omega)
                        refine rp_13_57 C hW (mm_ rfl) tw_1080 dX12_unit_201 (fun H locs hW => ?_)
                        refine lv_iload_n hx hb dX12_unit_204 rfl (lv_at hl 0 rfl) ?_
                        have hWr : WB g A s.heap H locs (hv J [] [(13, 56), (13, 57), (13, 60)] (up2 (hv (hv (up2 (hv (up2 (up2 J 13 56 x24) 13 57 x25) [] [(13, 56), (13, 57), (13, 60)] u26) 13 56 x47) [] [(13, 56), (13, 57), (13, 60)] u48) [] [(13, 56)] u52) 13 57 x54), L, I, P, E, N) (sgM g) := by
                          rw [← ag_hvE (J := J) (R := []) (F := [(13, 56), (13, 57), (13, 60)]) (ag_up (Or.inr rfl) (ag_hv rfl rfl (ag_hv rfl rfl (ag_up (Or.inr rfl) (ag_hv rfl rfl (ag_up (Or.inr rfl) (ag_up (Or.inr rfl) ag_rf)))))))]
                          exact hW
                        exact end_i C hr hlocks (up2 (hv (hv (up2 (hv (up2 (up2 J 13 56 x24) 13 57 x25) [] [(13, 56), (13, 57), (13, 60)] u26) 13 56 x47) [] [(13, 56), (13, 57), (13, 60)] u48) [] [(13, 56)] u52) 13 57 x54) hWr ⟨show (¬ (u48 13 60).toInt = 0 ∧ ((x54).toInt = 5 - (d : Int)) ∧ ∃ c, PT (NX (RBY (J 13 58) (J 153) (J 124)) (J 13 59)) 4 (d : Nat) (J 13 56).toInt.toNat (u52 13 56).toInt.toNat c ∧ VAL (LTR (J 154)) c 0) ∨ ((u48 13 60).toInt = 0 ∧ PF (NX (RBY (J 13 58) (J 153) (J 124)) (J 13 59)) 4 (d : Nat) (J 13 56).toInt.toNat (u52 13 56).toInt.toNat) from by (obtain ⟨hB1, b9, hB2, hB3⟩ := st_l hB (by omega); exact Or.inl ⟨by omega, by omega, _, pt_d hd1 (bk_ct3 (by omega) (by omega) hA2 (by omega) (by omega) hB2 (by omega) (by omega)), val_op2 (by omega) hA3 hB3 (op_c0 (by omega))⟩), show (J 13 56).toInt ≤ (u52 13 56).toInt from by omega⟩ dX12_unit_205
                      · have c53 : r52.toInt = 0 := teq rfl kp0 c53
                        refine lv_aload_n hx hb dX12_unit_189 rfl (lv_at hl 4 rfl) ?_
                        refine ci_ C hW (runV (x := (g.2.2.1 13)) (As := []) (rest := []) (T := (((hv (hv (up2 (hv (up2 (up2 J 13 56 x24) 13 57 x25) [] [(13, 56), (13, 57), (13, 60)] u26) 13 56 x47) [] [(13, 56), (13, 57), (13, 60)] u48) [] [(13, 56)] u52), L, I, P, E, N), sgM g)) C hW (c_X12_breaksOff_e l g (hv (hv (up2 (hv (up2 (up2 J 13 56 x24) 13 57 x25) [] [(13, 56), (13, 57), (13, 60)] u26) 13 56 x47) [] [(13, 56), (13, 57), (13, 60)] u48) [] [(13, 56)] u52) L I P E N H.size  hwm) mi_X12_breaksOff tw_1365 (recv_ (T := (((hv (hv (up2 (hv (up2 (up2 J 13 56 x24) 13 57 x25) [] [(13, 56), (13, 57), (13, 60)] u26) 13 56 x47) [] [(13, 56), (13, 57), (13, 60)] u48) [] [(13, 56)] u52), L, I, P, E, N), sgM g)) C hW (mm_ rfl) rfl rfl) ⟨rfl, rfl, by (simp only [RM]; omega), by (simp only [RM]; omega)⟩ rfl hl.1 rfl (Nat.le_of_ble_eq_true rfl) dX12_unit_190 ⟨Nat.le_of_ble_eq_true rfl, Nat.le_of_ble_eq_true rfl⟩) (fun r55 u55 H locs hp55 hW => ?_)
                        obtain ⟨hc55, hf55_0⟩ : ((r55.toInt = 0)) ∧ ((u55 13 60).toInt = 0) := hp55
                        have hW : WB g A s.heap H locs ((hv (hv (hv (up2 (hv (up2 (up2 J 13 56 x24) 13 57 x25) [] [(13, 56), (13, 57), (13, 60)] u26) 13 56 x47) [] [(13, 56), (13, 57), (13, 60)] u48) [] [(13, 56)] u52) [] [(13, 60)] u55), L, I, P, E, N) (sgM g) := hW
                        have hWr : WB g A s.heap H locs (hv J [] [(13, 56), (13, 57), (13, 60)] (hv (hv (hv (up2 (hv (up2 (up2 J 13 56 x24) 13 57 x25) [] [(13, 56), (13, 57), (13, 60)] u26) 13 56 x47) [] [(13, 56), (13, 57), (13, 60)] u48) [] [(13, 56)] u52) [] [(13, 60)] u55), L, I, P, E, N) (sgM g) := by
                          rw [← ag_hvE (J := J) (R := []) (F := [(13, 56), (13, 57), (13, 60)]) (ag_hv rfl rfl (ag_hv rfl rfl (ag_hv rfl rfl (ag_up (Or.inr rfl) (ag_hv rfl rfl (ag_up (Or.inr rfl) (ag_up (Or.inr rfl) ag_rf)))))))]
                          exact hW
                        exact end_i C hr hlocks (hv (hv (hv (up2 (hv (up2 (up2 J 13 56 x24) 13 57 x25) [] [(13, 56), (13, 57), (13, 60)] u26) 13 56 x47) [] [(13, 56), (13, 57), (13, 60)] u48) [] [(13, 56)] u52) [] [(13, 60)] u55) hWr ⟨show (¬ (u55 13 60).toInt = 0 ∧ ((u48 13 57).toInt = 5 - (d : Int)) ∧ ∃ c, PT (NX (RBY (J 13 58) (J 153) (J 124)) (J 13 59)) 4 (d : Nat) (J 13 56).toInt.toNat (u52 13 56).toInt.toNat c ∧ VAL (LTR (J 154)) c r55) ∨ ((u55 13 60).toInt = 0 ∧ PF (NX (RBY (J 13 58) (J 153) (J 124)) (J 13 59)) 4 (d : Nat) (J 13 56).toInt.toNat (u52 13 56).toInt.toNat) from by exact Or.inr ⟨by omega, pf_dq hd1 (by omega) (rb_y (by omega) (by omega) hA2 (by omega) (by omega) hB (by omega))⟩, show (J 13 56).toInt ≤ (u52 13 56).toInt from by omega⟩ dX12_unit_193
                    · have c51 : r26.toInt = r48.toInt := teq rfl rfl c51
                      refine lv_iconst (v := 1) hx hb dX12_unit_160 (by decide) ?_
                      refine lv_goto (tgt := 179) hx hb dX12_unit_161 (by decide) ?_
                      refine lv_istore_n (lv' := [(2, .int 1), (4, .int r48), (3, .int r27), (1, .int r2), (0, .ref (g.2.2.1 13))]) hx hb dX12_unit_179 rfl hl (by decide) rfl (fun ls hl => ?_)
                      refine lv_aload_n hx hb dX12_unit_180 rfl (lv_at hl 4 rfl) ?_
                      refine lv_bipush (v := 41) hx hb dX12_unit_181 (by decide) ?_
                      refine ci_ C hW (runV (x := (g.2.2.1 13)) (As := [.int 41]) (rest := []) (T := (((hv (up2 (hv (up2 (up2 J 13 56 x24) 13 57 x25) [] [(13, 56), (13, 57), (13, 60)] u26) 13 56 x47) [] [(13, 56), (13, 57), (13, 60)] u48), L, I, P, E, N), sgM g)) C hW (c_X12_takes_e l g (hv (up2 (hv (up2 (up2 J 13 56 x24) 13 57 x25) [] [(13, 56), (13, 57), (13, 60)] u26) 13 56 x47) [] [(13, 56), (13, 57), (13, 60)] u48) L I P E N H.size 41 hwm (show 0 ≤ (u48 13 56).toInt from by (try simp only [kp41]); omega) (show ((J 13 58).toInt < 0 ∧ (J 13 59).toInt ≤ 60) ∨ (0 ≤ (J 13 58).toInt ∧ (J 13 58).toInt + (J 13 59).toInt ≤ 1800) from by (try simp only [kp41]); omega) (show 0 ≤ (41 : Int32).toInt from by (try simp only [kp41]); omega)) mi_X12_takes tw_1369 (recv_ (T := (((hv (up2 (hv (up2 (up2 J 13 56 x24) 13 57 x25) [] [(13, 56), (13, 57), (13, 60)] u26) 13 56 x47) [] [(13, 56), (13, 57), (13, 60)] u48), L, I, P, E, N), sgM g)) C hW (mm_ rfl) rfl rfl) ⟨rfl, rfl, by (simp only [RM]; omega), by (simp only [RM]; omega)⟩ rfl hl.1 rfl (Nat.le_of_ble_eq_true rfl) dX12_unit_183 ⟨Nat.le_of_ble_eq_true rfl, Nat.le_of_ble_eq_true rfl⟩) (fun r56 u56 H locs hp56 hW => ?_)
                      have hc56 : ((r56.toInt = 1 ∧ (¬ (u48 13 60).toInt = 0) ∧ ((NX (RBY (J 13 58) (J 153) (J 124)) (J 13 59)) (u48 13 56).toInt.toNat = 41) ∧ ((u56 13 56).toInt = (u48 13 56).toInt + 1)) ∨ (r56.toInt = 0 ∧ ((u48 13 60).toInt = 0 ∨ ¬ (NX (RBY (J 13 58) (J 153) (J 124)) (J 13 59)) (u48 13 56).toInt.toNat = 41) ∧ ((u56 13 56).toInt = (u48 13 56).toInt))) := hp56
                      clear hp56
                      have hW : WB g A s.heap H locs ((hv (hv (up2 (hv (up2 (up2 J 13 56 x24) 13 57 x25) [] [(13, 56), (13, 57), (13, 60)] u26) 13 56 x47) [] [(13, 56), (13, 57), (13, 60)] u48) [] [(13, 56)] u56), L, I, P, E, N) (sgM g) := hW
                      refine lv_if_ne (tgt := 194) hx hb dX12_unit_186 (by decide) (fun c57 => ?_) (fun c57 => ?_)
                      · have c57 : ¬ r56.toInt = 0 := tne rfl kp0 c57
                        refine lv_aload_n hx hb dX12_unit_194 rfl (lv_at hl 4 rfl) ?_
                        refine lv_dup hx hb dX12_unit_195 rfl ?_
                        refine rg_13_57 C hW (mm_ rfl) tw_1080 dX12_unit_196 ?_
                        refine lv_as (u48 13 57) rfl ?_
                        refine lv_iconst (v := 1) hx hb dX12_unit_199 (by decide) ?_
                        refine lv_isub hx hb dX12_unit_200 ?_
                        refine lv_topi (fun x58 (e58 : x58 = (u48 13 57) - 1) => ?_)
                        try have t58 : x58.toInt = (u48 13 57).toInt - 1 := tsub e58 rfl kp1 (by omega)
                        refine rp_13_57 C hW (mm_ rfl) tw_1080 dX12_unit_201 (fun H locs hW => ?_)
                        refine lv_iload_n hx hb dX12_unit_204 rfl (lv_at hl 0 rfl) ?_
                        have hWr : WB g A s.heap H locs (hv J [] [(13, 56), (13, 57), (13, 60)] (up2 (hv (hv (up2 (hv (up2 (up2 J 13 56 x24) 13 57 x25) [] [(13, 56), (13, 57), (13, 60)] u26) 13 56 x47) [] [(13, 56), (13, 57), (13, 60)] u48) [] [(13, 56)] u56) 13 57 x58), L, I, P, E, N) (sgM g) := by
                          rw [← ag_hvE (J := J) (R := []) (F := [(13, 56), (13, 57), (13, 60)]) (ag_up (Or.inr rfl) (ag_hv rfl rfl (ag_hv rfl rfl (ag_up (Or.inr rfl) (ag_hv rfl rfl (ag_up (Or.inr rfl) (ag_up (Or.inr rfl) ag_rf)))))))]
                          exact hW
                        exact end_i C hr hlocks (up2 (hv (hv (up2 (hv (up2 (up2 J 13 56 x24) 13 57 x25) [] [(13, 56), (13, 57), (13, 60)] u26) 13 56 x47) [] [(13, 56), (13, 57), (13, 60)] u48) [] [(13, 56)] u56) 13 57 x58) hWr ⟨show (¬ (u48 13 60).toInt = 0 ∧ ((x58).toInt = 5 - (d : Int)) ∧ ∃ c, PT (NX (RBY (J 13 58) (J 153) (J 124)) (J 13 59)) 4 (d : Nat) (J 13 56).toInt.toNat (u56 13 56).toInt.toNat c ∧ VAL (LTR (J 154)) c 1) ∨ ((u48 13 60).toInt = 0 ∧ PF (NX (RBY (J 13 58) (J 153) (J 124)) (J 13 59)) 4 (d : Nat) (J 13 56).toInt.toNat (u56 13 56).toInt.toNat) from by (obtain ⟨hB1, b9, hB2, hB3⟩ := st_l hB (by omega); exact Or.inl ⟨by omega, by omega, _, pt_d hd1 (bk_ct3 (by omega) (by omega) hA2 (by omega) (by omega) hB2 (by omega) (by omega)), val_op2 (by omega) hA3 hB3 (op_c1 (by omega))⟩), show (J 13 56).toInt ≤ (u56 13 56).toInt from by omega⟩ dX12_unit_205
                      · have c57 : r56.toInt = 0 := teq rfl kp0 c57
                        refine lv_aload_n hx hb dX12_unit_189 rfl (lv_at hl 4 rfl) ?_
                        refine ci_ C hW (runV (x := (g.2.2.1 13)) (As := []) (rest := []) (T := (((hv (hv (up2 (hv (up2 (up2 J 13 56 x24) 13 57 x25) [] [(13, 56), (13, 57), (13, 60)] u26) 13 56 x47) [] [(13, 56), (13, 57), (13, 60)] u48) [] [(13, 56)] u56), L, I, P, E, N), sgM g)) C hW (c_X12_breaksOff_e l g (hv (hv (up2 (hv (up2 (up2 J 13 56 x24) 13 57 x25) [] [(13, 56), (13, 57), (13, 60)] u26) 13 56 x47) [] [(13, 56), (13, 57), (13, 60)] u48) [] [(13, 56)] u56) L I P E N H.size  hwm) mi_X12_breaksOff tw_1365 (recv_ (T := (((hv (hv (up2 (hv (up2 (up2 J 13 56 x24) 13 57 x25) [] [(13, 56), (13, 57), (13, 60)] u26) 13 56 x47) [] [(13, 56), (13, 57), (13, 60)] u48) [] [(13, 56)] u56), L, I, P, E, N), sgM g)) C hW (mm_ rfl) rfl rfl) ⟨rfl, rfl, by (simp only [RM]; omega), by (simp only [RM]; omega)⟩ rfl hl.1 rfl (Nat.le_of_ble_eq_true rfl) dX12_unit_190 ⟨Nat.le_of_ble_eq_true rfl, Nat.le_of_ble_eq_true rfl⟩) (fun r59 u59 H locs hp59 hW => ?_)
                        obtain ⟨hc59, hf59_0⟩ : ((r59.toInt = 0)) ∧ ((u59 13 60).toInt = 0) := hp59
                        have hW : WB g A s.heap H locs ((hv (hv (hv (up2 (hv (up2 (up2 J 13 56 x24) 13 57 x25) [] [(13, 56), (13, 57), (13, 60)] u26) 13 56 x47) [] [(13, 56), (13, 57), (13, 60)] u48) [] [(13, 56)] u56) [] [(13, 60)] u59), L, I, P, E, N) (sgM g) := hW
                        have hWr : WB g A s.heap H locs (hv J [] [(13, 56), (13, 57), (13, 60)] (hv (hv (hv (up2 (hv (up2 (up2 J 13 56 x24) 13 57 x25) [] [(13, 56), (13, 57), (13, 60)] u26) 13 56 x47) [] [(13, 56), (13, 57), (13, 60)] u48) [] [(13, 56)] u56) [] [(13, 60)] u59), L, I, P, E, N) (sgM g) := by
                          rw [← ag_hvE (J := J) (R := []) (F := [(13, 56), (13, 57), (13, 60)]) (ag_hv rfl rfl (ag_hv rfl rfl (ag_hv rfl rfl (ag_up (Or.inr rfl) (ag_hv rfl rfl (ag_up (Or.inr rfl) (ag_up (Or.inr rfl) ag_rf)))))))]
                          exact hW
                        exact end_i C hr hlocks (hv (hv (hv (up2 (hv (up2 (up2 J 13 56 x24) 13 57 x25) [] [(13, 56), (13, 57), (13, 60)] u26) 13 56 x47) [] [(13, 56), (13, 57), (13, 60)] u48) [] [(13, 56)] u56) [] [(13, 60)] u59) hWr ⟨show (¬ (u59 13 60).toInt = 0 ∧ ((u48 13 57).toInt = 5 - (d : Int)) ∧ ∃ c, PT (NX (RBY (J 13 58) (J 153) (J 124)) (J 13 59)) 4 (d : Nat) (J 13 56).toInt.toNat (u56 13 56).toInt.toNat c ∧ VAL (LTR (J 154)) c r59) ∨ ((u59 13 60).toInt = 0 ∧ PF (NX (RBY (J 13 58) (J 153) (J 124)) (J 13 59)) 4 (d : Nat) (J 13 56).toInt.toNat (u56 13 56).toInt.toNat) from by exact Or.inr ⟨by omega, pf_dq hd1 (by omega) (rb_y (by omega) (by omega) hA2 (by omega) (by omega) hB (by omega))⟩, show (J 13 56).toInt ≤ (u56 13 56).toInt from by omega⟩ dX12_unit_193
                · have c49 : r27.toInt = 60 := teq rfl kp60 c49
                  exfalso; omega
              · have c46 : ¬ r27.toInt = 61 := tne rfl kp61 c46
                refine lv_iload_n hx hb dX12_unit_106 rfl (lv_at hl 0 rfl) ?_
                refine lv_bipush (v := 62) hx hb dX12_unit_107 (by decide) ?_
                refine lv_icmp_ne (tgt := 180) hx hb dX12_unit_109 (by decide) (fun c60 => ?_) (fun c60 => ?_)
                · have c60 : ¬ r27.toInt = 62 := tne rfl kp62 c60
                  refine lv_aload_n hx hb dX12_unit_180 rfl (lv_at hl 3 rfl) ?_
                  refine lv_bipush (v := 41) hx hb dX12_unit_181 (by decide) ?_
                  refine ci_ C hW (runV (x := (g.2.2.1 13)) (As := [.int 41]) (rest := []) (T := (((hv (up2 (up2 J 13 56 x24) 13 57 x25) [] [(13, 56), (13, 57), (13, 60)] u26), L, I, P, E, N), sgM g)) C hW (c_X12_takes_e l g (hv (up2 (up2 J 13 56 x24) 13 57 x25) [] [(13, 56), (13, 57), (13, 60)] u26) L I P E N H.size 41 hwm (show 0 ≤ (u26 13 56).toInt from by (try simp only [kp41]); omega) (show ((J 13 58).toInt < 0 ∧ (J 13 59).toInt ≤ 60) ∨ (0 ≤ (J 13 58).toInt ∧ (J 13 58).toInt + (J 13 59).toInt ≤ 1800) from by (try simp only [kp41]); omega) (show 0 ≤ (41 : Int32).toInt from by (try simp only [kp41]); omega)) mi_X12_takes tw_1369 (recv_ (T := (((hv (up2 (up2 J 13 56 x24) 13 57 x25) [] [(13, 56), (13, 57), (13, 60)] u26), L, I, P, E, N), sgM g)) C hW (mm_ rfl) rfl rfl) ⟨rfl, rfl, by (simp only [RM]; omega), by (simp only [RM]; omega)⟩ rfl hl.1 rfl (Nat.le_of_ble_eq_true rfl) dX12_unit_183 ⟨Nat.le_of_ble_eq_true rfl, Nat.le_of_ble_eq_true rfl⟩) (fun r61 u61 H locs hp61 hW => ?_)
                  have hc61 : ((r61.toInt = 1 ∧ (¬ (u26 13 60).toInt = 0) ∧ ((NX (RBY (J 13 58) (J 153) (J 124)) (J 13 59)) (u26 13 56).toInt.toNat = 41) ∧ ((u61 13 56).toInt = (u26 13 56).toInt + 1)) ∨ (r61.toInt = 0 ∧ ((u26 13 60).toInt = 0 ∨ ¬ (NX (RBY (J 13 58) (J 153) (J 124)) (J 13 59)) (u26 13 56).toInt.toNat = 41) ∧ ((u61 13 56).toInt = (u26 13 56).toInt))) := hp61
                  clear hp61
                  have hW : WB g A s.heap H locs ((hv (hv (up2 (up2 J 13 56 x24) 13 57 x25) [] [(13, 56), (13, 57), (13, 60)] u26) [] [(13, 56)] u61), L, I, P, E, N) (sgM g) := hW
                  refine lv_if_ne (tgt := 194) hx hb dX12_unit_186 (by decide) (fun c62 => ?_) (fun c62 => ?_)
                  · have c62 : ¬ r61.toInt = 0 := tne rfl kp0 c62
                    refine lv_aload_n hx hb dX12_unit_194 rfl (lv_at hl 3 rfl) ?_
                    refine lv_dup hx hb dX12_unit_195 rfl ?_
                    refine rg_13_57 C hW (mm_ rfl) tw_1080 dX12_unit_196 ?_
                    refine lv_as (u26 13 57) rfl ?_
                    refine lv_iconst (v := 1) hx hb dX12_unit_199 (by decide) ?_
                    refine lv_isub hx hb dX12_unit_200 ?_
                    refine lv_topi (fun x63 (e63 : x63 = (u26 13 57) - 1) => ?_)
                    try have t63 : x63.toInt = (u26 13 57).toInt - 1 := tsub e63 rfl kp1 (by omega)
                    refine rp_13_57 C hW (mm_ rfl) tw_1080 dX12_unit_201 (fun H locs hW => ?_)
                    refine lv_iload_n hx hb dX12_unit_204 rfl (lv_at hl 1 rfl) ?_
                    have hWr : WB g A s.heap H locs (hv J [] [(13, 56), (13, 57), (13, 60)] (up2 (hv (hv (up2 (up2 J 13 56 x24) 13 57 x25) [] [(13, 56), (13, 57), (13, 60)] u26) [] [(13, 56)] u61) 13 57 x63), L, I, P, E, N) (sgM g) := by
                      rw [← ag_hvE (J := J) (R := []) (F := [(13, 56), (13, 57), (13, 60)]) (ag_up (Or.inr rfl) (ag_hv rfl rfl (ag_hv rfl rfl (ag_up (Or.inr rfl) (ag_up (Or.inr rfl) ag_rf)))))]
                      exact hW
                    exact end_i C hr hlocks (up2 (hv (hv (up2 (up2 J 13 56 x24) 13 57 x25) [] [(13, 56), (13, 57), (13, 60)] u26) [] [(13, 56)] u61) 13 57 x63) hWr ⟨show (¬ (u26 13 60).toInt = 0 ∧ ((x63).toInt = 5 - (d : Int)) ∧ ∃ c, PT (NX (RBY (J 13 58) (J 153) (J 124)) (J 13 59)) 4 (d : Nat) (J 13 56).toInt.toNat (u61 13 56).toInt.toNat c ∧ VAL (LTR (J 154)) c r26) ∨ ((u26 13 60).toInt = 0 ∧ PF (NX (RBY (J 13 58) (J 153) (J 124)) (J 13 59)) 4 (d : Nat) (J 13 56).toInt.toNat (u61 13 56).toInt.toNat) from by (obtain ⟨hA1, a9, hA2, hA3⟩ := st_l hA (by omega); exact Or.inl ⟨by omega, by omega, _, pt_d hd1 (bk_t2 (by omega) (by omega) hA2 (by omega) (by omega)), hA3⟩), show (J 13 56).toInt ≤ (u61 13 56).toInt from by omega⟩ dX12_unit_205
                  · have c62 : r61.toInt = 0 := teq rfl kp0 c62
                    refine lv_aload_n hx hb dX12_unit_189 rfl (lv_at hl 3 rfl) ?_
                    refine ci_ C hW (runV (x := (g.2.2.1 13)) (As := []) (rest := []) (T := (((hv (hv (up2 (up2 J 13 56 x24) 13 57 x25) [] [(13, 56), (13, 57), (13, 60)] u26) [] [(13, 56)] u61), L, I, P, E, N), sgM g)) C hW (c_X12_breaksOff_e l g (hv (hv (up2 (up2 J 13 56 x24) 13 57 x25) [] [(13, 56), (13, 57), (13, 60)] u26) [] [(13, 56)] u61) L I P E N H.size  hwm) mi_X12_breaksOff tw_1365 (recv_ (T := (((hv (hv (up2 (up2 J 13 56 x24) 13 57 x25) [] [(13, 56), (13, 57), (13, 60)] u26) [] [(13, 56)] u61), L, I, P, E, N), sgM g)) C hW (mm_ rfl) rfl rfl) ⟨rfl, rfl, by (simp only [RM]; omega), by (simp only [RM]; omega)⟩ rfl hl.1 rfl (Nat.le_of_ble_eq_true rfl) dX12_unit_190 ⟨Nat.le_of_ble_eq_true rfl, Nat.le_of_ble_eq_true rfl⟩) (fun r64 u64 H locs hp64 hW => ?_)
                    obtain ⟨hc64, hf64_0⟩ : ((r64.toInt = 0)) ∧ ((u64 13 60).toInt = 0) := hp64
                    have hW : WB g A s.heap H locs ((hv (hv (hv (up2 (up2 J 13 56 x24) 13 57 x25) [] [(13, 56), (13, 57), (13, 60)] u26) [] [(13, 56)] u61) [] [(13, 60)] u64), L, I, P, E, N) (sgM g) := hW
                    have hWr : WB g A s.heap H locs (hv J [] [(13, 56), (13, 57), (13, 60)] (hv (hv (hv (up2 (up2 J 13 56 x24) 13 57 x25) [] [(13, 56), (13, 57), (13, 60)] u26) [] [(13, 56)] u61) [] [(13, 60)] u64), L, I, P, E, N) (sgM g) := by
                      rw [← ag_hvE (J := J) (R := []) (F := [(13, 56), (13, 57), (13, 60)]) (ag_hv rfl rfl (ag_hv rfl rfl (ag_hv rfl rfl (ag_up (Or.inr rfl) (ag_up (Or.inr rfl) ag_rf)))))]
                      exact hW
                    exact end_i C hr hlocks (hv (hv (hv (up2 (up2 J 13 56 x24) 13 57 x25) [] [(13, 56), (13, 57), (13, 60)] u26) [] [(13, 56)] u61) [] [(13, 60)] u64) hWr ⟨show (¬ (u64 13 60).toInt = 0 ∧ ((u26 13 57).toInt = 5 - (d : Int)) ∧ ∃ c, PT (NX (RBY (J 13 58) (J 153) (J 124)) (J 13 59)) 4 (d : Nat) (J 13 56).toInt.toNat (u61 13 56).toInt.toNat c ∧ VAL (LTR (J 154)) c r64) ∨ ((u64 13 60).toInt = 0 ∧ PF (NX (RBY (J 13 58) (J 153) (J 124)) (J 13 59)) 4 (d : Nat) (J 13 56).toInt.toNat (u61 13 56).toInt.toNat) from by exact Or.inr ⟨by omega, pf_dq hd1 (by omega) (rb_x (by omega) (by omega) hA (by omega) (by omega))⟩, show (J 13 56).toInt ≤ (u61 13 56).toInt from by omega⟩ dX12_unit_193
                · have c60 : r27.toInt = 62 := teq rfl kp62 c60
                  obtain ⟨hA1, a9, hA2, hA3⟩ := st_l hA (by omega)
                  refine lv_aload_n hx hb dX12_unit_112 rfl (lv_at hl 3 rfl) ?_
                  refine lv_dup hx hb dX12_unit_113 rfl ?_
                  refine rg_13_56 C hW (mm_ rfl) tw_1079 dX12_unit_114 ?_
                  refine lv_as (u26 13 56) rfl ?_
                  refine lv_iconst (v := 1) hx hb dX12_unit_117 (by decide) ?_
                  refine lv_iadd hx hb dX12_unit_118 ?_
                  refine lv_topi (fun x65 (e65 : x65 = (u26 13 56) + 1) => ?_)
                  try have t65 : x65.toInt = (u26 13 56).toInt + 1 := tadd e65 rfl kp1 (by omega)
                  refine rp_13_56 C hW (mm_ rfl) tw_1079 dX12_unit_119 (fun H locs hW => ?_)
                  refine lv_aload_n hx hb dX12_unit_122 rfl (lv_at hl 3 rfl) ?_
                  refine ci_ C hW (runV (x := (g.2.2.1 13)) (As := []) (rest := []) (T := (((up2 (hv (up2 (up2 J 13 56 x24) 13 57 x25) [] [(13, 56), (13, 57), (13, 60)] u26) 13 56 x65), L, I, P, E, N), sgM g)) C hW ((hs d1 hd1) l g (up2 (hv (up2 (up2 J 13 56 x24) 13 57 x25) [] [(13, 56), (13, 57), (13, 60)] u26) 13 56 x65) L I P E N H.size  hwm (show 0 ≤ (x65).toInt from by omega) (show ((J 13 58).toInt < 0 ∧ (J 13 59).toInt ≤ 60) ∨ (0 ≤ (J 13 58).toInt ∧ (J 13 58).toInt + (J 13 59).toInt ≤ 1800) from by omega) (show ¬ (u26 13 60).toInt = 0 ∧ (u26 13 57).toInt = 5 - (d1 : Int) from by omega) (show (d1 : Int) ≤ 5 from by omega)) mi_X12_sum tw_1346 (recv_ (T := (((up2 (hv (up2 (up2 J 13 56 x24) 13 57 x25) [] [(13, 56), (13, 57), (13, 60)] u26) 13 56 x65), L, I, P, E, N), sgM g)) C hW (mm_ rfl) rfl rfl) ⟨rfl, rfl, by (simp only [RM]; omega), by (simp only [RM]; omega)⟩ rfl hl.1 rfl (Nat.le_of_ble_eq_true rfl) dX12_unit_123 ⟨Nat.le_of_ble_eq_true rfl, Nat.le_of_ble_eq_true rfl⟩) (fun r66 u66 H locs hp66 hW => ?_)
                  obtain ⟨hf66_0, hf66_1⟩ : ((¬ (u66 13 60).toInt = 0 ∧ ((u66 13 57).toInt = 5 - (d1 : Int)) ∧ ∃ c, PT (NX (RBY (J 13 58) (J 153) (J 124)) (J 13 59)) 0 (d1 : Nat) (x65).toInt.toNat (u66 13 56).toInt.toNat c ∧ VAL (LTR (J 154)) c r66) ∨ ((u66 13 60).toInt = 0 ∧ PF (NX (RBY (J 13 58) (J 153) (J 124)) (J 13 59)) 0 (d1 : Nat) (x65).toInt.toNat (u66 13 56).toInt.toNat)) ∧ ((x65).toInt ≤ (u66 13 56).toInt) := hp66
                  have hW : WB g A s.heap H locs ((hv (up2 (hv (up2 (up2 J 13 56 x24) 13 57 x25) [] [(13, 56), (13, 57), (13, 60)] u26) 13 56 x65) [] [(13, 56), (13, 57), (13, 60)] u66), L, I, P, E, N) (sgM g) := hW
                  have hB := hf66_0
                  refine lv_istore (lv' := [(4, .int r66), (3, .int r27), (2, .int r26), (1, .int r2), (0, .ref (g.2.2.1 13))]) hx hb dX12_unit_126 hl (by decide) rfl (fun ls hl => ?_)
                  refine lv_iload_n hx hb dX12_unit_128 rfl (lv_at hl 1 rfl) ?_
                  refine lv_bipush (v := 60) hx hb dX12_unit_129 (by decide) ?_
                  refine lv_icmp_ne (tgt := 148) hx hb dX12_unit_131 (by decide) (fun c67 => ?_) (fun c67 => ?_)
                  · have c67 : ¬ r27.toInt = 60 := tne rfl kp60 c67
                    refine lv_iload_n hx hb dX12_unit_148 rfl (lv_at hl 1 rfl) ?_
                    refine lv_bipush (v := 61) hx hb dX12_unit_149 (by decide) ?_
                    refine lv_icmp_ne (tgt := 168) hx hb dX12_unit_151 (by decide) (fun c68 => ?_) (fun c68 => ?_)
                    · have c68 : ¬ r27.toInt = 61 := tne rfl kp61 c68
                      refine lv_iload_n hx hb dX12_unit_168 rfl (lv_at hl 2 rfl) ?_
                      refine lv_iload hx hb dX12_unit_169 (lv_at hl 0 rfl) ?_
                      refine lv_icmp_le (tgt := 178) hx hb dX12_unit_171 (by decide) (fun c69 => ?_) (fun c69 => ?_)
                      · have c69 : r26.toInt ≤ r66.toInt := tle rfl rfl c69
                        refine lv_iconst (v := 0) hx hb dX12_unit_178 (by decide) ?_
                        refine lv_istore_n (lv' := [(2, .int 0), (4, .int r66), (3, .int r27), (1, .int r2), (0, .ref (g.2.2.1 13))]) hx hb dX12_unit_179 rfl hl (by decide) rfl (fun ls hl => ?_)
                        refine lv_aload_n hx hb dX12_unit_180 rfl (lv_at hl 4 rfl) ?_
                        refine lv_bipush (v := 41) hx hb dX12_unit_181 (by decide) ?_
                        refine ci_ C hW (runV (x := (g.2.2.1 13)) (As := [.int 41]) (rest := []) (T := (((hv (up2 (hv (up2 (up2 J 13 56 x24) 13 57 x25) [] [(13, 56), (13, 57), (13, 60)] u26) 13 56 x65) [] [(13, 56), (13, 57), (13, 60)] u66), L, I, P, E, N), sgM g)) C hW (c_X12_takes_e l g (hv (up2 (hv (up2 (up2 J 13 56 x24) 13 57 x25) [] [(13, 56), (13, 57), (13, 60)] u26) 13 56 x65) [] [(13, 56), (13, 57), (13, 60)] u66) L I P E N H.size 41 hwm (show 0 ≤ (u66 13 56).toInt from by (try simp only [kp41]); omega) (show ((J 13 58).toInt < 0 ∧ (J 13 59).toInt ≤ 60) ∨ (0 ≤ (J 13 58).toInt ∧ (J 13 58).toInt + (J 13 59).toInt ≤ 1800) from by (try simp only [kp41]); omega) (show 0 ≤ (41 : Int32).toInt from by (try simp only [kp41]); omega)) mi_X12_takes tw_1369 (recv_ (T := (((hv (up2 (hv (up2 (up2 J 13 56 x24) 13 57 x25) [] [(13, 56), (13, 57), (13, 60)] u26) 13 56 x65) [] [(13, 56), (13, 57), (13, 60)] u66), L, I, P, E, N), sgM g)) C hW (mm_ rfl) rfl rfl) ⟨rfl, rfl, by (simp only [RM]; omega), by (simp only [RM]; omega)⟩ rfl hl.1 rfl (Nat.le_of_ble_eq_true rfl) dX12_unit_183 ⟨Nat.le_of_ble_eq_true rfl, Nat.le_of_ble_eq_true rfl⟩) (fun r70 u70 H locs hp70 hW => ?_)
                        have hc70 : ((r70.toInt = 1 ∧ (¬ (u66 13 60).toInt = 0) ∧ ((NX (RBY (J 13 58) (J 153) (J 124)) (J 13 59)) (u66 13 56).toInt.toNat = 41) ∧ ((u70 13 56).toInt = (u66 13 56).toInt + 1)) ∨ (r70.toInt = 0 ∧ ((u66 13 60).toInt = 0 ∨ ¬ (NX (RBY (J 13 58) (J 153) (J 124)) (J 13 59)) (u66 13 56).toInt.toNat = 41) ∧ ((u70 13 56).toInt = (u66 13 56).toInt))) := hp70
                        clear hp70
                        have hW : WB g A s.heap H locs ((hv (hv (up2 (hv (up2 (up2 J 13 56 x24) 13 57 x25) [] [(13, 56), (13, 57), (13, 60)] u26) 13 56 x65) [] [(13, 56), (13, 57), (13, 60)] u66) [] [(13, 56)] u70), L, I, P, E, N) (sgM g) := hW
                        refine lv_if_ne (tgt := 194) hx hb dX12_unit_186 (by decide) (fun c71 => ?_) (fun c71 => ?_)
                        · have c71 : ¬ r70.toInt = 0 := tne rfl kp0 c71
                          refine lv_aload_n hx hb dX12_unit_194 rfl (lv_at hl 4 rfl) ?_
                          refine lv_dup hx hb dX12_unit_195 rfl ?_
                          refine rg_13_57 C hW (mm_ rfl) tw_1080 dX12_unit_196 ?_
                          refine lv_as (u66 13 57) rfl ?_
                          refine lv_iconst (v := 1) hx hb dX12_unit_199 (by decide) ?_
                          refine lv_isub hx hb dX12_unit_200 ?_
                          refine lv_topi (fun x72 (e72 : x72 = (u66 13 57) - 1) => ?_)
                          try have t72 : x72.toInt = (u66 13 57).toInt - 1 := tsub e72 rfl kp1 (by omega)
                          refine rp_13_57 C hW (mm_ rfl) tw_1080 dX12_unit_201 (fun H locs hW => ?_)
                          refine lv_iload_n hx hb dX12_unit_204 rfl (lv_at hl 0 rfl) ?_
                          have hWr : WB g A s.heap H locs (hv J [] [(13, 56), (13, 57), (13, 60)] (up2 (hv (hv (up2 (hv (up2 (up2 J 13 56 x24) 13 57 x25) [] [(13, 56), (13, 57), (13, 60)] u26) 13 56 x65) [] [(13, 56), (13, 57), (13, 60)] u66) [] [(13, 56)] u70) 13 57 x72), L, I, P, E, N) (sgM g) := by
                            rw [← ag_hvE (J := J) (R := []) (F := [(13, 56), (13, 57), (13, 60)]) (ag_up (Or.inr rfl) (ag_hv rfl rfl (ag_hv rfl rfl (ag_up (Or.inr rfl) (ag_hv rfl rfl (ag_up (Or.inr rfl) (ag_up (Or.inr rfl) ag_rf)))))))]
                            exact hW
                          exact end_i C hr hlocks (up2 (hv (hv (up2 (hv (up2 (up2 J 13 56 x24) 13 57 x25) [] [(13, 56), (13, 57), (13, 60)] u26) 13 56 x65) [] [(13, 56), (13, 57), (13, 60)] u66) [] [(13, 56)] u70) 13 57 x72) hWr ⟨show (¬ (u66 13 60).toInt = 0 ∧ ((x72).toInt = 5 - (d : Int)) ∧ ∃ c, PT (NX (RBY (J 13 58) (J 153) (J 124)) (J 13 59)) 4 (d : Nat) (J 13 56).toInt.toNat (u70 13 56).toInt.toNat c ∧ VAL (LTR (J 154)) c 0) ∨ ((u66 13 60).toInt = 0 ∧ PF (NX (RBY (J 13 58) (J 153) (J 124)) (J 13 59)) 4 (d : Nat) (J 13 56).toInt.toNat (u70 13 56).toInt.toNat) from by (obtain ⟨hB1, b9, hB2, hB3⟩ := st_l hB (by omega); exact Or.inl ⟨by omega, by omega, _, pt_d hd1 (bk_ct3 (by omega) (by omega) hA2 (by omega) (by omega) hB2 (by omega) (by omega)), val_op2 (by omega) hA3 hB3 (op_c0 (by omega))⟩), show (J 13 56).toInt ≤ (u70 13 56).toInt from by omega⟩ dX12_unit_205
                        · have c71 : r70.toInt = 0 := teq rfl kp0 c71
                          refine lv_aload_n hx hb dX12_unit_189 rfl (lv_at hl 4 rfl) ?_
                          refine ci_ C hW (runV (x := (g.2.2.1 13)) (As := []) (rest := []) (T := (((hv (hv (up2 (hv (up2 (up2 J 13 56 x24) 13 57 x25) [] [(13, 56), (13, 57), (13, 60)] u26) 13 56 x65) [] [(13, 56), (13, 57), (13, 60)] u66) [] [(13, 56)] u70), L, I, P, E, N), sgM g)) C hW (c_X12_breaksOff_e l g (hv (hv (up2 (hv (up2 (up2 J 13 56 x24) 13 57 x25) [] [(13, 56), (13, 57), (13, 60)] u26) 13 56 x65) [] [(13, 56), (13, 57), (13, 60)] u66) [] [(13, 56)] u70) L I P E N H.size  hwm) mi_X12_breaksOff tw_1365 (recv_ (T := (((hv (hv (up2 (hv (up2 (up2 J 13 56 x24) 13 57 x25) [] [(13, 56), (13, 57), (13, 60)] u26) 13 56 x65) [] [(13, 56), (13, 57), (13, 60)] u66) [] [(13, 56)] u70), L, I, P, E, N), sgM g)) C hW (mm_ rfl) rfl rfl) ⟨rfl, rfl, by (simp only [RM]; omega), by (simp only [RM]; omega)⟩ rfl hl.1 rfl (Nat.le_of_ble_eq_true rfl) dX12_unit_190 ⟨Nat.le_of_ble_eq_true rfl, Nat.le_of_ble_eq_true rfl⟩) (fun r73 u73 H locs hp73 hW => ?_)
                          obtain ⟨hc73, hf73_0⟩ : ((r73.toInt = 0)) ∧ ((u73 13 60).toInt = 0) := hp73
                          have hW : WB g A s.heap H locs ((hv (hv (hv (up2 (hv (up2 (up2 J 13 56 x24) 13 57 x25) [] [(13, 56), (13, 57), (13, 60)] u26) 13 56 x65) [] [(13, 56), (13, 57), (13, 60)] u66) [] [(13, 56)] u70) [] [(13, 60)] u73), L, I, P, E, N) (sgM g) := hW
                          have hWr : WB g A s.heap H locs (hv J [] [(13, 56), (13, 57), (13, 60)] (hv (hv (hv (up2 (hv (up2 (up2 J 13 56 x24) 13 57 x25) [] [(13, 56), (13, 57), (13, 60)] u26) 13 56 x65) [] [(13, 56), (13, 57), (13, 60)] u66) [] [(13, 56)] u70) [] [(13, 60)] u73), L, I, P, E, N) (sgM g) := by
                            rw [← ag_hvE (J := J) (R := []) (F := [(13, 56), (13, 57), (13, 60)]) (ag_hv rfl rfl (ag_hv rfl rfl (ag_hv rfl rfl (ag_up (Or.inr rfl) (ag_hv rfl rfl (ag_up (Or.inr rfl) (ag_up (Or.inr rfl) ag_rf)))))))]
                            exact hW
                          exact end_i C hr hlocks (hv (hv (hv (up2 (hv (up2 (up2 J 13 56 x24) 13 57 x25) [] [(13, 56), (13, 57), (13, 60)] u26) 13 56 x65) [] [(13, 56), (13, 57), (13, 60)] u66) [] [(13, 56)] u70) [] [(13, 60)] u73) hWr ⟨show (¬ (u73 13 60).toInt = 0 ∧ ((u66 13 57).toInt = 5 - (d : Int)) ∧ ∃ c, PT (NX (RBY (J 13 58) (J 153) (J 124)) (J 13 59)) 4 (d : Nat) (J 13 56).toInt.toNat (u70 13 56).toInt.toNat c ∧ VAL (LTR (J 154)) c r73) ∨ ((u73 13 60).toInt = 0 ∧ PF (NX (RBY (J 13 58) (J 153) (J 124)) (J 13 59)) 4 (d : Nat) (J 13 56).toInt.toNat (u70 13 56).toInt.toNat) from by exact Or.inr ⟨by omega, pf_dq hd1 (by omega) (rb_y (by omega) (by omega) hA2 (by omega) (by omega) hB (by omega))⟩, show (J 13 56).toInt ≤ (u70 13 56).toInt from by omega⟩ dX12_unit_193
                      · have c69 : r66.toInt < r26.toInt := tnle rfl rfl c69
                        refine lv_iconst (v := 1) hx hb dX12_unit_174 (by decide) ?_
                        refine lv_goto (tgt := 179) hx hb dX12_unit_175 (by decide) ?_
                        refine lv_istore_n (lv' := [(2, .int 1), (4, .int r66), (3, .int r27), (1, .int r2), (0, .ref (g.2.2.1 13))]) hx hb dX12_unit_179 rfl hl (by decide) rfl (fun ls hl => ?_)
                        refine lv_aload_n hx hb dX12_unit_180 rfl (lv_at hl 4 rfl) ?_
                        refine lv_bipush (v := 41) hx hb dX12_unit_181 (by decide) ?_
                        refine ci_ C hW (runV (x := (g.2.2.1 13)) (As := [.int 41]) (rest := []) (T := (((hv (up2 (hv (up2 (up2 J 13 56 x24) 13 57 x25) [] [(13, 56), (13, 57), (13, 60)] u26) 13 56 x65) [] [(13, 56), (13, 57), (13, 60)] u66), L, I, P, E, N), sgM g)) C hW (c_X12_takes_e l g (hv (up2 (hv (up2 (up2 J 13 56 x24) 13 57 x25) [] [(13, 56), (13, 57), (13, 60)] u26) 13 56 x65) [] [(13, 56), (13, 57), (13, 60)] u66) L I P E N H.size 41 hwm (show 0 ≤ (u66 13 56).toInt from by (try simp only [kp41]); omega) (show ((J 13 58).toInt < 0 ∧ (J 13 59).toInt ≤ 60) ∨ (0 ≤ (J 13 58).toInt ∧ (J 13 58).toInt + (J 13 59).toInt ≤ 1800) from by (try simp only [kp41]); omega) (show 0 ≤ (41 : Int32).toInt from by (try simp only [kp41]); omega)) mi_X12_takes tw_1369 (recv_ (T := (((hv (up2 (hv (up2 (up2 J 13 56 x24) 13 57 x25) [] [(13, 56), (13, 57), (13, 60)] u26) 13 56 x65) [] [(13, 56), (13, 57), (13, 60)] u66), L, I, P, E, N), sgM g)) C hW (mm_ rfl) rfl rfl) ⟨rfl, rfl, by (simp only [RM]; omega), by (simp only [RM]; omega)⟩ rfl hl.1 rfl (Nat.le_of_ble_eq_true rfl) dX12_unit_183 ⟨Nat.le_of_ble_eq_true rfl, Nat.le_of_ble_eq_true rfl⟩) (fun r74 u74 H locs hp74 hW => ?_)
                        have hc74 : ((r74.toInt = 1 ∧ (¬ (u66 13 60).toInt = 0) ∧ ((NX (RBY (J 13 58) (J 153) (J 124)) (J 13 59)) (u66 13 56).toInt.toNat = 41) ∧ ((u74 13 56).toInt = (u66 13 56).toInt + 1)) ∨ (r74.toInt = 0 ∧ ((u66 13 60).toInt = 0 ∨ ¬ (NX (RBY (J 13 58) (J 153) (J 124)) (J 13 59)) (u66 13 56).toInt.toNat = 41) ∧ ((u74 13 56).toInt = (u66 13 56).toInt))) := hp74
                        clear hp74
                        have hW : WB g A s.heap H locs ((hv (hv (up2 (hv (up2 (up2 J 13 56 x24) 13 57 x25) [] [(13, 56), (13, 57), (13, 60)] u26) 13 56 x65) [] [(13, 56), (13, 57), (13, 60)] u66) [] [(13, 56)] u74), L, I, P, E, N) (sgM g) := hW
                        refine lv_if_ne (tgt := 194) hx hb dX12_unit_186 (by decide) (fun c75 => ?_) (fun c75 => ?_)
                        · have c75 : ¬ r74.toInt = 0 := tne rfl kp0 c75
                          refine lv_aload_n hx hb dX12_unit_194 rfl (lv_at hl 4 rfl) ?_
                          refine lv_dup hx hb dX12_unit_195 rfl ?_
                          refine rg_13_57 C hW (mm_ rfl) tw_1080 dX12_unit_196 ?_
                          refine lv_as (u66 13 57) rfl ?_
                          refine lv_iconst (v := 1) hx hb dX12_unit_199 (by decide) ?_
                          refine lv_isub hx hb dX12_unit_200 ?_
                          refine lv_topi (fun x76 (e76 : x76 = (u66 13 57) - 1) => ?_)
                          try have t76 : x76.toInt = (u66 13 57).toInt - 1 := tsub e76 rfl kp1 (by omega)
                          refine rp_13_57 C hW (mm_ rfl) tw_1080 dX12_unit_201 (fun H locs hW => ?_)
                          refine lv_iload_n hx hb dX12_unit_204 rfl (lv_at hl 0 rfl) ?_
                          have hWr : WB g A s.heap H locs (hv J [] [(13, 56), (13, 57), (13, 60)] (up2 (hv (hv (up2 (hv (up2 (up2 J 13 56 x24) 13 57 x25) [] [(13, 56), (13, 57), (13, 60)] u26) 13 56 x65) [] [(13, 56), (13, 57), (13, 60)] u66) [] [(13, 56)] u74) 13 57 x76), L, I, P, E, N) (sgM g) := by
                            rw [← ag_hvE (J := J) (R := []) (F := [(13, 56), (13, 57), (13, 60)]) (ag_up (Or.inr rfl) (ag_hv rfl rfl (ag_hv rfl rfl (ag_up (Or.inr rfl) (ag_hv rfl rfl (ag_up (Or.inr rfl) (ag_up (Or.inr rfl) ag_rf)))))))]
                            exact hW
                          exact end_i C hr hlocks (up2 (hv (hv (up2 (hv (up2 (up2 J 13 56 x24) 13 57 x25) [] [(13, 56), (13, 57), (13, 60)] u26) 13 56 x65) [] [(13, 56), (13, 57), (13, 60)] u66) [] [(13, 56)] u74) 13 57 x76) hWr ⟨show (¬ (u66 13 60).toInt = 0 ∧ ((x76).toInt = 5 - (d : Int)) ∧ ∃ c, PT (NX (RBY (J 13 58) (J 153) (J 124)) (J 13 59)) 4 (d : Nat) (J 13 56).toInt.toNat (u74 13 56).toInt.toNat c ∧ VAL (LTR (J 154)) c 1) ∨ ((u66 13 60).toInt = 0 ∧ PF (NX (RBY (J 13 58) (J 153) (J 124)) (J 13 59)) 4 (d : Nat) (J 13 56).toInt.toNat (u74 13 56).toInt.toNat) from by (obtain ⟨hB1, b9, hB2, hB3⟩ := st_l hB (by omega); exact Or.inl ⟨by omega, by omega, _, pt_d hd1 (bk_ct3 (by omega) (by omega) hA2 (by omega) (by omega) hB2 (by omega) (by omega)), val_op2 (by omega) hA3 hB3 (op_c1 (by omega))⟩), show (J 13 56).toInt ≤ (u74 13 56).toInt from by omega⟩ dX12_unit_205
                        · have c75 : r74.toInt = 0 := teq rfl kp0 c75
                          refine lv_aload_n hx hb dX12_unit_189 rfl (lv_at hl 4 rfl) ?_
                          refine ci_ C hW (runV (x := (g.2.2.1 13)) (As := []) (rest := []) (T := (((hv (hv (up2 (hv (up2 (up2 J 13 56 x24) 13 57 x25) [] [(13, 56), (13, 57), (13, 60)] u26) 13 56 x65) [] [(13, 56), (13, 57), (13, 60)] u66) [] [(13, 56)] u74), L, I, P, E, N), sgM g)) C hW (c_X12_breaksOff_e l g (hv (hv (up2 (hv (up2 (up2 J 13 56 x24) 13 57 x25) [] [(13, 56), (13, 57), (13, 60)] u26) 13 56 x65) [] [(13, 56), (13, 57), (13, 60)] u66) [] [(13, 56)] u74) L I P E N H.size  hwm) mi_X12_breaksOff tw_1365 (recv_ (T := (((hv (hv (up2 (hv (up2 (up2 J 13 56 x24) 13 57 x25) [] [(13, 56), (13, 57), (13, 60)] u26) 13 56 x65) [] [(13, 56), (13, 57), (13, 60)] u66) [] [(13, 56)] u74), L, I, P, E, N), sgM g)) C hW (mm_ rfl) rfl rfl) ⟨rfl, rfl, by (simp only [RM]; omega), by (simp only [RM]; omega)⟩ rfl hl.1 rfl (Nat.le_of_ble_eq_true rfl) dX12_unit_190 ⟨Nat.le_of_ble_eq_true rfl, Nat.le_of_ble_eq_true rfl⟩) (fun r77 u77 H locs hp77 hW => ?_)
                          obtain ⟨hc77, hf77_0⟩ : ((r77.toInt = 0)) ∧ ((u77 13 60).toInt = 0) := hp77
                          have hW : WB g A s.heap H locs ((hv (hv (hv (up2 (hv (up2 (up2 J 13 56 x24) 13 57 x25) [] [(13, 56), (13, 57), (13, 60)] u26) 13 56 x65) [] [(13, 56), (13, 57), (13, 60)] u66) [] [(13, 56)] u74) [] [(13, 60)] u77), L, I, P, E, N) (sgM g) := hW
                          have hWr : WB g A s.heap H locs (hv J [] [(13, 56), (13, 57), (13, 60)] (hv (hv (hv (up2 (hv (up2 (up2 J 13 56 x24) 13 57 x25) [] [(13, 56), (13, 57), (13, 60)] u26) 13 56 x65) [] [(13, 56), (13, 57), (13, 60)] u66) [] [(13, 56)] u74) [] [(13, 60)] u77), L, I, P, E, N) (sgM g) := by
                            rw [← ag_hvE (J := J) (R := []) (F := [(13, 56), (13, 57), (13, 60)]) (ag_hv rfl rfl (ag_hv rfl rfl (ag_hv rfl rfl (ag_up (Or.inr rfl) (ag_hv rfl rfl (ag_up (Or.inr rfl) (ag_up (Or.inr rfl) ag_rf)))))))]
                            exact hW
                          exact end_i C hr hlocks (hv (hv (hv (up2 (hv (up2 (up2 J 13 56 x24) 13 57 x25) [] [(13, 56), (13, 57), (13, 60)] u26) 13 56 x65) [] [(13, 56), (13, 57), (13, 60)] u66) [] [(13, 56)] u74) [] [(13, 60)] u77) hWr ⟨show (¬ (u77 13 60).toInt = 0 ∧ ((u66 13 57).toInt = 5 - (d : Int)) ∧ ∃ c, PT (NX (RBY (J 13 58) (J 153) (J 124)) (J 13 59)) 4 (d : Nat) (J 13 56).toInt.toNat (u74 13 56).toInt.toNat c ∧ VAL (LTR (J 154)) c r77) ∨ ((u77 13 60).toInt = 0 ∧ PF (NX (RBY (J 13 58) (J 153) (J 124)) (J 13 59)) 4 (d : Nat) (J 13 56).toInt.toNat (u74 13 56).toInt.toNat) from by exact Or.inr ⟨by omega, pf_dq hd1 (by omega) (rb_y (by omega) (by omega) hA2 (by omega) (by omega) hB (by omega))⟩, show (J 13 56).toInt ≤ (u74 13 56).toInt from by omega⟩ dX12_unit_193
                    · have c68 : r27.toInt = 61 := teq rfl kp61 c68
                      exfalso; omega
                  · have c67 : r27.toInt = 60 := teq rfl kp60 c67
                    exfalso; omega
        · have c23 : (J 13 57).toInt = 5 := teq rfl kp5 c23
          refine lv_aload_n hx hb dX12_unit_52 rfl (lv_at hl 1 rfl) ?_
          refine ci_ C hW (runV (x := (g.2.2.1 13)) (As := []) (rest := []) (T := ((J, L, I, P, E, N), sgM g)) C hW (c_X12_breaksOff_e l g J L I P E N H.size  hwm) mi_X12_breaksOff tw_1365 (recv_ (T := ((J, L, I, P, E, N), sgM g)) C hW (mm_ rfl) rfl rfl) ⟨rfl, rfl, by (simp only [RM]; omega), by (simp only [RM]; omega)⟩ rfl hl.1 rfl (Nat.le_of_ble_eq_true rfl) dX12_unit_53 ⟨Nat.le_of_ble_eq_true rfl, Nat.le_of_ble_eq_true rfl⟩) (fun r78 u78 H locs hp78 hW => ?_)
          obtain ⟨hc78, hf78_0⟩ : ((r78.toInt = 0)) ∧ ((u78 13 60).toInt = 0) := hp78
          have hW : WB g A s.heap H locs ((hv J [] [(13, 60)] u78), L, I, P, E, N) (sgM g) := hW
          have hWr : WB g A s.heap H locs (hv J [] [(13, 56), (13, 57), (13, 60)] (hv J [] [(13, 60)] u78), L, I, P, E, N) (sgM g) := by
            rw [← ag_hvE (J := J) (R := []) (F := [(13, 56), (13, 57), (13, 60)]) (ag_hv rfl rfl ag_rf)]
            exact hW
          exact end_i C hr hlocks (hv J [] [(13, 60)] u78) hWr ⟨show (¬ (u78 13 60).toInt = 0 ∧ ((J 13 57).toInt = 5 - (d : Int)) ∧ ∃ c, PT (NX (RBY (J 13 58) (J 153) (J 124)) (J 13 59)) 4 (d : Nat) (J 13 56).toInt.toNat (J 13 56).toInt.toNat c ∧ VAL (LTR (J 154)) c r78) ∨ ((u78 13 60).toInt = 0 ∧ PF (NX (RBY (J 13 58) (J 153) (J 124)) (J 13 59)) 4 (d : Nat) (J 13 56).toInt.toNat (J 13 56).toInt.toNat) from by exact Or.inr ⟨by omega, un_02 (by omega) (by omega)⟩, show (J 13 56).toInt ≤ (J 13 56).toInt from by omega⟩ dX12_unit_56
    · have c4 : ¬ r3.toInt = 0 := tne rfl kp0 c4
      refine lv_aload_n hx hb dX12_unit_21 rfl (lv_at hl 1 rfl) ?_
      refine lv_dup hx hb dX12_unit_22 rfl ?_
      refine rg_13_56 C hW (mm_ rfl) tw_1079 dX12_unit_23 ?_
      refine lv_iconst (v := 1) hx hb dX12_unit_26 (by decide) ?_
      refine lv_iadd hx hb dX12_unit_27 ?_
      refine lv_topi (fun x79 (e79 : x79 = (J 13 56) + 1) => ?_)
      try have t79 : x79.toInt = (J 13 56).toInt + 1 := tadd e79 rfl kp1 (by omega)
      refine rp_13_56 C hW (mm_ rfl) tw_1079 dX12_unit_28 (fun H locs hW => ?_)
      refine lv_aload_n hx hb dX12_unit_31 rfl (lv_at hl 1 rfl) ?_
      refine rg_13_54 C hW (mm_ rfl) tw_1077 dX12_unit_32 ?_
      refine lv_iload_n hx hb dX12_unit_35 rfl (lv_at hl 0 rfl) ?_
      have hin : vp_in r2 128 := tin rfl (by omega)
      refine ra_154 C hW (mm_ rfl) hin dX12_unit_36 ?_
      refine lv_topi (fun x80 (e80 : x80 = J 154 r2.toNatClampNeg) => ?_)
      have hWr : WB g A s.heap H locs (hv J [] [(13, 56), (13, 57), (13, 60)] (up2 J 13 56 x79), L, I, P, E, N) (sgM g) := by
        rw [← ag_hvE (J := J) (R := []) (F := [(13, 56), (13, 57), (13, 60)]) (ag_up (Or.inr rfl) ag_rf)]
        exact hW
      exact end_i C hr hlocks (up2 J 13 56 x79) hWr ⟨show (¬ (J 13 60).toInt = 0 ∧ ((J 13 57).toInt = 5 - (d : Int)) ∧ ∃ c, PT (NX (RBY (J 13 58) (J 153) (J 124)) (J 13 59)) 4 (d : Nat) (J 13 56).toInt.toNat (x79).toInt.toNat c ∧ VAL (LTR (J 154)) c x80) ∨ ((J 13 60).toInt = 0 ∧ PF (NX (RBY (J 13 58) (J 153) (J 124)) (J 13 59)) 4 (d : Nat) (J 13 56).toInt.toNat (x79).toInt.toNat) from by exact Or.inl ⟨by omega, by omega, _, rn_l (by omega) (by omega), v_let (by omega) (by show _ = J 154 _; rw [← hN]; assumption)⟩, show (J 13 56).toInt ≤ (x79).toInt from by omega⟩ dX12_unit_37
  · have c1 : (J 13 60).toInt = 0 := teq rfl kp0 c1
    refine lv_iconst (v := 0) hx hb dX12_unit_7 (by decide) ?_
    have hWr : WB g A s.heap H locs (hv J [] [(13, 56), (13, 57), (13, 60)] J, L, I, P, E, N) (sgM g) := by
      rw [← ag_hvE (J := J) (R := []) (F := [(13, 56), (13, 57), (13, 60)]) ag_rf]
      exact hW
    exact end_i C hr hlocks J hWr ⟨show (¬ (J 13 60).toInt = 0 ∧ ((J 13 57).toInt = 5 - (d : Int)) ∧ ∃ c, PT (NX (RBY (J 13 58) (J 153) (J 124)) (J 13 59)) 4 (d : Nat) (J 13 56).toInt.toNat (J 13 56).toInt.toNat c ∧ VAL (LTR (J 154)) c 0) ∨ ((J 13 60).toInt = 0 ∧ PF (NX (RBY (J 13 58) (J 153) (J 124)) (J 13 59)) 4 (d : Nat) (J 13 56).toInt.toNat (J 13 56).toInt.toNat) from by exfalso; omega, show (J 13 56).toInt ≤ (J 13 56).toInt from by omega⟩ dX12_unit_8

set_option maxHeartbeats 4000000 in
set_option maxRecDepth 100000 in
theorem c_X12_term_e (d : Nat) (hu : UNITC_e d) (l : Launch) (g : gG) (J : Nat → Nat → Int32) (L : Nat → Nat → Int64) (I : Nat → Nat → Nat → Int32) (P : Nat → Nat → Nat → Option Nat) (E : Nat → Option Nat) (N : Nat → Nat) (sz : Nat)  (hwm : WM J) (hat : 0 ≤ (J 13 56).toInt) (hps : ((J 13 58).toInt < 0 ∧ (J 13 59).toInt ≤ 60) ∨ (0 ≤ (J 13 58).toInt ∧ (J 13 58).toInt + (J 13 59).toInt ≤ 1800)) (hd : ¬ (J 13 60).toInt = 0 ∧ (J 13 57).toInt = 5 - (d : Int)) (hd5 : (d : Int) ≤ 5) : Met l yX12_term (WS yX12_term cX12_term 4 (some .int)) (RM (4 * d + 7) 0 0) (PC g [.ref (g.2.2.1 13)] ((J, L, I, P, E, N), sgM g) sz) (va_Qi (fun (r : Int32) (u : (Nat → Nat → Int32)) => ((¬ (u 13 60).toInt = 0 ∧ ((u 13 57).toInt = 5 - (d : Int)) ∧ ∃ c, PT (NX (RBY (J 13 58) (J 153) (J 124)) (J 13 59)) 2 (d : Nat) (J 13 56).toInt.toNat (u 13 56).toInt.toNat c ∧ VAL (LTR (J 154)) c r) ∨ ((u 13 60).toInt = 0 ∧ PF (NX (RBY (J 13 58) (J 153) (J 124)) (J 13 59)) 2 (d : Nat) (J 13 56).toInt.toNat (u 13 56).toInt.toNat)) ∧ ((J 13 56).toInt ≤ (u 13 56).toInt)) (fun u t => at_ g (FR g ((J, L, I, P, E, N), sgM g) sz) ((hv J [] [(13, 56), (13, 57), (13, 60)] u, L, I, P, E, N), sgM g) t) (FR g ((J, L, I, P, E, N), sgM g) sz)) 0 0 (FR g ((J, L, I, P, E, N), sgM g) sz) := by
  refine ent (by decide +kernel) (Nat.le_of_ble_eq_true rfl) ?_
  intro p e s m below meth c ls hsz C hW hr hlocks hname hl
  generalize FR g ((J, L, I, P, E, N), sgM g) sz = A at C hW ⊢
  have hx := C.1.1
  have hb := C.1.2.1
  have hts := C.1.2.2.2.2
  have hW : WB g A s.heap s.heap [] (J, L, I, P, E, N) (sgM g) := hW
  have hl : lv_has ls 4 [(0, .ref (g.2.2.1 13))] := hl
  obtain ⟨H, hH⟩ : ∃ H : Heap, H = s.heap := ⟨_, rfl⟩
  obtain ⟨locs, hlocs⟩ : ∃ q : List Loc, q = [] := ⟨_, rfl⟩
  have hW : WB g A s.heap H locs (J, L, I, P, E, N) (sgM g) := by rw [hH, hlocs]; exact hW
  obtain ⟨⟨hnd1, hnd2, hon, hhm1, hhm2, hhN, hcu1, hcu2, hco1, hco2, hcN⟩, ⟨hrd1, hrd2⟩, ⟨hnw1, hnw2, hns1, hns2, hof⟩, ⟨htm1, htm2, hts_⟩, ⟨had1, had2, hrw1, hrw2, htp1, htp2⟩⟩ := id hwm
  refine start_ hH hlocs ?_
  refine lv_aload_n hx hb dX12_term_0 rfl (lv_at hl 0 rfl) ?_
  refine ci_ C hW (runV (x := (g.2.2.1 13)) (As := []) (rest := []) (T := ((J, L, I, P, E, N), sgM g)) C hW (hu l g J L I P E N H.size  hwm (show 0 ≤ (J 13 56).toInt from by omega) (show ((J 13 58).toInt < 0 ∧ (J 13 59).toInt ≤ 60) ∨ (0 ≤ (J 13 58).toInt ∧ (J 13 58).toInt + (J 13 59).toInt ≤ 1800) from by omega) (show ¬ (J 13 60).toInt = 0 ∧ (J 13 57).toInt = 5 - (d : Int) from by omega) (show (d : Int) ≤ 5 from by omega)) mi_X12_unit tw_1354 (recv_ (T := ((J, L, I, P, E, N), sgM g)) C hW (mm_ rfl) rfl rfl) ⟨rfl, rfl, by (simp only [RM]; omega), by (simp only [RM]; omega)⟩ rfl hl.1 rfl (Nat.le_of_ble_eq_true rfl) dX12_term_1 ⟨Nat.le_of_ble_eq_true rfl, Nat.le_of_ble_eq_true rfl⟩) (fun r1 u1 H locs hp1 hW => ?_)
  obtain ⟨hf1_0, hf1_1⟩ : ((¬ (u1 13 60).toInt = 0 ∧ ((u1 13 57).toInt = 5 - (d : Int)) ∧ ∃ c, PT (NX (RBY (J 13 58) (J 153) (J 124)) (J 13 59)) 4 (d : Nat) (J 13 56).toInt.toNat (u1 13 56).toInt.toNat c ∧ VAL (LTR (J 154)) c r1) ∨ ((u1 13 60).toInt = 0 ∧ PF (NX (RBY (J 13 58) (J 153) (J 124)) (J 13 59)) 4 (d : Nat) (J 13 56).toInt.toNat (u1 13 56).toInt.toNat)) ∧ ((J 13 56).toInt ≤ (u1 13 56).toInt) := hp1
  have hW : WB g A s.heap H locs ((hv J [] [(13, 56), (13, 57), (13, 60)] u1), L, I, P, E, N) (sgM g) := hW
  have hA := hf1_0
  refine lv_istore_n (lv' := [(1, .int r1), (0, .ref (g.2.2.1 13))]) hx hb dX12_term_4 rfl hl (by decide) rfl (fun ls hl => ?_)
  have loop5 : ∀ (n : Nat) (m1 : Int32) (Gl2 : Nat → Nat → Int32) (H : Heap) (locs : List Loc) (ls : Array Slot), (1800 - (Gl2 13 56).toInt).toNat < n → 0 ≤ (Gl2 13 56).toInt ∧ (J 13 56).toInt ≤ (Gl2 13 56).toInt → (¬ (Gl2 13 60).toInt = 0 ∧ ((Gl2 13 57).toInt = 5 - (d : Int)) ∧ ∃ c, CT (NX (RBY (J 13 58) (J 153) (J 124)) (J 13 59)) 3 d (Gl2 13 56).toInt.toNat 2 (J 13 56).toInt.toNat c ∧ VAL (LTR (J 154)) c m1) ∨ ((Gl2 13 60).toInt = 0 ∧ PF (NX (RBY (J 13 58) (J 153) (J 124)) (J 13 59)) 2 d (J 13 56).toInt.toNat (Gl2 13 56).toInt.toNat) → WB g A s.heap H locs ((hv (hv J [] [(13, 56), (13, 57), (13, 60)] u1) [] [(13, 56), (13, 57), (13, 60)] Gl2), L, I, P, E, N) (sgM g) → lv_has ls 4 [(1, .int m1), (0, .ref (g.2.2.1 13))] → W p l e (RM (4 * d + 7) 0 0) s m ([.ref (g.2.2.1 13)] : List Value).toArray below meth c H locs 0 0 (MQ below (va_Qi (fun (r : Int32) (u : (Nat → Nat → Int32)) => ((¬ (u 13 60).toInt = 0 ∧ ((u 13 57).toInt = 5 - (d : Int)) ∧ ∃ c, PT (NX (RBY (J 13 58) (J 153) (J 124)) (J 13 59)) 2 (d : Nat) (J 13 56).toInt.toNat (u 13 56).toInt.toNat c ∧ VAL (LTR (J 154)) c r) ∨ ((u 13 60).toInt = 0 ∧ PF (NX (RBY (J 13 58) (J 153) (J 124)) (J 13 59)) 2 (d : Nat) (J 13 56).toInt.toNat (u 13 56).toInt.toNat)) ∧ ((J 13 56).toInt ≤ (u 13 56).toInt)) (fun u t => at_ g A ((hv J [] [(13, 56), (13, 57), (13, 60)] u, L, I, P, E, N), sgM g) t) A) ([.ref (g.2.2.1 13)] : List Value).toArray s 0 0 A) (F0 m 5 ls []) := by
    intro n
    induction n with
    | zero => intro m1 Gl2 H locs ls hmeas; exact absurd hmeas (Nat.not_lt_zero _)
    | succ n ih =>
      intro m1 Gl2 H locs ls hmeas hi hst hW hl
      refine lv_aload_n hx hb dX12_term_5 rfl (lv_at hl 1 rfl) ?_
      refine rg_13_60 C hW (mm_ rfl) tw_1083 dX12_term_6 ?_
      refine lv_as (Gl2 13 60) rfl ?_
      refine lv_if_eq (tgt := 87) hx hb dX12_term_9 (by decide) (fun c3 => ?_) (fun c3 => ?_)
      · have c3 : (Gl2 13 60).toInt = 0 := teq rfl kp0 c3
        refine lv_iload_n hx hb dX12_term_87 rfl (lv_at hl 0 rfl) ?_
        have hWr : WB g A s.heap H locs (hv J [] [(13, 56), (13, 57), (13, 60)] (hv (hv J [] [(13, 56), (13, 57), (13, 60)] u1) [] [(13, 56), (13, 57), (13, 60)] Gl2), L, I, P, E, N) (sgM g) := by
          rw [← ag_hvE (J := J) (R := []) (F := [(13, 56), (13, 57), (13, 60)]) (ag_hv rfl rfl (ag_hv rfl rfl ag_rf))]
          exact hW
        exact end_i C hr hlocks (hv (hv J [] [(13, 56), (13, 57), (13, 60)] u1) [] [(13, 56), (13, 57), (13, 60)] Gl2) hWr ⟨show (¬ (Gl2 13 60).toInt = 0 ∧ ((Gl2 13 57).toInt = 5 - (d : Int)) ∧ ∃ c, PT (NX (RBY (J 13 58) (J 153) (J 124)) (J 13 59)) 2 (d : Nat) (J 13 56).toInt.toNat (Gl2 13 56).toInt.toNat c ∧ VAL (LTR (J 154)) c m1) ∨ ((Gl2 13 60).toInt = 0 ∧ PF (NX (RBY (J 13 58) (J 153) (J 124)) (J 13 59)) 2 (d : Nat) (J 13 56).toInt.toNat (Gl2 13 56).toInt.toNat) from by exact Or.inr ⟨by omega, st_r hst (by omega)⟩, show (J 13 56).toInt ≤ (Gl2 13 56).toInt from by omega⟩ dX12_term_88
      · have c3 : ¬ (Gl2 13 60).toInt = 0 := tne rfl kp0 c3
        obtain ⟨hd9, c9, hct, hval⟩ := st_l hst (by omega)
        refine lv_aload_n hx hb dX12_term_12 rfl (lv_at hl 1 rfl) ?_
        refine ci_ C hW (runV (x := (g.2.2.1 13)) (As := []) (rest := []) (T := (((hv (hv J [] [(13, 56), (13, 57), (13, 60)] u1) [] [(13, 56), (13, 57), (13, 60)] Gl2), L, I, P, E, N), sgM g)) C hW (c_X12_sign_e l g (hv (hv J [] [(13, 56), (13, 57), (13, 60)] u1) [] [(13, 56), (13, 57), (13, 60)] Gl2) L I P E N H.size  hwm (show 0 ≤ (Gl2 13 56).toInt from by omega) (show ((J 13 58).toInt < 0 ∧ (J 13 59).toInt ≤ 60) ∨ (0 ≤ (J 13 58).toInt ∧ (J 13 58).toInt + (J 13 59).toInt ≤ 1800) from by omega)) mi_X12_sign tw_1358 (recv_ (T := (((hv (hv J [] [(13, 56), (13, 57), (13, 60)] u1) [] [(13, 56), (13, 57), (13, 60)] Gl2), L, I, P, E, N), sgM g)) C hW (mm_ rfl) rfl rfl) ⟨rfl, rfl, by (simp only [RM]; omega), by (simp only [RM]; omega)⟩ rfl hl.1 rfl (Nat.le_of_ble_eq_true rfl) dX12_term_13 ⟨Nat.le_of_ble_eq_true rfl, Nat.le_of_ble_eq_true rfl⟩) (fun r4 u4 H locs hp4 hW => ?_)
        obtain ⟨hf4_0, hf4_1⟩ : (r4.toInt = (NX (RBY (J 13 58) (J 153) (J 124)) (J 13 59)) (Gl2 13 56).toInt.toNat) ∧ (r4.toInt = -1 ∨ (Gl2 13 56).toInt < (J 13 59).toInt) := hp4
        have hW : WB g A s.heap H locs ((hv (hv J [] [(13, 56), (13, 57), (13, 60)] u1) [] [(13, 56), (13, 57), (13, 60)] Gl2), L, I, P, E, N) (sgM g) := hW
        refine lv_bipush (v := 42) hx hb dX12_term_16 (by decide) ?_
        refine lv_icmp_eq (tgt := 30) hx hb dX12_term_18 (by decide) (fun c5 => ?_) (fun c5 => ?_)
        · have c5 : r4.toInt = 42 := teq rfl kp42 c5
          refine lv_aload_n hx hb dX12_term_30 rfl (lv_at hl 1 rfl) ?_
          refine ci_ C hW (runV (x := (g.2.2.1 13)) (As := []) (rest := []) (T := (((hv (hv J [] [(13, 56), (13, 57), (13, 60)] u1) [] [(13, 56), (13, 57), (13, 60)] Gl2), L, I, P, E, N), sgM g)) C hW (c_X12_sign_e l g (hv (hv J [] [(13, 56), (13, 57), (13, 60)] u1) [] [(13, 56), (13, 57), (13, 60)] Gl2) L I P E N H.size  hwm (show 0 ≤ (Gl2 13 56).toInt from by omega) (show ((J 13 58).toInt < 0 ∧ (J 13 59).toInt ≤ 60) ∨ (0 ≤ (J 13 58).toInt ∧ (J 13 58).toInt + (J 13 59).toInt ≤ 1800) from by omega)) mi_X12_sign tw_1358 (recv_ (T := (((hv (hv J [] [(13, 56), (13, 57), (13, 60)] u1) [] [(13, 56), (13, 57), (13, 60)] Gl2), L, I, P, E, N), sgM g)) C hW (mm_ rfl) rfl rfl) ⟨rfl, rfl, by (simp only [RM]; omega), by (simp only [RM]; omega)⟩ rfl hl.1 rfl (Nat.le_of_ble_eq_true rfl) dX12_term_31 ⟨Nat.le_of_ble_eq_true rfl, Nat.le_of_ble_eq_true rfl⟩) (fun r6 u6 H locs hp6 hW => ?_)
          obtain ⟨hf6_0, hf6_1⟩ : (r6.toInt = (NX (RBY (J 13 58) (J 153) (J 124)) (J 13 59)) (Gl2 13 56).toInt.toNat) ∧ (r6.toInt = -1 ∨ (Gl2 13 56).toInt < (J 13 59).toInt) := hp6
          have hW : WB g A s.heap H locs ((hv (hv J [] [(13, 56), (13, 57), (13, 60)] u1) [] [(13, 56), (13, 57), (13, 60)] Gl2), L, I, P, E, N) (sgM g) := hW
          refine lv_istore_n (lv' := [(2, .int r6), (1, .int m1), (0, .ref (g.2.2.1 13))]) hx hb dX12_term_34 rfl hl (by decide) rfl (fun ls hl => ?_)
          refine lv_aload_n hx hb dX12_term_35 rfl (lv_at hl 2 rfl) ?_
          refine lv_dup hx hb dX12_term_36 rfl ?_
          refine rg_13_56 C hW (mm_ rfl) tw_1079 dX12_term_37 ?_
          refine lv_as (Gl2 13 56) rfl ?_
          refine lv_iconst (v := 1) hx hb dX12_term_40 (by decide) ?_
          refine lv_iadd hx hb dX12_term_41 ?_
          refine lv_topi (fun x7 (e7 : x7 = (Gl2 13 56) + 1) => ?_)
          try have t7 : x7.toInt = (Gl2 13 56).toInt + 1 := tadd e7 rfl kp1 (by omega)
          refine rp_13_56 C hW (mm_ rfl) tw_1079 dX12_term_42 (fun H locs hW => ?_)
          refine lv_aload_n hx hb dX12_term_45 rfl (lv_at hl 2 rfl) ?_
          refine ci_ C hW (runV (x := (g.2.2.1 13)) (As := []) (rest := []) (T := (((up2 (hv (hv J [] [(13, 56), (13, 57), (13, 60)] u1) [] [(13, 56), (13, 57), (13, 60)] Gl2) 13 56 x7), L, I, P, E, N), sgM g)) C hW (hu l g (up2 (hv (hv J [] [(13, 56), (13, 57), (13, 60)] u1) [] [(13, 56), (13, 57), (13, 60)] Gl2) 13 56 x7) L I P E N H.size  hwm (show 0 ≤ (x7).toInt from by omega) (show ((J 13 58).toInt < 0 ∧ (J 13 59).toInt ≤ 60) ∨ (0 ≤ (J 13 58).toInt ∧ (J 13 58).toInt + (J 13 59).toInt ≤ 1800) from by omega) (show ¬ (Gl2 13 60).toInt = 0 ∧ (Gl2 13 57).toInt = 5 - (d : Int) from by omega) (show (d : Int) ≤ 5 from by omega)) mi_X12_unit tw_1354 (recv_ (T := (((up2 (hv (hv J [] [(13, 56), (13, 57), (13, 60)] u1) [] [(13, 56), (13, 57), (13, 60)] Gl2) 13 56 x7), L, I, P, E, N), sgM g)) C hW (mm_ rfl) rfl rfl) ⟨rfl, rfl, by (simp only [RM]; omega), by (simp only [RM]; omega)⟩ rfl hl.1 rfl (Nat.le_of_ble_eq_true rfl) dX12_term_46 ⟨Nat.le_of_ble_eq_true rfl, Nat.le_of_ble_eq_true rfl⟩) (fun r8 u8 H locs hp8 hW => ?_)
          obtain ⟨hf8_0, hf8_1⟩ : ((¬ (u8 13 60).toInt = 0 ∧ ((u8 13 57).toInt = 5 - (d : Int)) ∧ ∃ c, PT (NX (RBY (J 13 58) (J 153) (J 124)) (J 13 59)) 4 (d : Nat) (x7).toInt.toNat (u8 13 56).toInt.toNat c ∧ VAL (LTR (J 154)) c r8) ∨ ((u8 13 60).toInt = 0 ∧ PF (NX (RBY (J 13 58) (J 153) (J 124)) (J 13 59)) 4 (d : Nat) (x7).toInt.toNat (u8 13 56).toInt.toNat)) ∧ ((x7).toInt ≤ (u8 13 56).toInt) := hp8
          have hW : WB g A s.heap H locs ((hv (up2 (hv (hv J [] [(13, 56), (13, 57), (13, 60)] u1) [] [(13, 56), (13, 57), (13, 60)] Gl2) 13 56 x7) [] [(13, 56), (13, 57), (13, 60)] u8), L, I, P, E, N) (sgM g) := hW
          have hB := hf8_0
          refine lv_istore_n (lv' := [(3, .int r8), (2, .int r6), (1, .int m1), (0, .ref (g.2.2.1 13))]) hx hb dX12_term_49 rfl hl (by decide) rfl (fun ls hl => ?_)
          refine lv_iload_n hx hb dX12_term_50 rfl (lv_at hl 1 rfl) ?_
          refine lv_bipush (v := 42) hx hb dX12_term_51 (by decide) ?_
          refine lv_icmp_ne (tgt := 67) hx hb dX12_term_53 (by decide) (fun c9 => ?_) (fun c9 => ?_)
          · have c9 : ¬ r6.toInt = 42 := tne rfl kp42 c9
            refine lv_iload_n hx hb dX12_term_67 rfl (lv_at hl 0 rfl) ?_
            refine lv_if_ne (tgt := 75) hx hb dX12_term_68 (by decide) (fun c10 => ?_) (fun c10 => ?_)
            · have c10 : ¬ r8.toInt = 0 := tne rfl kp0 c10
              refine lv_iload_n hx hb dX12_term_75 rfl (lv_at hl 2 rfl) ?_
              refine lv_i2l (v := m1.toInt64) hx hb dX12_term_76 rfl ?_
              refine lv_iload_n hx hb dX12_term_77 rfl (lv_at hl 0 rfl) ?_
              refine lv_i2l (v := r8.toInt64) hx hb dX12_term_78 rfl ?_
              refine lv_ldiv hx hb dX12_term_79 (l64nz (by omega)) ?_
              refine lv_topl (fun z11 ez11 => ?_)
              refine ci_ C hW (runS (As := [.long z11]) (rest := []) (T := (((hv (up2 (hv (hv J [] [(13, 56), (13, 57), (13, 60)] u1) [] [(13, 56), (13, 57), (13, 60)] Gl2) 13 56 x7) [] [(13, 56), (13, 57), (13, 60)] u8), L, I, P, E, N), sgM g)) C hW (c_X12_held_e l g (hv (up2 (hv (hv J [] [(13, 56), (13, 57), (13, 60)] u1) [] [(13, 56), (13, 57), (13, 60)] Gl2) 13 56 x7) [] [(13, 56), (13, 57), (13, 60)] u8) L I P E N H.size z11 ) mi_X12_held tw_1373 ⟨rfl, rfl, by (simp only [RM]; omega), by (simp only [RM]; omega)⟩ rfl hl.1 rfl (Nat.le_of_ble_eq_true rfl) dX12_term_80 ⟨Nat.le_of_ble_eq_true rfl, Nat.le_of_ble_eq_true rfl⟩) (fun r12 u12 H locs hp12 hW => ?_)
              have hf12_0 : (r12 = hld z11) := hp12
              clear hp12
              have hW : WB g A s.heap H locs ((hv (up2 (hv (hv J [] [(13, 56), (13, 57), (13, 60)] u1) [] [(13, 56), (13, 57), (13, 60)] Gl2) 13 56 x7) [] [(13, 56), (13, 57), (13, 60)] u8), L, I, P, E, N) (sgM g) := hW
              refine lv_istore_n (lv' := [(1, .int r12), (3, .int r8), (2, .int r6), (0, .ref (g.2.2.1 13))]) hx hb dX12_term_83 rfl hl (by decide) rfl (fun ls hl => ?_)
              refine lv_goto (tgt := 5) hx hb dX12_term_84 (by decide) ?_
              have hWl : WB g A s.heap H locs ((hv (hv J [] [(13, 56), (13, 57), (13, 60)] u1) [] [(13, 56), (13, 57), (13, 60)] (hv (up2 (hv (hv J [] [(13, 56), (13, 57), (13, 60)] u1) [] [(13, 56), (13, 57), (13, 60)] Gl2) 13 56 x7) [] [(13, 56), (13, 57), (13, 60)] u8)), L, I, P, E, N) (sgM g) := by
                rw [← ag_hvE (J := (hv J [] [(13, 56), (13, 57), (13, 60)] u1)) (R := []) (F := [(13, 56), (13, 57), (13, 60)]) (ag_hv rfl rfl (ag_up (Or.inr rfl) (ag_hv rfl rfl ag_rf)))]
                exact hW
              refine ih r12 (hv (up2 (hv (hv J [] [(13, 56), (13, 57), (13, 60)] u1) [] [(13, 56), (13, 57), (13, 60)] Gl2) 13 56 x7) [] [(13, 56), (13, 57), (13, 60)] u8) H locs ls ?_ ?_ ?_ hWl (lv_sub hl [0, 3] rfl)
              · show (1800 - (u8 13 56).toInt).toNat < n
                omega
              · show 0 ≤ (u8 13 56).toInt ∧ (J 13 56).toInt ≤ (u8 13 56).toInt
                first | omega | exact hi | assumption
              · show (¬ (u8 13 60).toInt = 0 ∧ ((u8 13 57).toInt = 5 - (d : Int)) ∧ ∃ c, CT (NX (RBY (J 13 58) (J 153) (J 124)) (J 13 59)) 3 d (u8 13 56).toInt.toNat 2 (J 13 56).toInt.toNat c ∧ VAL (LTR (J 154)) c r12) ∨ ((u8 13 60).toInt = 0 ∧ PF (NX (RBY (J 13 58) (J 153) (J 124)) (J 13 59)) 2 d (J 13 56).toInt.toNat (u8 13 56).toInt.toNat)
                exact stp (Or.inr rfl) hct hval (by omega) (by omega) hB (by exact op_div (by omega) (by omega) ez11 hf12_0)
            · have c10 : r8.toInt = 0 := teq rfl kp0 c10
              refine lv_iconst (v := 0) hx hb dX12_term_71 (by decide) ?_
              refine lv_goto (tgt := 83) hx hb dX12_term_72 (by decide) ?_
              refine lv_istore_n (lv' := [(1, .int 0), (3, .int r8), (2, .int r6), (0, .ref (g.2.2.1 13))]) hx hb dX12_term_83 rfl hl (by decide) rfl (fun ls hl => ?_)
              refine lv_goto (tgt := 5) hx hb dX12_term_84 (by decide) ?_
              have hWl : WB g A s.heap H locs ((hv (hv J [] [(13, 56), (13, 57), (13, 60)] u1) [] [(13, 56), (13, 57), (13, 60)] (hv (up2 (hv (hv J [] [(13, 56), (13, 57), (13, 60)] u1) [] [(13, 56), (13, 57), (13, 60)] Gl2) 13 56 x7) [] [(13, 56), (13, 57), (13, 60)] u8)), L, I, P, E, N) (sgM g) := by
                rw [← ag_hvE (J := (hv J [] [(13, 56), (13, 57), (13, 60)] u1)) (R := []) (F := [(13, 56), (13, 57), (13, 60)]) (ag_hv rfl rfl (ag_up (Or.inr rfl) (ag_hv rfl rfl ag_rf)))]
                exact hW
              refine ih 0 (hv (up2 (hv (hv J [] [(13, 56), (13, 57), (13, 60)] u1) [] [(13, 56), (13, 57), (13, 60)] Gl2) 13 56 x7) [] [(13, 56), (13, 57), (13, 60)] u8) H locs ls ?_ ?_ ?_ hWl (lv_sub hl [0, 3] rfl)
              · show (1800 - (u8 13 56).toInt).toNat < n
                omega
              · show 0 ≤ (u8 13 56).toInt ∧ (J 13 56).toInt ≤ (u8 13 56).toInt
                first | omega | exact hi | assumption
              · show (¬ (u8 13 60).toInt = 0 ∧ ((u8 13 57).toInt = 5 - (d : Int)) ∧ ∃ c, CT (NX (RBY (J 13 58) (J 153) (J 124)) (J 13 59)) 3 d (u8 13 56).toInt.toNat 2 (J 13 56).toInt.toNat c ∧ VAL (LTR (J 154)) c (0 : Int32)) ∨ ((u8 13 60).toInt = 0 ∧ PF (NX (RBY (J 13 58) (J 153) (J 124)) (J 13 59)) 2 d (J 13 56).toInt.toNat (u8 13 56).toInt.toNat)
                exact stp (Or.inr rfl) hct hval (by omega) (by omega) hB (by exact op_dz (by omega) (by omega))
          · have c9 : r6.toInt = 42 := teq rfl kp42 c9
            refine lv_iload_n hx hb dX12_term_56 rfl (lv_at hl 2 rfl) ?_
            refine lv_i2l (v := m1.toInt64) hx hb dX12_term_57 rfl ?_
            refine lv_iload_n hx hb dX12_term_58 rfl (lv_at hl 0 rfl) ?_
            refine lv_i2l (v := r8.toInt64) hx hb dX12_term_59 rfl ?_
            refine lv_lmul hx hb dX12_term_60 ?_
            refine lv_topl (fun z13 ez13 => ?_)
            refine ci_ C hW (runS (As := [.long z13]) (rest := []) (T := (((hv (up2 (hv (hv J [] [(13, 56), (13, 57), (13, 60)] u1) [] [(13, 56), (13, 57), (13, 60)] Gl2) 13 56 x7) [] [(13, 56), (13, 57), (13, 60)] u8), L, I, P, E, N), sgM g)) C hW (c_X12_held_e l g (hv (up2 (hv (hv J [] [(13, 56), (13, 57), (13, 60)] u1) [] [(13, 56), (13, 57), (13, 60)] Gl2) 13 56 x7) [] [(13, 56), (13, 57), (13, 60)] u8) L I P E N H.size z13 ) mi_X12_held tw_1373 ⟨rfl, rfl, by (simp only [RM]; omega), by (simp only [RM]; omega)⟩ rfl hl.1 rfl (Nat.le_of_ble_eq_true rfl) dX12_term_61 ⟨Nat.le_of_ble_eq_true rfl, Nat.le_of_ble_eq_true rfl⟩) (fun r14 u14 H locs hp14 hW => ?_)
            have hf14_0 : (r14 = hld z13) := hp14
            clear hp14
            have hW : WB g A s.heap H locs ((hv (up2 (hv (hv J [] [(13, 56), (13, 57), (13, 60)] u1) [] [(13, 56), (13, 57), (13, 60)] Gl2) 13 56 x7) [] [(13, 56), (13, 57), (13, 60)] u8), L, I, P, E, N) (sgM g) := hW
            refine lv_goto (tgt := 83) hx hb dX12_term_64 (by decide) ?_
            refine lv_istore_n (lv' := [(1, .int r14), (3, .int r8), (2, .int r6), (0, .ref (g.2.2.1 13))]) hx hb dX12_term_83 rfl hl (by decide) rfl (fun ls hl => ?_)
            refine lv_goto (tgt := 5) hx hb dX12_term_84 (by decide) ?_
            have hWl : WB g A s.heap H locs ((hv (hv J [] [(13, 56), (13, 57), (13, 60)] u1) [] [(13, 56), (13, 57), (13, 60)] (hv (up2 (hv (hv J [] [(13, 56), (13, 57), (13, 60)] u1) [] [(13, 56), (13, 57), (13, 60)] Gl2) 13 56 x7) [] [(13, 56), (13, 57), (13, 60)] u8)), L, I, P, E, N) (sgM g) := by
              rw [← ag_hvE (J := (hv J [] [(13, 56), (13, 57), (13, 60)] u1)) (R := []) (F := [(13, 56), (13, 57), (13, 60)]) (ag_hv rfl rfl (ag_up (Or.inr rfl) (ag_hv rfl rfl ag_rf)))]
              exact hW
            refine ih r14 (hv (up2 (hv (hv J [] [(13, 56), (13, 57), (13, 60)] u1) [] [(13, 56), (13, 57), (13, 60)] Gl2) 13 56 x7) [] [(13, 56), (13, 57), (13, 60)] u8) H locs ls ?_ ?_ ?_ hWl (lv_sub hl [0, 3] rfl)
            · show (1800 - (u8 13 56).toInt).toNat < n
              omega
            · show 0 ≤ (u8 13 56).toInt ∧ (J 13 56).toInt ≤ (u8 13 56).toInt
              first | omega | exact hi | assumption
            · show (¬ (u8 13 60).toInt = 0 ∧ ((u8 13 57).toInt = 5 - (d : Int)) ∧ ∃ c, CT (NX (RBY (J 13 58) (J 153) (J 124)) (J 13 59)) 3 d (u8 13 56).toInt.toNat 2 (J 13 56).toInt.toNat c ∧ VAL (LTR (J 154)) c r14) ∨ ((u8 13 60).toInt = 0 ∧ PF (NX (RBY (J 13 58) (J 153) (J 124)) (J 13 59)) 2 d (J 13 56).toInt.toNat (u8 13 56).toInt.toNat)
              exact stp (Or.inr rfl) hct hval (by omega) (by omega) hB (by exact op_ar (Or.inr (Or.inr ⟨by omega, ez13⟩)) hf14_0)
        · have c5 : ¬ r4.toInt = 42 := tne rfl kp42 c5
          refine lv_aload_n hx hb dX12_term_21 rfl (lv_at hl 1 rfl) ?_
          refine ci_ C hW (runV (x := (g.2.2.1 13)) (As := []) (rest := []) (T := (((hv (hv J [] [(13, 56), (13, 57), (13, 60)] u1) [] [(13, 56), (13, 57), (13, 60)] Gl2), L, I, P, E, N), sgM g)) C hW (c_X12_sign_e l g (hv (hv J [] [(13, 56), (13, 57), (13, 60)] u1) [] [(13, 56), (13, 57), (13, 60)] Gl2) L I P E N H.size  hwm (show 0 ≤ (Gl2 13 56).toInt from by omega) (show ((J 13 58).toInt < 0 ∧ (J 13 59).toInt ≤ 60) ∨ (0 ≤ (J 13 58).toInt ∧ (J 13 58).toInt + (J 13 59).toInt ≤ 1800) from by omega)) mi_X12_sign tw_1358 (recv_ (T := (((hv (hv J [] [(13, 56), (13, 57), (13, 60)] u1) [] [(13, 56), (13, 57), (13, 60)] Gl2), L, I, P, E, N), sgM g)) C hW (mm_ rfl) rfl rfl) ⟨rfl, rfl, by (simp only [RM]; omega), by (simp only [RM]; omega)⟩ rfl hl.1 rfl (Nat.le_of_ble_eq_true rfl) dX12_term_22 ⟨Nat.le_of_ble_eq_true rfl, Nat.le_of_ble_eq_true rfl⟩) (fun r15 u15 H locs hp15 hW => ?_)
          obtain ⟨hf15_0, hf15_1⟩ : (r15.toInt = (NX (RBY (J 13 58) (J 153) (J 124)) (J 13 59)) (Gl2 13 56).toInt.toNat) ∧ (r15.toInt = -1 ∨ (Gl2 13 56).toInt < (J 13 59).toInt) := hp15
          have hW : WB g A s.heap H locs ((hv (hv J [] [(13, 56), (13, 57), (13, 60)] u1) [] [(13, 56), (13, 57), (13, 60)] Gl2), L, I, P, E, N) (sgM g) := hW
          refine lv_bipush (v := 47) hx hb dX12_term_25 (by decide) ?_
          refine lv_icmp_ne (tgt := 87) hx hb dX12_term_27 (by decide) (fun c16 => ?_) (fun c16 => ?_)
          · have c16 : ¬ r15.toInt = 47 := tne rfl kp47 c16
            refine lv_iload_n hx hb dX12_term_87 rfl (lv_at hl 0 rfl) ?_
            have hWr : WB g A s.heap H locs (hv J [] [(13, 56), (13, 57), (13, 60)] (hv (hv J [] [(13, 56), (13, 57), (13, 60)] u1) [] [(13, 56), (13, 57), (13, 60)] Gl2), L, I, P, E, N) (sgM g) := by
              rw [← ag_hvE (J := J) (R := []) (F := [(13, 56), (13, 57), (13, 60)]) (ag_hv rfl rfl (ag_hv rfl rfl ag_rf))]
              exact hW
            exact end_i C hr hlocks (hv (hv J [] [(13, 56), (13, 57), (13, 60)] u1) [] [(13, 56), (13, 57), (13, 60)] Gl2) hWr ⟨show (¬ (Gl2 13 60).toInt = 0 ∧ ((Gl2 13 57).toInt = 5 - (d : Int)) ∧ ∃ c, PT (NX (RBY (J 13 58) (J 153) (J 124)) (J 13 59)) 2 (d : Nat) (J 13 56).toInt.toNat (Gl2 13 56).toInt.toNat c ∧ VAL (LTR (J 154)) c m1) ∨ ((Gl2 13 60).toInt = 0 ∧ PF (NX (RBY (J 13 58) (J 153) (J 124)) (J 13 59)) 2 (d : Nat) (J 13 56).toInt.toNat (Gl2 13 56).toInt.toNat) from by exact Or.inl ⟨by omega, hd9, c9, ct_end (Or.inr rfl) hct (by omega), hval⟩, show (J 13 56).toInt ≤ (Gl2 13 56).toInt from by omega⟩ dX12_term_88
          · have c16 : r15.toInt = 47 := teq rfl kp47 c16
            refine lv_aload_n hx hb dX12_term_30 rfl (lv_at hl 1 rfl) ?_
            refine ci_ C hW (runV (x := (g.2.2.1 13)) (As := []) (rest := []) (T := (((hv (hv J [] [(13, 56), (13, 57), (13, 60)] u1) [] [(13, 56), (13, 57), (13, 60)] Gl2), L, I, P, E, N), sgM g)) C hW (c_X12_sign_e l g (hv (hv J [] [(13, 56), (13, 57), (13, 60)] u1) [] [(13, 56), (13, 57), (13, 60)] Gl2) L I P E N H.size  hwm (show 0 ≤ (Gl2 13 56).toInt from by omega) (show ((J 13 58).toInt < 0 ∧ (J 13 59).toInt ≤ 60) ∨ (0 ≤ (J 13 58).toInt ∧ (J 13 58).toInt + (J 13 59).toInt ≤ 1800) from by omega)) mi_X12_sign tw_1358 (recv_ (T := (((hv (hv J [] [(13, 56), (13, 57), (13, 60)] u1) [] [(13, 56), (13, 57), (13, 60)] Gl2), L, I, P, E, N), sgM g)) C hW (mm_ rfl) rfl rfl) ⟨rfl, rfl, by (simp only [RM]; omega), by (simp only [RM]; omega)⟩ rfl hl.1 rfl (Nat.le_of_ble_eq_true rfl) dX12_term_31 ⟨Nat.le_of_ble_eq_true rfl, Nat.le_of_ble_eq_true rfl⟩) (fun r17 u17 H locs hp17 hW => ?_)
            obtain ⟨hf17_0, hf17_1⟩ : (r17.toInt = (NX (RBY (J 13 58) (J 153) (J 124)) (J 13 59)) (Gl2 13 56).toInt.toNat) ∧ (r17.toInt = -1 ∨ (Gl2 13 56).toInt < (J 13 59).toInt) := hp17
            have hW : WB g A s.heap H locs ((hv (hv J [] [(13, 56), (13, 57), (13, 60)] u1) [] [(13, 56), (13, 57), (13, 60)] Gl2), L, I, P, E, N) (sgM g) := hW
            refine lv_istore_n (lv' := [(2, .int r17), (1, .int m1), (0, .ref (g.2.2.1 13))]) hx hb dX12_term_34 rfl hl (by decide) rfl (fun ls hl => ?_)
            refine lv_aload_n hx hb dX12_term_35 rfl (lv_at hl 2 rfl) ?_
            refine lv_dup hx hb dX12_term_36 rfl ?_
            refine rg_13_56 C hW (mm_ rfl) tw_1079 dX12_term_37 ?_
            refine lv_as (Gl2 13 56) rfl ?_
            refine lv_iconst (v := 1) hx hb dX12_term_40 (by decide) ?_
            refine lv_iadd hx hb dX12_term_41 ?_
            refine lv_topi (fun x18 (e18 : x18 = (Gl2 13 56) + 1) => ?_)
            try have t18 : x18.toInt = (Gl2 13 56).toInt + 1 := tadd e18 rfl kp1 (by omega)
            refine rp_13_56 C hW (mm_ rfl) tw_1079 dX12_term_42 (fun H locs hW => ?_)
            refine lv_aload_n hx hb dX12_term_45 rfl (lv_at hl 2 rfl) ?_
            refine ci_ C hW (runV (x := (g.2.2.1 13)) (As := []) (rest := []) (T := (((up2 (hv (hv J [] [(13, 56), (13, 57), (13, 60)] u1) [] [(13, 56), (13, 57), (13, 60)] Gl2) 13 56 x18), L, I, P, E, N), sgM g)) C hW (hu l g (up2 (hv (hv J [] [(13, 56), (13, 57), (13, 60)] u1) [] [(13, 56), (13, 57), (13, 60)] Gl2) 13 56 x18) L I P E N H.size  hwm (show 0 ≤ (x18).toInt from by omega) (show ((J 13 58).toInt < 0 ∧ (J 13 59).toInt ≤ 60) ∨ (0 ≤ (J 13 58).toInt ∧ (J 13 58).toInt + (J 13 59).toInt ≤ 1800) from by omega) (show ¬ (Gl2 13 60).toInt = 0 ∧ (Gl2 13 57).toInt = 5 - (d : Int) from by omega) (show (d : Int) ≤ 5 from by omega)) mi_X12_unit tw_1354 (recv_ (T := (((up2 (hv (hv J [] [(13, 56), (13, 57), (13, 60)] u1) [] [(13, 56), (13, 57), (13, 60)] Gl2) 13 56 x18), L, I, P, E, N), sgM g)) C hW (mm_ rfl) rfl rfl) ⟨rfl, rfl, by (simp only [RM]; omega), by (simp only [RM]; omega)⟩ rfl hl.1 rfl (Nat.le_of_ble_eq_true rfl) dX12_term_46 ⟨Nat.le_of_ble_eq_true rfl, Nat.le_of_ble_eq_true rfl⟩) (fun r19 u19 H locs hp19 hW => ?_)
            obtain ⟨hf19_0, hf19_1⟩ : ((¬ (u19 13 60).toInt = 0 ∧ ((u19 13 57).toInt = 5 - (d : Int)) ∧ ∃ c, PT (NX (RBY (J 13 58) (J 153) (J 124)) (J 13 59)) 4 (d : Nat) (x18).toInt.toNat (u19 13 56).toInt.toNat c ∧ VAL (LTR (J 154)) c r19) ∨ ((u19 13 60).toInt = 0 ∧ PF (NX (RBY (J 13 58) (J 153) (J 124)) (J 13 59)) 4 (d : Nat) (x18).toInt.toNat (u19 13 56).toInt.toNat)) ∧ ((x18).toInt ≤ (u19 13 56).toInt) := hp19
            have hW : WB g A s.heap H locs ((hv (up2 (hv (hv J [] [(13, 56), (13, 57), (13, 60)] u1) [] [(13, 56), (13, 57), (13, 60)] Gl2) 13 56 x18) [] [(13, 56), (13, 57), (13, 60)] u19), L, I, P, E, N) (sgM g) := hW
            have hB := hf19_0
            refine lv_istore_n (lv' := [(3, .int r19), (2, .int r17), (1, .int m1), (0, .ref (g.2.2.1 13))]) hx hb dX12_term_49 rfl hl (by decide) rfl (fun ls hl => ?_)
            refine lv_iload_n hx hb dX12_term_50 rfl (lv_at hl 1 rfl) ?_
            refine lv_bipush (v := 42) hx hb dX12_term_51 (by decide) ?_
            refine lv_icmp_ne (tgt := 67) hx hb dX12_term_53 (by decide) (fun c20 => ?_) (fun c20 => ?_)
            · have c20 : ¬ r17.toInt = 42 := tne rfl kp42 c20
              refine lv_iload_n hx hb dX12_term_67 rfl (lv_at hl 0 rfl) ?_
              refine lv_if_ne (tgt := 75) hx hb dX12_term_68 (by decide) (fun c21 => ?_) (fun c21 => ?_)
              · have c21 : ¬ r19.toInt = 0 := tne rfl kp0 c21
                refine lv_iload_n hx hb dX12_term_75 rfl (lv_at hl 2 rfl) ?_
                refine lv_i2l (v := m1.toInt64) hx hb dX12_term_76 rfl ?_
                refine lv_iload_n hx hb dX12_term_77 rfl (lv_at hl 0 rfl) ?_
                refine lv_i2l (v := r19.toInt64) hx hb dX12_term_78 rfl ?_
                refine lv_ldiv hx hb dX12_term_79 (l64nz (by omega)) ?_
                refine lv_topl (fun z22 ez22 => ?_)
                refine ci_ C hW (runS (As := [.long z22]) (rest := []) (T := (((hv (up2 (hv (hv J [] [(13, 56), (13, 57), (13, 60)] u1) [] [(13, 56), (13, 57), (13, 60)] Gl2) 13 56 x18) [] [(13, 56), (13, 57), (13, 60)] u19), L, I, P, E, N), sgM g)) C hW (c_X12_held_e l g (hv (up2 (hv (hv J [] [(13, 56), (13, 57), (13, 60)] u1) [] [(13, 56), (13, 57), (13, 60)] Gl2) 13 56 x18) [] [(13, 56), (13, 57), (13, 60)] u19) L I P E N H.size z22 ) mi_X12_held tw_1373 ⟨rfl, rfl, by (simp only [RM]; omega), by (simp only [RM]; omega)⟩ rfl hl.1 rfl (Nat.le_of_ble_eq_true rfl) dX12_term_80 ⟨Nat.le_of_ble_eq_true rfl, Nat.le_of_ble_eq_true rfl⟩) (fun r23 u23 H locs hp23 hW => ?_)
                have hf23_0 : (r23 = hld z22) := hp23
                clear hp23
                have hW : WB g A s.heap H locs ((hv (up2 (hv (hv J [] [(13, 56), (13, 57), (13, 60)] u1) [] [(13, 56), (13, 57), (13, 60)] Gl2) 13 56 x18) [] [(13, 56), (13, 57), (13, 60)] u19), L, I, P, E, N) (sgM g) := hW
                refine lv_istore_n (lv' := [(1, .int r23), (3, .int r19), (2, .int r17), (0, .ref (g.2.2.1 13))]) hx hb dX12_term_83 rfl hl (by decide) rfl (fun ls hl => ?_)
                refine lv_goto (tgt := 5) hx hb dX12_term_84 (by decide) ?_
                have hWl : WB g A s.heap H locs ((hv (hv J [] [(13, 56), (13, 57), (13, 60)] u1) [] [(13, 56), (13, 57), (13, 60)] (hv (up2 (hv (hv J [] [(13, 56), (13, 57), (13, 60)] u1) [] [(13, 56), (13, 57), (13, 60)] Gl2) 13 56 x18) [] [(13, 56), (13, 57), (13, 60)] u19)), L, I, P, E, N) (sgM g) := by
                  rw [← ag_hvE (J := (hv J [] [(13, 56), (13, 57), (13, 60)] u1)) (R := []) (F := [(13, 56), (13, 57), (13, 60)]) (ag_hv rfl rfl (ag_up (Or.inr rfl) (ag_hv rfl rfl ag_rf)))]
                  exact hW
                refine ih r23 (hv (up2 (hv (hv J [] [(13, 56), (13, 57), (13, 60)] u1) [] [(13, 56), (13, 57), (13, 60)] Gl2) 13 56 x18) [] [(13, 56), (13, 57), (13, 60)] u19) H locs ls ?_ ?_ ?_ hWl (lv_sub hl [0, 3] rfl)
                · show (1800 - (u19 13 56).toInt).toNat < n
                  omega
                · show 0 ≤ (u19 13 56).toInt ∧ (J 13 56).toInt ≤ (u19 13 56).toInt
                  first | omega | exact hi | assumption
                · show (¬ (u19 13 60).toInt = 0 ∧ ((u19 13 57).toInt = 5 - (d : Int)) ∧ ∃ c, CT (NX (RBY (J 13 58) (J 153) (J 124)) (J 13 59)) 3 d (u19 13 56).toInt.toNat 2 (J 13 56).toInt.toNat c ∧ VAL (LTR (J 154)) c r23) ∨ ((u19 13 60).toInt = 0 ∧ PF (NX (RBY (J 13 58) (J 153) (J 124)) (J 13 59)) 2 d (J 13 56).toInt.toNat (u19 13 56).toInt.toNat)
                  exact stp (Or.inr rfl) hct hval (by omega) (by omega) hB (by exact op_div (by omega) (by omega) ez22 hf23_0)
              · have c21 : r19.toInt = 0 := teq rfl kp0 c21
                refine lv_iconst (v := 0) hx hb dX12_term_71 (by decide) ?_
                refine lv_goto (tgt := 83) hx hb dX12_term_72 (by decide) ?_
                refine lv_istore_n (lv' := [(1, .int 0), (3, .int r19), (2, .int r17), (0, .ref (g.2.2.1 13))]) hx hb dX12_term_83 rfl hl (by decide) rfl (fun ls hl => ?_)
                refine lv_goto (tgt := 5) hx hb dX12_term_84 (by decide) ?_
                have hWl : WB g A s.heap H locs ((hv (hv J [] [(13, 56), (13, 57), (13, 60)] u1) [] [(13, 56), (13, 57), (13, 60)] (hv (up2 (hv (hv J [] [(13, 56), (13, 57), (13, 60)] u1) [] [(13, 56), (13, 57), (13, 60)] Gl2) 13 56 x18) [] [(13, 56), (13, 57), (13, 60)] u19)), L, I, P, E, N) (sgM g) := by
                  rw [← ag_hvE (J := (hv J [] [(13, 56), (13, 57), (13, 60)] u1)) (R := []) (F := [(13, 56), (13, 57), (13, 60)]) (ag_hv rfl rfl (ag_up (Or.inr rfl) (ag_hv rfl rfl ag_rf)))]
                  exact hW
                refine ih 0 (hv (up2 (hv (hv J [] [(13, 56), (13, 57), (13, 60)] u1) [] [(13, 56), (13, 57), (13, 60)] Gl2) 13 56 x18) [] [(13, 56), (13, 57), (13, 60)] u19) H locs ls ?_ ?_ ?_ hWl (lv_sub hl [0, 3] rfl)
                · show (1800 - (u19 13 56).toInt).toNat < n
                  omega
                · show 0 ≤ (u19 13 56).toInt ∧ (J 13 56).toInt ≤ (u19 13 56).toInt
                  first | omega | exact hi | assumption
                · show (¬ (u19 13 60).toInt = 0 ∧ ((u19 13 57).toInt = 5 - (d : Int)) ∧ ∃ c, CT (NX (RBY (J 13 58) (J 153) (J 124)) (J 13 59)) 3 d (u19 13 56).toInt.toNat 2 (J 13 56).toInt.toNat c ∧ VAL (LTR (J 154)) c (0 : Int32)) ∨ ((u19 13 60).toInt = 0 ∧ PF (NX (RBY (J 13 58) (J 153) (J 124)) (J 13 59)) 2 d (J 13 56).toInt.toNat (u19 13 56).toInt.toNat)
                  exact stp (Or.inr rfl) hct hval (by omega) (by omega) hB (by exact op_dz (by omega) (by omega))
            · have c20 : r17.toInt = 42 := teq rfl kp42 c20
              refine lv_iload_n hx hb dX12_term_56 rfl (lv_at hl 2 rfl) ?_
              refine lv_i2l (v := m1.toInt64) hx hb dX12_term_57 rfl ?_
              refine lv_iload_n hx hb dX12_term_58 rfl (lv_at hl 0 rfl) ?_
              refine lv_i2l (v := r19.toInt64) hx hb dX12_term_59 rfl ?_
              refine lv_lmul hx hb dX12_term_60 ?_
              refine lv_topl (fun z24 ez24 => ?_)
              refine ci_ C hW (runS (As := [.long z24]) (rest := []) (T := (((hv (up2 (hv (hv J [] [(13, 56), (13, 57), (13, 60)] u1) [] [(13, 56), (13, 57), (13, 60)] Gl2) 13 56 x18) [] [(13, 56), (13, 57), (13, 60)] u19), L, I, P, E, N), sgM g)) C hW (c_X12_held_e l g (hv (up2 (hv (hv J [] [(13, 56), (13, 57), (13, 60)] u1) [] [(13, 56), (13, 57), (13, 60)] Gl2) 13 56 x18) [] [(13, 56), (13, 57), (13, 60)] u19) L I P E N H.size z24 ) mi_X12_held tw_1373 ⟨rfl, rfl, by (simp only [RM]; omega), by (simp only [RM]; omega)⟩ rfl hl.1 rfl (Nat.le_of_ble_eq_true rfl) dX12_term_61 ⟨Nat.le_of_ble_eq_true rfl, Nat.le_of_ble_eq_true rfl⟩) (fun r25 u25 H locs hp25 hW => ?_)
              have hf25_0 : (r25 = hld z24) := hp25
              clear hp25
              have hW : WB g A s.heap H locs ((hv (up2 (hv (hv J [] [(13, 56), (13, 57), (13, 60)] u1) [] [(13, 56), (13, 57), (13, 60)] Gl2) 13 56 x18) [] [(13, 56), (13, 57), (13, 60)] u19), L, I, P, E, N) (sgM g) := hW
              refine lv_goto (tgt := 83) hx hb dX12_term_64 (by decide) ?_
              refine lv_istore_n (lv' := [(1, .int r25), (3, .int r19), (2, .int r17), (0, .ref (g.2.2.1 13))]) hx hb dX12_term_83 rfl hl (by decide) rfl (fun ls hl => ?_)
              refine lv_goto (tgt := 5) hx hb dX12_term_84 (by decide) ?_
              have hWl : WB g A s.heap H locs ((hv (hv J [] [(13, 56), (13, 57), (13, 60)] u1) [] [(13, 56), (13, 57), (13, 60)] (hv (up2 (hv (hv J [] [(13, 56), (13, 57), (13, 60)] u1) [] [(13, 56), (13, 57), (13, 60)] Gl2) 13 56 x18) [] [(13, 56), (13, 57), (13, 60)] u19)), L, I, P, E, N) (sgM g) := by
                rw [← ag_hvE (J := (hv J [] [(13, 56), (13, 57), (13, 60)] u1)) (R := []) (F := [(13, 56), (13, 57), (13, 60)]) (ag_hv rfl rfl (ag_up (Or.inr rfl) (ag_hv rfl rfl ag_rf)))]
                exact hW
              refine ih r25 (hv (up2 (hv (hv J [] [(13, 56), (13, 57), (13, 60)] u1) [] [(13, 56), (13, 57), (13, 60)] Gl2) 13 56 x18) [] [(13, 56), (13, 57), (13, 60)] u19) H locs ls ?_ ?_ ?_ hWl (lv_sub hl [0, 3] rfl)
              · show (1800 - (u19 13 56).toInt).toNat < n
                omega
              · show 0 ≤ (u19 13 56).toInt ∧ (J 13 56).toInt ≤ (u19 13 56).toInt
                first | omega | exact hi | assumption
              · show (¬ (u19 13 60).toInt = 0 ∧ ((u19 13 57).toInt = 5 - (d : Int)) ∧ ∃ c, CT (NX (RBY (J 13 58) (J 153) (J 124)) (J 13 59)) 3 d (u19 13 56).toInt.toNat 2 (J 13 56).toInt.toNat c ∧ VAL (LTR (J 154)) c r25) ∨ ((u19 13 60).toInt = 0 ∧ PF (NX (RBY (J 13 58) (J 153) (J 124)) (J 13 59)) 2 d (J 13 56).toInt.toNat (u19 13 56).toInt.toNat)
                exact stp (Or.inr rfl) hct hval (by omega) (by omega) hB (by exact op_ar (Or.inr (Or.inr ⟨by omega, ez24⟩)) hf25_0)
  -- into the loop
  have hWl : WB g A s.heap H locs ((hv (hv J [] [(13, 56), (13, 57), (13, 60)] u1) [] [(13, 56), (13, 57), (13, 60)] (hv J [] [(13, 56), (13, 57), (13, 60)] u1)), L, I, P, E, N) (sgM g) := by
    rw [← ag_hvE (J := (hv J [] [(13, 56), (13, 57), (13, 60)] u1)) (R := []) (F := [(13, 56), (13, 57), (13, 60)]) ag_rf]
    exact hW
  refine loop5 ((1800 - (u1 13 56).toInt).toNat + 1) r1 (hv J [] [(13, 56), (13, 57), (13, 60)] u1) H locs ls ?_ ?_ ?_ hWl (lv_sub hl [0, 1] rfl)
  · exact Nat.lt_succ_self _
  · show 0 ≤ (u1 13 56).toInt ∧ (J 13 56).toInt ≤ (u1 13 56).toInt
    first | omega | exact hi | assumption
  · show (¬ (u1 13 60).toInt = 0 ∧ ((u1 13 57).toInt = 5 - (d : Int)) ∧ ∃ c, CT (NX (RBY (J 13 58) (J 153) (J 124)) (J 13 59)) 3 d (u1 13 56).toInt.toNat 2 (J 13 56).toInt.toNat c ∧ VAL (LTR (J 154)) c r1) ∨ ((u1 13 60).toInt = 0 ∧ PF (NX (RBY (J 13 58) (J 153) (J 124)) (J 13 59)) 2 d (J 13 56).toInt.toNat (u1 13 56).toInt.toNat)
    exact sti (Or.inr rfl) hA

set_option maxHeartbeats 4000000 in
set_option maxRecDepth 100000 in
theorem c_X12_sum_e (d : Nat) (ht : TERMC_e d) (l : Launch) (g : gG) (J : Nat → Nat → Int32) (L : Nat → Nat → Int64) (I : Nat → Nat → Nat → Int32) (P : Nat → Nat → Nat → Option Nat) (E : Nat → Option Nat) (N : Nat → Nat) (sz : Nat)  (hwm : WM J) (hat : 0 ≤ (J 13 56).toInt) (hps : ((J 13 58).toInt < 0 ∧ (J 13 59).toInt ≤ 60) ∨ (0 ≤ (J 13 58).toInt ∧ (J 13 58).toInt + (J 13 59).toInt ≤ 1800)) (hd : ¬ (J 13 60).toInt = 0 ∧ (J 13 57).toInt = 5 - (d : Int)) (hd5 : (d : Int) ≤ 5) : Met l yX12_sum (WS yX12_sum cX12_sum 4 (some .int)) (RM (4 * d + 8) 0 0) (PC g [.ref (g.2.2.1 13)] ((J, L, I, P, E, N), sgM g) sz) (va_Qi (fun (r : Int32) (u : (Nat → Nat → Int32)) => ((¬ (u 13 60).toInt = 0 ∧ ((u 13 57).toInt = 5 - (d : Int)) ∧ ∃ c, PT (NX (RBY (J 13 58) (J 153) (J 124)) (J 13 59)) 0 (d : Nat) (J 13 56).toInt.toNat (u 13 56).toInt.toNat c ∧ VAL (LTR (J 154)) c r) ∨ ((u 13 60).toInt = 0 ∧ PF (NX (RBY (J 13 58) (J 153) (J 124)) (J 13 59)) 0 (d : Nat) (J 13 56).toInt.toNat (u 13 56).toInt.toNat)) ∧ ((J 13 56).toInt ≤ (u 13 56).toInt)) (fun u t => at_ g (FR g ((J, L, I, P, E, N), sgM g) sz) ((hv J [] [(13, 56), (13, 57), (13, 60)] u, L, I, P, E, N), sgM g) t) (FR g ((J, L, I, P, E, N), sgM g) sz)) 0 0 (FR g ((J, L, I, P, E, N), sgM g) sz) := by
  refine ent (by decide +kernel) (Nat.le_of_ble_eq_true rfl) ?_
  intro p e s m below meth c ls hsz C hW hr hlocks hname hl
  generalize FR g ((J, L, I, P, E, N), sgM g) sz = A at C hW ⊢
  have hx := C.1.1
  have hb := C.1.2.1
  have hts := C.1.2.2.2.2
  have hW : WB g A s.heap s.heap [] (J, L, I, P, E, N) (sgM g) := hW
  have hl : lv_has ls 4 [(0, .ref (g.2.2.1 13))] := hl
  obtain ⟨H, hH⟩ : ∃ H : Heap, H = s.heap := ⟨_, rfl⟩
  obtain ⟨locs, hlocs⟩ : ∃ q : List Loc, q = [] := ⟨_, rfl⟩
  have hW : WB g A s.heap H locs (J, L, I, P, E, N) (sgM g) := by rw [hH, hlocs]; exact hW
  obtain ⟨⟨hnd1, hnd2, hon, hhm1, hhm2, hhN, hcu1, hcu2, hco1, hco2, hcN⟩, ⟨hrd1, hrd2⟩, ⟨hnw1, hnw2, hns1, hns2, hof⟩, ⟨htm1, htm2, hts_⟩, ⟨had1, had2, hrw1, hrw2, htp1, htp2⟩⟩ := id hwm
  refine start_ hH hlocs ?_
  refine lv_aload_n hx hb dX12_sum_0 rfl (lv_at hl 0 rfl) ?_
  refine ci_ C hW (runV (x := (g.2.2.1 13)) (As := []) (rest := []) (T := ((J, L, I, P, E, N), sgM g)) C hW (ht l g J L I P E N H.size  hwm (show 0 ≤ (J 13 56).toInt from by omega) (show ((J 13 58).toInt < 0 ∧ (J 13 59).toInt ≤ 60) ∨ (0 ≤ (J 13 58).toInt ∧ (J 13 58).toInt + (J 13 59).toInt ≤ 1800) from by omega) (show ¬ (J 13 60).toInt = 0 ∧ (J 13 57).toInt = 5 - (d : Int) from by omega) (show (d : Int) ≤ 5 from by omega)) mi_X12_term tw_1350 (recv_ (T := ((J, L, I, P, E, N), sgM g)) C hW (mm_ rfl) rfl rfl) ⟨rfl, rfl, by (simp only [RM]; omega), by (simp only [RM]; omega)⟩ rfl hl.1 rfl (Nat.le_of_ble_eq_true rfl) dX12_sum_1 ⟨Nat.le_of_ble_eq_true rfl, Nat.le_of_ble_eq_true rfl⟩) (fun r1 u1 H locs hp1 hW => ?_)
  obtain ⟨hf1_0, hf1_1⟩ : ((¬ (u1 13 60).toInt = 0 ∧ ((u1 13 57).toInt = 5 - (d : Int)) ∧ ∃ c, PT (NX (RBY (J 13 58) (J 153) (J 124)) (J 13 59)) 2 (d : Nat) (J 13 56).toInt.toNat (u1 13 56).toInt.toNat c ∧ VAL (LTR (J 154)) c r1) ∨ ((u1 13 60).toInt = 0 ∧ PF (NX (RBY (J 13 58) (J 153) (J 124)) (J 13 59)) 2 (d : Nat) (J 13 56).toInt.toNat (u1 13 56).toInt.toNat)) ∧ ((J 13 56).toInt ≤ (u1 13 56).toInt) := hp1
  have hW : WB g A s.heap H locs ((hv J [] [(13, 56), (13, 57), (13, 60)] u1), L, I, P, E, N) (sgM g) := hW
  have hA := hf1_0
  refine lv_istore_n (lv' := [(1, .int r1), (0, .ref (g.2.2.1 13))]) hx hb dX12_sum_4 rfl hl (by decide) rfl (fun ls hl => ?_)
  have loop5 : ∀ (n : Nat) (m1 : Int32) (Gl2 : Nat → Nat → Int32) (H : Heap) (locs : List Loc) (ls : Array Slot), (1800 - (Gl2 13 56).toInt).toNat < n → 0 ≤ (Gl2 13 56).toInt ∧ (J 13 56).toInt ≤ (Gl2 13 56).toInt → (¬ (Gl2 13 60).toInt = 0 ∧ ((Gl2 13 57).toInt = 5 - (d : Int)) ∧ ∃ c, CT (NX (RBY (J 13 58) (J 153) (J 124)) (J 13 59)) 1 d (Gl2 13 56).toInt.toNat 0 (J 13 56).toInt.toNat c ∧ VAL (LTR (J 154)) c m1) ∨ ((Gl2 13 60).toInt = 0 ∧ PF (NX (RBY (J 13 58) (J 153) (J 124)) (J 13 59)) 0 d (J 13 56).toInt.toNat (Gl2 13 56).toInt.toNat) → WB g A s.heap H locs ((hv (hv J [] [(13, 56), (13, 57), (13, 60)] u1) [] [(13, 56), (13, 57), (13, 60)] Gl2), L, I, P, E, N) (sgM g) → lv_has ls 4 [(1, .int m1), (0, .ref (g.2.2.1 13))] → W p l e (RM (4 * d + 8) 0 0) s m ([.ref (g.2.2.1 13)] : List Value).toArray below meth c H locs 0 0 (MQ below (va_Qi (fun (r : Int32) (u : (Nat → Nat → Int32)) => ((¬ (u 13 60).toInt = 0 ∧ ((u 13 57).toInt = 5 - (d : Int)) ∧ ∃ c, PT (NX (RBY (J 13 58) (J 153) (J 124)) (J 13 59)) 0 (d : Nat) (J 13 56).toInt.toNat (u 13 56).toInt.toNat c ∧ VAL (LTR (J 154)) c r) ∨ ((u 13 60).toInt = 0 ∧ PF (NX (RBY (J 13 58) (J 153) (J 124)) (J 13 59)) 0 (d : Nat) (J 13 56).toInt.toNat (u 13 56).toInt.toNat)) ∧ ((J 13 56).toInt ≤ (u 13 56).toInt)) (fun u t => at_ g A ((hv J [] [(13, 56), (13, 57), (13, 60)] u, L, I, P, E, N), sgM g) t) A) ([.ref (g.2.2.1 13)] : List Value).toArray s 0 0 A) (F0 m 5 ls []) := by
    intro n
    induction n with
    | zero => intro m1 Gl2 H locs ls hmeas; exact absurd hmeas (Nat.not_lt_zero _)
    | succ n ih =>
      intro m1 Gl2 H locs ls hmeas hi hst hW hl
      refine lv_aload_n hx hb dX12_sum_5 rfl (lv_at hl 1 rfl) ?_
      refine rg_13_60 C hW (mm_ rfl) tw_1083 dX12_sum_6 ?_
      refine lv_as (Gl2 13 60) rfl ?_
      refine lv_if_eq (tgt := 76) hx hb dX12_sum_9 (by decide) (fun c3 => ?_) (fun c3 => ?_)
      · have c3 : (Gl2 13 60).toInt = 0 := teq rfl kp0 c3
        refine lv_iload_n hx hb dX12_sum_76 rfl (lv_at hl 0 rfl) ?_
        have hWr : WB g A s.heap H locs (hv J [] [(13, 56), (13, 57), (13, 60)] (hv (hv J [] [(13, 56), (13, 57), (13, 60)] u1) [] [(13, 56), (13, 57), (13, 60)] Gl2), L, I, P, E, N) (sgM g) := by
          rw [← ag_hvE (J := J) (R := []) (F := [(13, 56), (13, 57), (13, 60)]) (ag_hv rfl rfl (ag_hv rfl rfl ag_rf))]
          exact hW
        exact end_i C hr hlocks (hv (hv J [] [(13, 56), (13, 57), (13, 60)] u1) [] [(13, 56), (13, 57), (13, 60)] Gl2) hWr ⟨show (¬ (Gl2 13 60).toInt = 0 ∧ ((Gl2 13 57).toInt = 5 - (d : Int)) ∧ ∃ c, PT (NX (RBY (J 13 58) (J 153) (J 124)) (J 13 59)) 0 (d : Nat) (J 13 56).toInt.toNat (Gl2 13 56).toInt.toNat c ∧ VAL (LTR (J 154)) c m1) ∨ ((Gl2 13 60).toInt = 0 ∧ PF (NX (RBY (J 13 58) (J 153) (J 124)) (J 13 59)) 0 (d : Nat) (J 13 56).toInt.toNat (Gl2 13 56).toInt.toNat) from by exact Or.inr ⟨by omega, st_r hst (by omega)⟩, show (J 13 56).toInt ≤ (Gl2 13 56).toInt from by omega⟩ dX12_sum_77
      · have c3 : ¬ (Gl2 13 60).toInt = 0 := tne rfl kp0 c3
        obtain ⟨hd9, c9, hct, hval⟩ := st_l hst (by omega)
        refine lv_aload_n hx hb dX12_sum_12 rfl (lv_at hl 1 rfl) ?_
        refine ci_ C hW (runV (x := (g.2.2.1 13)) (As := []) (rest := []) (T := (((hv (hv J [] [(13, 56), (13, 57), (13, 60)] u1) [] [(13, 56), (13, 57), (13, 60)] Gl2), L, I, P, E, N), sgM g)) C hW (c_X12_sign_e l g (hv (hv J [] [(13, 56), (13, 57), (13, 60)] u1) [] [(13, 56), (13, 57), (13, 60)] Gl2) L I P E N H.size  hwm (show 0 ≤ (Gl2 13 56).toInt from by omega) (show ((J 13 58).toInt < 0 ∧ (J 13 59).toInt ≤ 60) ∨ (0 ≤ (J 13 58).toInt ∧ (J 13 58).toInt + (J 13 59).toInt ≤ 1800) from by omega)) mi_X12_sign tw_1358 (recv_ (T := (((hv (hv J [] [(13, 56), (13, 57), (13, 60)] u1) [] [(13, 56), (13, 57), (13, 60)] Gl2), L, I, P, E, N), sgM g)) C hW (mm_ rfl) rfl rfl) ⟨rfl, rfl, by (simp only [RM]; omega), by (simp only [RM]; omega)⟩ rfl hl.1 rfl (Nat.le_of_ble_eq_true rfl) dX12_sum_13 ⟨Nat.le_of_ble_eq_true rfl, Nat.le_of_ble_eq_true rfl⟩) (fun r4 u4 H locs hp4 hW => ?_)
        obtain ⟨hf4_0, hf4_1⟩ : (r4.toInt = (NX (RBY (J 13 58) (J 153) (J 124)) (J 13 59)) (Gl2 13 56).toInt.toNat) ∧ (r4.toInt = -1 ∨ (Gl2 13 56).toInt < (J 13 59).toInt) := hp4
        have hW : WB g A s.heap H locs ((hv (hv J [] [(13, 56), (13, 57), (13, 60)] u1) [] [(13, 56), (13, 57), (13, 60)] Gl2), L, I, P, E, N) (sgM g) := hW
        refine lv_bipush (v := 43) hx hb dX12_sum_16 (by decide) ?_
        refine lv_icmp_eq (tgt := 30) hx hb dX12_sum_18 (by decide) (fun c5 => ?_) (fun c5 => ?_)
        · have c5 : r4.toInt = 43 := teq rfl kp43 c5
          refine lv_aload_n hx hb dX12_sum_30 rfl (lv_at hl 1 rfl) ?_
          refine ci_ C hW (runV (x := (g.2.2.1 13)) (As := []) (rest := []) (T := (((hv (hv J [] [(13, 56), (13, 57), (13, 60)] u1) [] [(13, 56), (13, 57), (13, 60)] Gl2), L, I, P, E, N), sgM g)) C hW (c_X12_sign_e l g (hv (hv J [] [(13, 56), (13, 57), (13, 60)] u1) [] [(13, 56), (13, 57), (13, 60)] Gl2) L I P E N H.size  hwm (show 0 ≤ (Gl2 13 56).toInt from by omega) (show ((J 13 58).toInt < 0 ∧ (J 13 59).toInt ≤ 60) ∨ (0 ≤ (J 13 58).toInt ∧ (J 13 58).toInt + (J 13 59).toInt ≤ 1800) from by omega)) mi_X12_sign tw_1358 (recv_ (T := (((hv (hv J [] [(13, 56), (13, 57), (13, 60)] u1) [] [(13, 56), (13, 57), (13, 60)] Gl2), L, I, P, E, N), sgM g)) C hW (mm_ rfl) rfl rfl) ⟨rfl, rfl, by (simp only [RM]; omega), by (simp only [RM]; omega)⟩ rfl hl.1 rfl (Nat.le_of_ble_eq_true rfl) dX12_sum_31 ⟨Nat.le_of_ble_eq_true rfl, Nat.le_of_ble_eq_true rfl⟩) (fun r6 u6 H locs hp6 hW => ?_)
          obtain ⟨hf6_0, hf6_1⟩ : (r6.toInt = (NX (RBY (J 13 58) (J 153) (J 124)) (J 13 59)) (Gl2 13 56).toInt.toNat) ∧ (r6.toInt = -1 ∨ (Gl2 13 56).toInt < (J 13 59).toInt) := hp6
          have hW : WB g A s.heap H locs ((hv (hv J [] [(13, 56), (13, 57), (13, 60)] u1) [] [(13, 56), (13, 57), (13, 60)] Gl2), L, I, P, E, N) (sgM g) := hW
          refine lv_istore_n (lv' := [(2, .int r6), (1, .int m1), (0, .ref (g.2.2.1 13))]) hx hb dX12_sum_34 rfl hl (by decide) rfl (fun ls hl => ?_)
          refine lv_aload_n hx hb dX12_sum_35 rfl (lv_at hl 2 rfl) ?_
          refine lv_dup hx hb dX12_sum_36 rfl ?_
          refine rg_13_56 C hW (mm_ rfl) tw_1079 dX12_sum_37 ?_
          refine lv_as (Gl2 13 56) rfl ?_
          refine lv_iconst (v := 1) hx hb dX12_sum_40 (by decide) ?_
          refine lv_iadd hx hb dX12_sum_41 ?_
          refine lv_topi (fun x7 (e7 : x7 = (Gl2 13 56) + 1) => ?_)
          try have t7 : x7.toInt = (Gl2 13 56).toInt + 1 := tadd e7 rfl kp1 (by omega)
          refine rp_13_56 C hW (mm_ rfl) tw_1079 dX12_sum_42 (fun H locs hW => ?_)
          refine lv_aload_n hx hb dX12_sum_45 rfl (lv_at hl 2 rfl) ?_
          refine ci_ C hW (runV (x := (g.2.2.1 13)) (As := []) (rest := []) (T := (((up2 (hv (hv J [] [(13, 56), (13, 57), (13, 60)] u1) [] [(13, 56), (13, 57), (13, 60)] Gl2) 13 56 x7), L, I, P, E, N), sgM g)) C hW (ht l g (up2 (hv (hv J [] [(13, 56), (13, 57), (13, 60)] u1) [] [(13, 56), (13, 57), (13, 60)] Gl2) 13 56 x7) L I P E N H.size  hwm (show 0 ≤ (x7).toInt from by omega) (show ((J 13 58).toInt < 0 ∧ (J 13 59).toInt ≤ 60) ∨ (0 ≤ (J 13 58).toInt ∧ (J 13 58).toInt + (J 13 59).toInt ≤ 1800) from by omega) (show ¬ (Gl2 13 60).toInt = 0 ∧ (Gl2 13 57).toInt = 5 - (d : Int) from by omega) (show (d : Int) ≤ 5 from by omega)) mi_X12_term tw_1350 (recv_ (T := (((up2 (hv (hv J [] [(13, 56), (13, 57), (13, 60)] u1) [] [(13, 56), (13, 57), (13, 60)] Gl2) 13 56 x7), L, I, P, E, N), sgM g)) C hW (mm_ rfl) rfl rfl) ⟨rfl, rfl, by (simp only [RM]; omega), by (simp only [RM]; omega)⟩ rfl hl.1 rfl (Nat.le_of_ble_eq_true rfl) dX12_sum_46 ⟨Nat.le_of_ble_eq_true rfl, Nat.le_of_ble_eq_true rfl⟩) (fun r8 u8 H locs hp8 hW => ?_)
          obtain ⟨hf8_0, hf8_1⟩ : ((¬ (u8 13 60).toInt = 0 ∧ ((u8 13 57).toInt = 5 - (d : Int)) ∧ ∃ c, PT (NX (RBY (J 13 58) (J 153) (J 124)) (J 13 59)) 2 (d : Nat) (x7).toInt.toNat (u8 13 56).toInt.toNat c ∧ VAL (LTR (J 154)) c r8) ∨ ((u8 13 60).toInt = 0 ∧ PF (NX (RBY (J 13 58) (J 153) (J 124)) (J 13 59)) 2 (d : Nat) (x7).toInt.toNat (u8 13 56).toInt.toNat)) ∧ ((x7).toInt ≤ (u8 13 56).toInt) := hp8
          have hW : WB g A s.heap H locs ((hv (up2 (hv (hv J [] [(13, 56), (13, 57), (13, 60)] u1) [] [(13, 56), (13, 57), (13, 60)] Gl2) 13 56 x7) [] [(13, 56), (13, 57), (13, 60)] u8), L, I, P, E, N) (sgM g) := hW
          have hB := hf8_0
          refine lv_istore_n (lv' := [(3, .int r8), (2, .int r6), (1, .int m1), (0, .ref (g.2.2.1 13))]) hx hb dX12_sum_49 rfl hl (by decide) rfl (fun ls hl => ?_)
          refine lv_iload_n hx hb dX12_sum_50 rfl (lv_at hl 1 rfl) ?_
          refine lv_bipush (v := 43) hx hb dX12_sum_51 (by decide) ?_
          refine lv_icmp_ne (tgt := 64) hx hb dX12_sum_53 (by decide) (fun c9 => ?_) (fun c9 => ?_)
          · have c9 : ¬ r6.toInt = 43 := tne rfl kp43 c9
            refine lv_iload_n hx hb dX12_sum_64 rfl (lv_at hl 2 rfl) ?_
            refine lv_i2l (v := m1.toInt64) hx hb dX12_sum_65 rfl ?_
            refine lv_iload_n hx hb dX12_sum_66 rfl (lv_at hl 0 rfl) ?_
            refine lv_i2l (v := r8.toInt64) hx hb dX12_sum_67 rfl ?_
            refine lv_lsub hx hb dX12_sum_68 ?_
            refine lv_topl (fun z10 ez10 => ?_)
            refine ci_ C hW (runS (As := [.long z10]) (rest := []) (T := (((hv (up2 (hv (hv J [] [(13, 56), (13, 57), (13, 60)] u1) [] [(13, 56), (13, 57), (13, 60)] Gl2) 13 56 x7) [] [(13, 56), (13, 57), (13, 60)] u8), L, I, P, E, N), sgM g)) C hW (c_X12_held_e l g (hv (up2 (hv (hv J [] [(13, 56), (13, 57), (13, 60)] u1) [] [(13, 56), (13, 57), (13, 60)] Gl2) 13 56 x7) [] [(13, 56), (13, 57), (13, 60)] u8) L I P E N H.size z10 ) mi_X12_held tw_1373 ⟨rfl, rfl, by (simp only [RM]; omega), by (simp only [RM]; omega)⟩ rfl hl.1 rfl (Nat.le_of_ble_eq_true rfl) dX12_sum_69 ⟨Nat.le_of_ble_eq_true rfl, Nat.le_of_ble_eq_true rfl⟩) (fun r11 u11 H locs hp11 hW => ?_)
            have hf11_0 : (r11 = hld z10) := hp11
            clear hp11
            have hW : WB g A s.heap H locs ((hv (up2 (hv (hv J [] [(13, 56), (13, 57), (13, 60)] u1) [] [(13, 56), (13, 57), (13, 60)] Gl2) 13 56 x7) [] [(13, 56), (13, 57), (13, 60)] u8), L, I, P, E, N) (sgM g) := hW
            refine lv_istore_n (lv' := [(1, .int r11), (3, .int r8), (2, .int r6), (0, .ref (g.2.2.1 13))]) hx hb dX12_sum_72 rfl hl (by decide) rfl (fun ls hl => ?_)
            refine lv_goto (tgt := 5) hx hb dX12_sum_73 (by decide) ?_
            have hWl : WB g A s.heap H locs ((hv (hv J [] [(13, 56), (13, 57), (13, 60)] u1) [] [(13, 56), (13, 57), (13, 60)] (hv (up2 (hv (hv J [] [(13, 56), (13, 57), (13, 60)] u1) [] [(13, 56), (13, 57), (13, 60)] Gl2) 13 56 x7) [] [(13, 56), (13, 57), (13, 60)] u8)), L, I, P, E, N) (sgM g) := by
              rw [← ag_hvE (J := (hv J [] [(13, 56), (13, 57), (13, 60)] u1)) (R := []) (F := [(13, 56), (13, 57), (13, 60)]) (ag_hv rfl rfl (ag_up (Or.inr rfl) (ag_hv rfl rfl ag_rf)))]
              exact hW
            refine ih r11 (hv (up2 (hv (hv J [] [(13, 56), (13, 57), (13, 60)] u1) [] [(13, 56), (13, 57), (13, 60)] Gl2) 13 56 x7) [] [(13, 56), (13, 57), (13, 60)] u8) H locs ls ?_ ?_ ?_ hWl (lv_sub hl [0, 3] rfl)
            · show (1800 - (u8 13 56).toInt).toNat < n
              omega
            · show 0 ≤ (u8 13 56).toInt ∧ (J 13 56).toInt ≤ (u8 13 56).toInt
              first | omega | exact hi | assumption
            · show (¬ (u8 13 60).toInt = 0 ∧ ((u8 13 57).toInt = 5 - (d : Int)) ∧ ∃ c, CT (NX (RBY (J 13 58) (J 153) (J 124)) (J 13 59)) 1 d (u8 13 56).toInt.toNat 0 (J 13 56).toInt.toNat c ∧ VAL (LTR (J 154)) c r11) ∨ ((u8 13 60).toInt = 0 ∧ PF (NX (RBY (J 13 58) (J 153) (J 124)) (J 13 59)) 0 d (J 13 56).toInt.toNat (u8 13 56).toInt.toNat)
              exact stp (Or.inl rfl) hct hval (by omega) (by omega) hB (by exact op_ar (Or.inr (Or.inl ⟨by omega, ez10⟩)) hf11_0)
          · have c9 : r6.toInt = 43 := teq rfl kp43 c9
            refine lv_iload_n hx hb dX12_sum_56 rfl (lv_at hl 2 rfl) ?_
            refine lv_i2l (v := m1.toInt64) hx hb dX12_sum_57 rfl ?_
            refine lv_iload_n hx hb dX12_sum_58 rfl (lv_at hl 0 rfl) ?_
            refine lv_i2l (v := r8.toInt64) hx hb dX12_sum_59 rfl ?_
            refine lv_ladd hx hb dX12_sum_60 ?_
            refine lv_topl (fun z12 ez12 => ?_)
            refine lv_goto (tgt := 69) hx hb dX12_sum_61 (by decide) ?_
            refine ci_ C hW (runS (As := [.long z12]) (rest := []) (T := (((hv (up2 (hv (hv J [] [(13, 56), (13, 57), (13, 60)] u1) [] [(13, 56), (13, 57), (13, 60)] Gl2) 13 56 x7) [] [(13, 56), (13, 57), (13, 60)] u8), L, I, P, E, N), sgM g)) C hW (c_X12_held_e l g (hv (up2 (hv (hv J [] [(13, 56), (13, 57), (13, 60)] u1) [] [(13, 56), (13, 57), (13, 60)] Gl2) 13 56 x7) [] [(13, 56), (13, 57), (13, 60)] u8) L I P E N H.size z12 ) mi_X12_held tw_1373 ⟨rfl, rfl, by (simp only [RM]; omega), by (simp only [RM]; omega)⟩ rfl hl.1 rfl (Nat.le_of_ble_eq_true rfl) dX12_sum_69 ⟨Nat.le_of_ble_eq_true rfl, Nat.le_of_ble_eq_true rfl⟩) (fun r13 u13 H locs hp13 hW => ?_)
            have hf13_0 : (r13 = hld z12) := hp13
            clear hp13
            have hW : WB g A s.heap H locs ((hv (up2 (hv (hv J [] [(13, 56), (13, 57), (13, 60)] u1) [] [(13, 56), (13, 57), (13, 60)] Gl2) 13 56 x7) [] [(13, 56), (13, 57), (13, 60)] u8), L, I, P, E, N) (sgM g) := hW
            refine lv_istore_n (lv' := [(1, .int r13), (3, .int r8), (2, .int r6), (0, .ref (g.2.2.1 13))]) hx hb dX12_sum_72 rfl hl (by decide) rfl (fun ls hl => ?_)
            refine lv_goto (tgt := 5) hx hb dX12_sum_73 (by decide) ?_
            have hWl : WB g A s.heap H locs ((hv (hv J [] [(13, 56), (13, 57), (13, 60)] u1) [] [(13, 56), (13, 57), (13, 60)] (hv (up2 (hv (hv J [] [(13, 56), (13, 57), (13, 60)] u1) [] [(13, 56), (13, 57), (13, 60)] Gl2) 13 56 x7) [] [(13, 56), (13, 57), (13, 60)] u8)), L, I, P, E, N) (sgM g) := by
              rw [← ag_hvE (J := (hv J [] [(13, 56), (13, 57), (13, 60)] u1)) (R := []) (F := [(13, 56), (13, 57), (13, 60)]) (ag_hv rfl rfl (ag_up (Or.inr rfl) (ag_hv rfl rfl ag_rf)))]
              exact hW
            refine ih r13 (hv (up2 (hv (hv J [] [(13, 56), (13, 57), (13, 60)] u1) [] [(13, 56), (13, 57), (13, 60)] Gl2) 13 56 x7) [] [(13, 56), (13, 57), (13, 60)] u8) H locs ls ?_ ?_ ?_ hWl (lv_sub hl [0, 3] rfl)
            · show (1800 - (u8 13 56).toInt).toNat < n
              omega
            · show 0 ≤ (u8 13 56).toInt ∧ (J 13 56).toInt ≤ (u8 13 56).toInt
              first | omega | exact hi | assumption
            · show (¬ (u8 13 60).toInt = 0 ∧ ((u8 13 57).toInt = 5 - (d : Int)) ∧ ∃ c, CT (NX (RBY (J 13 58) (J 153) (J 124)) (J 13 59)) 1 d (u8 13 56).toInt.toNat 0 (J 13 56).toInt.toNat c ∧ VAL (LTR (J 154)) c r13) ∨ ((u8 13 60).toInt = 0 ∧ PF (NX (RBY (J 13 58) (J 153) (J 124)) (J 13 59)) 0 d (J 13 56).toInt.toNat (u8 13 56).toInt.toNat)
              exact stp (Or.inl rfl) hct hval (by omega) (by omega) hB (by exact op_ar (Or.inl ⟨by omega, ez12⟩) hf13_0)
        · have c5 : ¬ r4.toInt = 43 := tne rfl kp43 c5
          refine lv_aload_n hx hb dX12_sum_21 rfl (lv_at hl 1 rfl) ?_
          refine ci_ C hW (runV (x := (g.2.2.1 13)) (As := []) (rest := []) (T := (((hv (hv J [] [(13, 56), (13, 57), (13, 60)] u1) [] [(13, 56), (13, 57), (13, 60)] Gl2), L, I, P, E, N), sgM g)) C hW (c_X12_sign_e l g (hv (hv J [] [(13, 56), (13, 57), (13, 60)] u1) [] [(13, 56), (13, 57), (13, 60)] Gl2) L I P E N H.size  hwm (show 0 ≤ (Gl2 13 56).toInt from by omega) (show ((J 13 58).toInt < 0 ∧ (J 13 59).toInt ≤ 60) ∨ (0 ≤ (J 13 58).toInt ∧ (J 13 58).toInt + (J 13 59).toInt ≤ 1800) from by omega)) mi_X12_sign tw_1358 (recv_ (T := (((hv (hv J [] [(13, 56), (13, 57), (13, 60)] u1) [] [(13, 56), (13, 57), (13, 60)] Gl2), L, I, P, E, N), sgM g)) C hW (mm_ rfl) rfl rfl) ⟨rfl, rfl, by (simp only [RM]; omega), by (simp only [RM]; omega)⟩ rfl hl.1 rfl (Nat.le_of_ble_eq_true rfl) dX12_sum_22 ⟨Nat.le_of_ble_eq_true rfl, Nat.le_of_ble_eq_true rfl⟩) (fun r14 u14 H locs hp14 hW => ?_)
          obtain ⟨hf14_0, hf14_1⟩ : (r14.toInt = (NX (RBY (J 13 58) (J 153) (J 124)) (J 13 59)) (Gl2 13 56).toInt.toNat) ∧ (r14.toInt = -1 ∨ (Gl2 13 56).toInt < (J 13 59).toInt) := hp14
          have hW : WB g A s.heap H locs ((hv (hv J [] [(13, 56), (13, 57), (13, 60)] u1) [] [(13, 56), (13, 57), (13, 60)] Gl2), L, I, P, E, N) (sgM g) := hW
          refine lv_bipush (v := 45) hx hb dX12_sum_25 (by decide) ?_
          refine lv_icmp_ne (tgt := 76) hx hb dX12_sum_27 (by decide) (fun c15 => ?_) (fun c15 => ?_)
          · have c15 : ¬ r14.toInt = 45 := tne rfl kp45 c15
            refine lv_iload_n hx hb dX12_sum_76 rfl (lv_at hl 0 rfl) ?_
            have hWr : WB g A s.heap H locs (hv J [] [(13, 56), (13, 57), (13, 60)] (hv (hv J [] [(13, 56), (13, 57), (13, 60)] u1) [] [(13, 56), (13, 57), (13, 60)] Gl2), L, I, P, E, N) (sgM g) := by
              rw [← ag_hvE (J := J) (R := []) (F := [(13, 56), (13, 57), (13, 60)]) (ag_hv rfl rfl (ag_hv rfl rfl ag_rf))]
              exact hW
            exact end_i C hr hlocks (hv (hv J [] [(13, 56), (13, 57), (13, 60)] u1) [] [(13, 56), (13, 57), (13, 60)] Gl2) hWr ⟨show (¬ (Gl2 13 60).toInt = 0 ∧ ((Gl2 13 57).toInt = 5 - (d : Int)) ∧ ∃ c, PT (NX (RBY (J 13 58) (J 153) (J 124)) (J 13 59)) 0 (d : Nat) (J 13 56).toInt.toNat (Gl2 13 56).toInt.toNat c ∧ VAL (LTR (J 154)) c m1) ∨ ((Gl2 13 60).toInt = 0 ∧ PF (NX (RBY (J 13 58) (J 153) (J 124)) (J 13 59)) 0 (d : Nat) (J 13 56).toInt.toNat (Gl2 13 56).toInt.toNat) from by exact Or.inl ⟨by omega, hd9, c9, ct_end (Or.inl rfl) hct (by omega), hval⟩, show (J 13 56).toInt ≤ (Gl2 13 56).toInt from by omega⟩ dX12_sum_77
          · have c15 : r14.toInt = 45 := teq rfl kp45 c15
            refine lv_aload_n hx hb dX12_sum_30 rfl (lv_at hl 1 rfl) ?_
            refine ci_ C hW (runV (x := (g.2.2.1 13)) (As := []) (rest := []) (T := (((hv (hv J [] [(13, 56), (13, 57), (13, 60)] u1) [] [(13, 56), (13, 57), (13, 60)] Gl2), L, I, P, E, N), sgM g)) C hW (c_X12_sign_e l g (hv (hv J [] [(13, 56), (13, 57), (13, 60)] u1) [] [(13, 56), (13, 57), (13, 60)] Gl2) L I P E N H.size  hwm (show 0 ≤ (Gl2 13 56).toInt from by omega) (show ((J 13 58).toInt < 0 ∧ (J 13 59).toInt ≤ 60) ∨ (0 ≤ (J 13 58).toInt ∧ (J 13 58).toInt + (J 13 59).toInt ≤ 1800) from by omega)) mi_X12_sign tw_1358 (recv_ (T := (((hv (hv J [] [(13, 56), (13, 57), (13, 60)] u1) [] [(13, 56), (13, 57), (13, 60)] Gl2), L, I, P, E, N), sgM g)) C hW (mm_ rfl) rfl rfl) ⟨rfl, rfl, by (simp only [RM]; omega), by (simp only [RM]; omega)⟩ rfl hl.1 rfl (Nat.le_of_ble_eq_true rfl) dX12_sum_31 ⟨Nat.le_of_ble_eq_true rfl, Nat.le_of_ble_eq_true rfl⟩) (fun r16 u16 H locs hp16 hW => ?_)
            obtain ⟨hf16_0, hf16_1⟩ : (r16.toInt = (NX (RBY (J 13 58) (J 153) (J 124)) (J 13 59)) (Gl2 13 56).toInt.toNat) ∧ (r16.toInt = -1 ∨ (Gl2 13 56).toInt < (J 13 59).toInt) := hp16
            have hW : WB g A s.heap H locs ((hv (hv J [] [(13, 56), (13, 57), (13, 60)] u1) [] [(13, 56), (13, 57), (13, 60)] Gl2), L, I, P, E, N) (sgM g) := hW
            refine lv_istore_n (lv' := [(2, .int r16), (1, .int m1), (0, .ref (g.2.2.1 13))]) hx hb dX12_sum_34 rfl hl (by decide) rfl (fun ls hl => ?_)
            refine lv_aload_n hx hb dX12_sum_35 rfl (lv_at hl 2 rfl) ?_
            refine lv_dup hx hb dX12_sum_36 rfl ?_
            refine rg_13_56 C hW (mm_ rfl) tw_1079 dX12_sum_37 ?_
            refine lv_as (Gl2 13 56) rfl ?_
            refine lv_iconst (v := 1) hx hb dX12_sum_40 (by decide) ?_
            refine lv_iadd hx hb dX12_sum_41 ?_
            refine lv_topi (fun x17 (e17 : x17 = (Gl2 13 56) + 1) => ?_)
            try have t17 : x17.toInt = (Gl2 13 56).toInt + 1 := tadd e17 rfl kp1 (by omega)
            refine rp_13_56 C hW (mm_ rfl) tw_1079 dX12_sum_42 (fun H locs hW => ?_)
            refine lv_aload_n hx hb dX12_sum_45 rfl (lv_at hl 2 rfl) ?_
            refine ci_ C hW (runV (x := (g.2.2.1 13)) (As := []) (rest := []) (T := (((up2 (hv (hv J [] [(13, 56), (13, 57), (13, 60)] u1) [] [(13, 56), (13, 57), (13, 60)] Gl2) 13 56 x17), L, I, P, E, N), sgM g)) C hW (ht l g (up2 (hv (hv J [] [(13, 56), (13, 57), (13, 60)] u1) [] [(13, 56), (13, 57), (13, 60)] Gl2) 13 56 x17) L I P E N H.size  hwm (show 0 ≤ (x17).toInt from by omega) (show ((J 13 58).toInt < 0 ∧ (J 13 59).toInt ≤ 60) ∨ (0 ≤ (J 13 58).toInt ∧ (J 13 58).toInt + (J 13 59).toInt ≤ 1800) from by omega) (show ¬ (Gl2 13 60).toInt = 0 ∧ (Gl2 13 57).toInt = 5 - (d : Int) from by omega) (show (d : Int) ≤ 5 from by omega)) mi_X12_term tw_1350 (recv_ (T := (((up2 (hv (hv J [] [(13, 56), (13, 57), (13, 60)] u1) [] [(13, 56), (13, 57), (13, 60)] Gl2) 13 56 x17), L, I, P, E, N), sgM g)) C hW (mm_ rfl) rfl rfl) ⟨rfl, rfl, by (simp only [RM]; omega), by (simp only [RM]; omega)⟩ rfl hl.1 rfl (Nat.le_of_ble_eq_true rfl) dX12_sum_46 ⟨Nat.le_of_ble_eq_true rfl, Nat.le_of_ble_eq_true rfl⟩) (fun r18 u18 H locs hp18 hW => ?_)
            obtain ⟨hf18_0, hf18_1⟩ : ((¬ (u18 13 60).toInt = 0 ∧ ((u18 13 57).toInt = 5 - (d : Int)) ∧ ∃ c, PT (NX (RBY (J 13 58) (J 153) (J 124)) (J 13 59)) 2 (d : Nat) (x17).toInt.toNat (u18 13 56).toInt.toNat c ∧ VAL (LTR (J 154)) c r18) ∨ ((u18 13 60).toInt = 0 ∧ PF (NX (RBY (J 13 58) (J 153) (J 124)) (J 13 59)) 2 (d : Nat) (x17).toInt.toNat (u18 13 56).toInt.toNat)) ∧ ((x17).toInt ≤ (u18 13 56).toInt) := hp18
            have hW : WB g A s.heap H locs ((hv (up2 (hv (hv J [] [(13, 56), (13, 57), (13, 60)] u1) [] [(13, 56), (13, 57), (13, 60)] Gl2) 13 56 x17) [] [(13, 56), (13, 57), (13, 60)] u18), L, I, P, E, N) (sgM g) := hW
            have hB := hf18_0
            refine lv_istore_n (lv' := [(3, .int r18), (2, .int r16), (1, .int m1), (0, .ref (g.2.2.1 13))]) hx hb dX12_sum_49 rfl hl (by decide) rfl (fun ls hl => ?_)
            refine lv_iload_n hx hb dX12_sum_50 rfl (lv_at hl 1 rfl) ?_
            refine lv_bipush (v := 43) hx hb dX12_sum_51 (by decide) ?_
            refine lv_icmp_ne (tgt := 64) hx hb dX12_sum_53 (by decide) (fun c19 => ?_) (fun c19 => ?_)
            · have c19 : ¬ r16.toInt = 43 := tne rfl kp43 c19
              refine lv_iload_n hx hb dX12_sum_64 rfl (lv_at hl 2 rfl) ?_
              refine lv_i2l (v := m1.toInt64) hx hb dX12_sum_65 rfl ?_
              refine lv_iload_n hx hb dX12_sum_66 rfl (lv_at hl 0 rfl) ?_
              refine lv_i2l (v := r18.toInt64) hx hb dX12_sum_67 rfl ?_
              refine lv_lsub hx hb dX12_sum_68 ?_
              refine lv_topl (fun z20 ez20 => ?_)
              refine ci_ C hW (runS (As := [.long z20]) (rest := []) (T := (((hv (up2 (hv (hv J [] [(13, 56), (13, 57), (13, 60)] u1) [] [(13, 56), (13, 57), (13, 60)] Gl2) 13 56 x17) [] [(13, 56), (13, 57), (13, 60)] u18), L, I, P, E, N), sgM g)) C hW (c_X12_held_e l g (hv (up2 (hv (hv J [] [(13, 56), (13, 57), (13, 60)] u1) [] [(13, 56), (13, 57), (13, 60)] Gl2) 13 56 x17) [] [(13, 56), (13, 57), (13, 60)] u18) L I P E N H.size z20 ) mi_X12_held tw_1373 ⟨rfl, rfl, by (simp only [RM]; omega), by (simp only [RM]; omega)⟩ rfl hl.1 rfl (Nat.le_of_ble_eq_true rfl) dX12_sum_69 ⟨Nat.le_of_ble_eq_true rfl, Nat.le_of_ble_eq_true rfl⟩) (fun r21 u21 H locs hp21 hW => ?_)
              have hf21_0 : (r21 = hld z20) := hp21
              clear hp21
              have hW : WB g A s.heap H locs ((hv (up2 (hv (hv J [] [(13, 56), (13, 57), (13, 60)] u1) [] [(13, 56), (13, 57), (13, 60)] Gl2) 13 56 x17) [] [(13, 56), (13, 57), (13, 60)] u18), L, I, P, E, N) (sgM g) := hW
              refine lv_istore_n (lv' := [(1, .int r21), (3, .int r18), (2, .int r16), (0, .ref (g.2.2.1 13))]) hx hb dX12_sum_72 rfl hl (by decide) rfl (fun ls hl => ?_)
              refine lv_goto (tgt := 5) hx hb dX12_sum_73 (by decide) ?_
              have hWl : WB g A s.heap H locs ((hv (hv J [] [(13, 56), (13, 57), (13, 60)] u1) [] [(13, 56), (13, 57), (13, 60)] (hv (up2 (hv (hv J [] [(13, 56), (13, 57), (13, 60)] u1) [] [(13, 56), (13, 57), (13, 60)] Gl2) 13 56 x17) [] [(13, 56), (13, 57), (13, 60)] u18)), L, I, P, E, N) (sgM g) := by
                rw [← ag_hvE (J := (hv J [] [(13, 56), (13, 57), (13, 60)] u1)) (R := []) (F := [(13, 56), (13, 57), (13, 60)]) (ag_hv rfl rfl (ag_up (Or.inr rfl) (ag_hv rfl rfl ag_rf)))]
                exact hW
              refine ih r21 (hv (up2 (hv (hv J [] [(13, 56), (13, 57), (13, 60)] u1) [] [(13, 56), (13, 57), (13, 60)] Gl2) 13 56 x17) [] [(13, 56), (13, 57), (13, 60)] u18) H locs ls ?_ ?_ ?_ hWl (lv_sub hl [0, 3] rfl)
              · show (1800 - (u18 13 56).toInt).toNat < n
                omega
              · show 0 ≤ (u18 13 56).toInt ∧ (J 13 56).toInt ≤ (u18 13 56).toInt
                first | omega | exact hi | assumption
              · show (¬ (u18 13 60).toInt = 0 ∧ ((u18 13 57).toInt = 5 - (d : Int)) ∧ ∃ c, CT (NX (RBY (J 13 58) (J 153) (J 124)) (J 13 59)) 1 d (u18 13 56).toInt.toNat 0 (J 13 56).toInt.toNat c ∧ VAL (LTR (J 154)) c r21) ∨ ((u18 13 60).toInt = 0 ∧ PF (NX (RBY (J 13 58) (J 153) (J 124)) (J 13 59)) 0 d (J 13 56).toInt.toNat (u18 13 56).toInt.toNat)
                exact stp (Or.inl rfl) hct hval (by omega) (by omega) hB (by exact op_ar (Or.inr (Or.inl ⟨by omega, ez20⟩)) hf21_0)
            · have c19 : r16.toInt = 43 := teq rfl kp43 c19
              refine lv_iload_n hx hb dX12_sum_56 rfl (lv_at hl 2 rfl) ?_
              refine lv_i2l (v := m1.toInt64) hx hb dX12_sum_57 rfl ?_
              refine lv_iload_n hx hb dX12_sum_58 rfl (lv_at hl 0 rfl) ?_
              refine lv_i2l (v := r18.toInt64) hx hb dX12_sum_59 rfl ?_
              refine lv_ladd hx hb dX12_sum_60 ?_
              refine lv_topl (fun z22 ez22 => ?_)
              refine lv_goto (tgt := 69) hx hb dX12_sum_61 (by decide) ?_
              refine ci_ C hW (runS (As := [.long z22]) (rest := []) (T := (((hv (up2 (hv (hv J [] [(13, 56), (13, 57), (13, 60)] u1) [] [(13, 56), (13, 57), (13, 60)] Gl2) 13 56 x17) [] [(13, 56), (13, 57), (13, 60)] u18), L, I, P, E, N), sgM g)) C hW (c_X12_held_e l g (hv (up2 (hv (hv J [] [(13, 56), (13, 57), (13, 60)] u1) [] [(13, 56), (13, 57), (13, 60)] Gl2) 13 56 x17) [] [(13, 56), (13, 57), (13, 60)] u18) L I P E N H.size z22 ) mi_X12_held tw_1373 ⟨rfl, rfl, by (simp only [RM]; omega), by (simp only [RM]; omega)⟩ rfl hl.1 rfl (Nat.le_of_ble_eq_true rfl) dX12_sum_69 ⟨Nat.le_of_ble_eq_true rfl, Nat.le_of_ble_eq_true rfl⟩) (fun r23 u23 H locs hp23 hW => ?_)
              have hf23_0 : (r23 = hld z22) := hp23
              clear hp23
              have hW : WB g A s.heap H locs ((hv (up2 (hv (hv J [] [(13, 56), (13, 57), (13, 60)] u1) [] [(13, 56), (13, 57), (13, 60)] Gl2) 13 56 x17) [] [(13, 56), (13, 57), (13, 60)] u18), L, I, P, E, N) (sgM g) := hW
              refine lv_istore_n (lv' := [(1, .int r23), (3, .int r18), (2, .int r16), (0, .ref (g.2.2.1 13))]) hx hb dX12_sum_72 rfl hl (by decide) rfl (fun ls hl => ?_)
              refine lv_goto (tgt := 5) hx hb dX12_sum_73 (by decide) ?_
              have hWl : WB g A s.heap H locs ((hv (hv J [] [(13, 56), (13, 57), (13, 60)] u1) [] [(13, 56), (13, 57), (13, 60)] (hv (up2 (hv (hv J [] [(13, 56), (13, 57), (13, 60)] u1) [] [(13, 56), (13, 57), (13, 60)] Gl2) 13 56 x17) [] [(13, 56), (13, 57), (13, 60)] u18)), L, I, P, E, N) (sgM g) := by
                rw [← ag_hvE (J := (hv J [] [(13, 56), (13, 57), (13, 60)] u1)) (R := []) (F := [(13, 56), (13, 57), (13, 60)]) (ag_hv rfl rfl (ag_up (Or.inr rfl) (ag_hv rfl rfl ag_rf)))]
                exact hW
              refine ih r23 (hv (up2 (hv (hv J [] [(13, 56), (13, 57), (13, 60)] u1) [] [(13, 56), (13, 57), (13, 60)] Gl2) 13 56 x17) [] [(13, 56), (13, 57), (13, 60)] u18) H locs ls ?_ ?_ ?_ hWl (lv_sub hl [0, 3] rfl)
              · show (1800 - (u18 13 56).toInt).toNat < n
                omega
              · show 0 ≤ (u18 13 56).toInt ∧ (J 13 56).toInt ≤ (u18 13 56).toInt
                first | omega | exact hi | assumption
              · show (¬ (u18 13 60).toInt = 0 ∧ ((u18 13 57).toInt = 5 - (d : Int)) ∧ ∃ c, CT (NX (RBY (J 13 58) (J 153) (J 124)) (J 13 59)) 1 d (u18 13 56).toInt.toNat 0 (J 13 56).toInt.toNat c ∧ VAL (LTR (J 154)) c r23) ∨ ((u18 13 60).toInt = 0 ∧ PF (NX (RBY (J 13 58) (J 153) (J 124)) (J 13 59)) 0 d (J 13 56).toInt.toNat (u18 13 56).toInt.toNat)
                exact stp (Or.inl rfl) hct hval (by omega) (by omega) hB (by exact op_ar (Or.inl ⟨by omega, ez22⟩) hf23_0)
  -- into the loop
  have hWl : WB g A s.heap H locs ((hv (hv J [] [(13, 56), (13, 57), (13, 60)] u1) [] [(13, 56), (13, 57), (13, 60)] (hv J [] [(13, 56), (13, 57), (13, 60)] u1)), L, I, P, E, N) (sgM g) := by
    rw [← ag_hvE (J := (hv J [] [(13, 56), (13, 57), (13, 60)] u1)) (R := []) (F := [(13, 56), (13, 57), (13, 60)]) ag_rf]
    exact hW
  refine loop5 ((1800 - (u1 13 56).toInt).toNat + 1) r1 (hv J [] [(13, 56), (13, 57), (13, 60)] u1) H locs ls ?_ ?_ ?_ hWl (lv_sub hl [0, 1] rfl)
  · exact Nat.lt_succ_self _
  · show 0 ≤ (u1 13 56).toInt ∧ (J 13 56).toInt ≤ (u1 13 56).toInt
    first | omega | exact hi | assumption
  · show (¬ (u1 13 60).toInt = 0 ∧ ((u1 13 57).toInt = 5 - (d : Int)) ∧ ∃ c, CT (NX (RBY (J 13 58) (J 153) (J 124)) (J 13 59)) 1 d (u1 13 56).toInt.toNat 0 (J 13 56).toInt.toNat c ∧ VAL (LTR (J 154)) c r1) ∨ ((u1 13 60).toInt = 0 ∧ PF (NX (RBY (J 13 58) (J 153) (J 124)) (J 13 59)) 0 d (J 13 56).toInt.toNat (u1 13 56).toInt.toNat)
    exact sti (Or.inl rfl) hA

theorem par_all_e : ∀ d : Nat, SUMC_e d := by
  intro d
  induction d with
  | zero => exact c_X12_sum_e 0 (c_X12_term_e 0 (c_X12_unit_e 0 (fun k h => absurd h (by omega))))
  | succ d ih => exact c_X12_sum_e (d + 1) (c_X12_term_e (d + 1) (c_X12_unit_e (d + 1) (fun k h => by cases h; exact ih)))
set_option maxHeartbeats 4000000 in
set_option maxRecDepth 100000 in
theorem c_X12_goesThrough_e (l : Launch) (g : gG) (J : Nat → Nat → Int32) (L : Nat → Nat → Int64) (I : Nat → Nat → Nat → Int32) (P : Nat → Nat → Nat → Option Nat) (E : Nat → Option Nat) (N : Nat → Nat) (sz : Nat) (a0 : Int32) (a1 : Int32) (hwm : WM J) (hpa : (a0.toInt < 0 ∧ 0 ≤ a1.toInt ∧ a1.toInt ≤ 60) ∨ (0 ≤ a0.toInt ∧ 0 ≤ a1.toInt ∧ a0.toInt + a1.toInt ≤ 1800)) : Met l yX12_goesThrough (WS yX12_goesThrough cX12_goesThrough 3 (some .int)) (RM (30) 0 0) (PC g [.ref (g.2.2.1 13), .int a0, .int a1] ((J, L, I, P, E, N), sgM g) sz) (va_Qi (fun (r : Int32) (u : (Nat → Nat → Int32)) => ((¬ (u 13 60).toInt = 0 ∧ ∃ c, PT (NX (RBY a0 (J 153) (J 124)) a1) 0 5 0 (u 13 56).toInt.toNat c ∧ VAL (LTR (J 154)) c r) ∨ ((u 13 60).toInt = 0 ∧ PF (NX (RBY a0 (J 153) (J 124)) a1) 0 5 0 (u 13 56).toInt.toNat)) ∧ (0 ≤ (u 13 56).toInt)) (fun u t => at_ g (FR g ((J, L, I, P, E, N), sgM g) sz) ((hv J [] [(13, 56), (13, 57), (13, 58), (13, 59), (13, 60)] u, L, I, P, E, N), sgM g) t) (FR g ((J, L, I, P, E, N), sgM g) sz)) 0 0 (FR g ((J, L, I, P, E, N), sgM g) sz) := by
  refine ent (by decide +kernel) (Nat.le_of_ble_eq_true rfl) ?_
  intro p e s m below meth c ls hsz C hW hr hlocks hname hl
  generalize FR g ((J, L, I, P, E, N), sgM g) sz = A at C hW ⊢
  have hx := C.1.1
  have hb := C.1.2.1
  have hts := C.1.2.2.2.2
  have hW : WB g A s.heap s.heap [] (J, L, I, P, E, N) (sgM g) := hW
  have hl : lv_has ls 3 [(0, .ref (g.2.2.1 13)), (1, .int a0), (2, .int a1)] := hl
  obtain ⟨H, hH⟩ : ∃ H : Heap, H = s.heap := ⟨_, rfl⟩
  obtain ⟨locs, hlocs⟩ : ∃ q : List Loc, q = [] := ⟨_, rfl⟩
  have hW : WB g A s.heap H locs (J, L, I, P, E, N) (sgM g) := by rw [hH, hlocs]; exact hW
  obtain ⟨⟨hnd1, hnd2, hon, hhm1, hhm2, hhN, hcu1, hcu2, hco1, hco2, hcN⟩, ⟨hrd1, hrd2⟩, ⟨hnw1, hnw2, hns1, hns2, hof⟩, ⟨htm1, htm2, hts_⟩, ⟨had1, had2, hrw1, hrw2, htp1, htp2⟩⟩ := id hwm
  refine start_ hH hlocs ?_
  refine lv_aload_n hx hb dX12_goesThrough_0 rfl (lv_at hl 0 rfl) ?_
  refine lv_iload_n hx hb dX12_goesThrough_1 rfl (lv_at hl 1 rfl) ?_
  refine rp_13_58 C hW (mm_ rfl) tw_1081 dX12_goesThrough_2 (fun H locs hW => ?_)
  refine lv_aload_n hx hb dX12_goesThrough_5 rfl (lv_at hl 0 rfl) ?_
  refine lv_iload_n hx hb dX12_goesThrough_6 rfl (lv_at hl 2 rfl) ?_
  refine rp_13_59 C hW (mm_ rfl) tw_1082 dX12_goesThrough_7 (fun H locs hW => ?_)
  refine lv_aload_n hx hb dX12_goesThrough_10 rfl (lv_at hl 0 rfl) ?_
  refine lv_iconst (v := 0) hx hb dX12_goesThrough_11 (by decide) ?_
  refine rp_13_56 C hW (mm_ rfl) tw_1079 dX12_goesThrough_12 (fun H locs hW => ?_)
  refine lv_aload_n hx hb dX12_goesThrough_15 rfl (lv_at hl 0 rfl) ?_
  refine lv_iconst (v := 0) hx hb dX12_goesThrough_16 (by decide) ?_
  refine rp_13_57 C hW (mm_ rfl) tw_1080 dX12_goesThrough_17 (fun H locs hW => ?_)
  refine lv_aload_n hx hb dX12_goesThrough_20 rfl (lv_at hl 0 rfl) ?_
  refine lv_iconst (v := 1) hx hb dX12_goesThrough_21 (by decide) ?_
  refine rp_13_60 C hW (mm_ rfl) tw_1083 (by decide) dX12_goesThrough_22 (fun H locs hW => ?_)
  refine lv_aload_n hx hb dX12_goesThrough_25 rfl (lv_at hl 0 rfl) ?_
  refine ci_ C hW (runV (x := (g.2.2.1 13)) (As := []) (rest := []) (T := (((up2 (up2 (up2 (up2 (up2 J 13 58 a0) 13 59 a1) 13 56 0) 13 57 0) 13 60 1), L, I, P, E, N), sgM g)) C hW ((par_all_e 5) l g (up2 (up2 (up2 (up2 (up2 J 13 58 a0) 13 59 a1) 13 56 0) 13 57 0) 13 60 1) L I P E N H.size  hwm (show 0 ≤ ((0 : Int32)).toInt from by (try simp only [kp0]); omega) (show ((a0).toInt < 0 ∧ (a1).toInt ≤ 60) ∨ (0 ≤ (a0).toInt ∧ (a0).toInt + (a1).toInt ≤ 1800) from by omega) (show ¬ ((1 : Int32)).toInt = 0 ∧ ((0 : Int32)).toInt = 5 - ((5 : Nat) : Int) from by (try simp only [kp1]); (try simp only [kp0]); omega) (show ((5 : Nat) : Int) ≤ 5 from by omega)) mi_X12_sum tw_1346 (recv_ (T := (((up2 (up2 (up2 (up2 (up2 J 13 58 a0) 13 59 a1) 13 56 0) 13 57 0) 13 60 1), L, I, P, E, N), sgM g)) C hW (mm_ rfl) rfl rfl) ⟨rfl, rfl, Nat.le_of_ble_eq_true rfl, Nat.le_of_ble_eq_true rfl⟩ rfl hl.1 rfl (Nat.le_of_ble_eq_true rfl) dX12_goesThrough_26 ⟨Nat.le_of_ble_eq_true rfl, Nat.le_of_ble_eq_true rfl⟩) (fun r1 u1 H locs hp1 hW => ?_)
  obtain ⟨hf1_0, hf1_1⟩ : ((¬ (u1 13 60).toInt = 0 ∧ ((u1 13 57).toInt = 5 - ((5 : Nat) : Int)) ∧ ∃ c, PT (NX (RBY (a0) (J 153) (J 124)) (a1)) 0 ((5 : Nat) : Nat) (0 : Int).toNat (u1 13 56).toInt.toNat c ∧ VAL (LTR (J 154)) c r1) ∨ ((u1 13 60).toInt = 0 ∧ PF (NX (RBY (a0) (J 153) (J 124)) (a1)) 0 ((5 : Nat) : Nat) (0 : Int).toNat (u1 13 56).toInt.toNat)) ∧ (0 ≤ (u1 13 56).toInt) := hp1
  have hW : WB g A s.heap H locs ((hv (up2 (up2 (up2 (up2 (up2 J 13 58 a0) 13 59 a1) 13 56 0) 13 57 0) 13 60 1) [] [(13, 56), (13, 57), (13, 60)] u1), L, I, P, E, N) (sgM g) := hW
  have hA := hf1_0
  have hWr : WB g A s.heap H locs (hv J [] [(13, 56), (13, 57), (13, 58), (13, 59), (13, 60)] (hv (up2 (up2 (up2 (up2 (up2 J 13 58 a0) 13 59 a1) 13 56 0) 13 57 0) 13 60 1) [] [(13, 56), (13, 57), (13, 60)] u1), L, I, P, E, N) (sgM g) := by
    rw [← ag_hvE (J := J) (R := []) (F := [(13, 56), (13, 57), (13, 58), (13, 59), (13, 60)]) (ag_hv rfl rfl (ag_up (Or.inr rfl) (ag_up (Or.inr rfl) (ag_up (Or.inr rfl) (ag_up (Or.inr rfl) (ag_up (Or.inr rfl) ag_rf))))))]
    exact hW
  exact end_i C hr hlocks (hv (up2 (up2 (up2 (up2 (up2 J 13 58 a0) 13 59 a1) 13 56 0) 13 57 0) 13 60 1) [] [(13, 56), (13, 57), (13, 60)] u1) hWr ⟨show (¬ (u1 13 60).toInt = 0 ∧ ∃ c, PT (NX (RBY a0 (J 153) (J 124)) a1) 0 5 0 (u1 13 56).toInt.toNat c ∧ VAL (LTR (J 154)) c r1) ∨ ((u1 13 60).toInt = 0 ∧ PF (NX (RBY a0 (J 153) (J 124)) a1) 0 5 0 (u1 13 56).toInt.toNat) from by first | exact hA.imp (fun q => ⟨q.1, q.2.2⟩) (fun q => q), show 0 ≤ (u1 13 56).toInt from by omega⟩ dX12_goesThrough_29
