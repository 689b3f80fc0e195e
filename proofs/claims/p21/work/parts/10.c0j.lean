theorem pb_some {x : Option (List Int) × Nat} {k : List Int → Nat → Option (List Int) × Nat} {c : List Int} {q : Nat} (h : pb x k = (some c, q)) : ∃ a q1, x = (some a, q1) ∧ k a q1 = (some c, q) := by
  obtain ⟨o, q1⟩ := x
  cases o with
  | none => cases h
  | some a => exact ⟨a, q1, rfl, h⟩
theorem pnum_ok {nx : Nat → Int} {N : Nat} (hnx : ∀ p, ¬ nx p = -1 → p < N) : ∀ (n p : Nat) (v : Int), 0 ≤ v → 0 ≤ (pnum nx n p v).2 ∧ (p ≤ N → (pnum nx n p v).1 ≤ N)
  | 0, _, _, h => ⟨h, fun q => q⟩
  | n + 1, p, v, h => by
    unfold pnum
    by_cases hd : isd (nx p)
    · rw [if_pos hd]
      have h1 := hnx p (by omega)
      have h2 := pnum_ok hnx n (p + 1) (10 * v + nx p - 48) (by omega)
      exact ⟨h2.1, fun _ => h2.2 (by omega)⟩
    · rw [if_neg hd]; exact ⟨h, fun q => q⟩
/-- the code's entries are not far below 0, its text ends where the bytes do -/
theorem pz_ok {nx : Nat → Int} {N : Nat} (hnx : ∀ p, ¬ nx p = -1 → p < N) : ∀ (f m d p : Nat) (c : List Int) (q : Nat), pz nx f m d p = (some c, q) → (∀ e ∈ c, -200 ≤ e) ∧ (p ≤ N → q ≤ N)
  | 0, m, d, p, c, q, h => by cases h
  | f + 1, m, d, p, c, q, h => by
    rw [pz] at h
    by_cases h4 : m = 4
    · rw [if_pos h4] at h
      by_cases h40 : nx p = 40
      · have hp := hnx p (by omega)
        rw [if_pos h40] at h
        by_cases hd : d = 0
        · rw [if_pos hd] at h; cases h
        · rw [if_neg hd] at h
          obtain ⟨a, q1, e1, h⟩ := pb_some h
          have ha := pz_ok hnx f _ _ _ _ _ e1
          try dsimp only at h
          by_cases hc : cmc (nx q1)
          · have hq1 := hnx q1 (by omega)
            rw [if_pos hc] at h
            obtain ⟨b, q2, e2, h⟩ := pb_some h
            have hb := pz_ok hnx f _ _ _ _ _ e2
            try dsimp only at h
            by_cases h41 : nx q2 = 41
            · have hq2 := hnx q2 (by omega)
              rw [if_pos h41] at h
              cases h
              refine ⟨fun e he => ?_, fun _ => by omega⟩
              rcases List.mem_append.mp he with he | he
              · rcases List.mem_append.mp he with he | he
                · exact ha.1 e he
                · exact hb.1 e he
              · rw [List.mem_singleton.mp he]; omega
            · rw [if_neg h41] at h; cases h
          · rw [if_neg hc] at h
            by_cases h41 : nx q1 = 41
            · have hq1 := hnx q1 (by omega)
              rw [if_pos h41] at h
              cases h
              exact ⟨ha.1, fun _ => by omega⟩
            · rw [if_neg h41] at h; cases h
      · rw [if_neg h40] at h
        by_cases hi : isd (nx p)
        · have hn := pnum_ok hnx 5 p 0 (Int.le_refl 0)
          rw [if_pos hi] at h
          cases h
          exact ⟨fun e he => by rw [List.mem_singleton.mp he]; omega, hn.2⟩
        · rw [if_neg hi] at h
          by_cases hl : isl (nx p)
          · have hp := hnx p (by omega)
            rw [if_pos hl] at h
            cases h
            exact ⟨fun e he => by rw [List.mem_singleton.mp he]; omega, fun _ => by omega⟩
          · rw [if_neg hl] at h; cases h
    · rw [if_neg h4] at h
      by_cases hm : m = 0 ∨ m = 2
      · rw [if_pos hm] at h
        obtain ⟨a, q1, e1, h⟩ := pb_some h
        obtain ⟨b, q2, e2, h⟩ := pb_some h
        have ha := pz_ok hnx f _ _ _ _ _ e1
        have hb := pz_ok hnx f _ _ _ _ _ e2
        cases h
        refine ⟨fun e he => ?_, fun q => hb.2 (ha.2 q)⟩
        rcases List.mem_append.mp he with he | he
        · exact ha.1 e he
        · exact hb.1 e he
      · rw [if_neg hm] at h
        by_cases hs : sgn m (nx p)
        · have hp := hnx p (by omega)
          rw [if_pos hs] at h
          obtain ⟨a, q1, e1, h⟩ := pb_some h
          obtain ⟨b, q2, e2, h⟩ := pb_some h
          have ha := pz_ok hnx f _ _ _ _ _ e1
          have hb := pz_ok hnx f _ _ _ _ _ e2
          cases h
          refine ⟨fun e he => ?_, fun q => hb.2 (ha.2 (by omega))⟩
          rcases List.mem_append.mp he with he | he
          · exact ha.1 e he
          · rcases List.mem_cons.mp he with he | he
            · subst he; omega
            · exact hb.1 e he
        · rw [if_neg hs] at h; cases h; exact ⟨fun e he => (by cases he), fun q => q⟩
theorem nx_ok {x : Nat → Int32} {n : Int32} : ∀ p, ¬ NX x n p = -1 → p < n.toInt.toNat := fun p h => by
  have := nx_lt h
  omega
theorem pt_hi {x : Nat → Int32} {n : Int32} {m d q : Nat} {c : List Int} (h : PT (NX x n) m d 0 q c) (h0 : 0 ≤ n.toInt) : (q : Int) ≤ n.toInt := by
  obtain ⟨F, hF⟩ := h
  have := (pz_ok nx_ok F _ _ _ _ _ (hF F (Nat.le_refl _))).2 (Nat.zero_le _)
  omega
theorem pb_none {x : Option (List Int) × Nat} {k : List Int → Nat → Option (List Int) × Nat} {q : Nat} (h : pb x k = (none, q)) : x = (none, q) ∨ ∃ a q1, x = (some a, q1) ∧ k a q1 = (none, q) := by
  obtain ⟨o, q1⟩ := x
  cases o with
  | none => exact Or.inl h
  | some a => exact Or.inr ⟨a, q1, rfl, h⟩
theorem pz_no {nx : Nat → Int} {N : Nat} (hnx : ∀ p, ¬ nx p = -1 → p < N) : ∀ (f m d p q : Nat), pz nx f m d p = (none, q) → p ≤ N → q ≤ N
  | 0, m, d, p, q, h, hp => by cases h; exact hp
  | f + 1, m, d, p, q, h, hp => by
    rw [pz] at h
    by_cases h4 : m = 4
    · rw [if_pos h4] at h
      by_cases h40 : nx p = 40
      · have hp1 := hnx p (by omega)
        rw [if_pos h40] at h
        by_cases hd : d = 0
        · rw [if_pos hd] at h; cases h; exact hp
        · rw [if_neg hd] at h
          rcases pb_none h with h | ⟨a, q1, e1, h⟩
          · exact pz_no hnx f _ _ _ _ h (by omega)
          · have ha := (pz_ok hnx f _ _ _ _ _ e1).2 (by omega)
            try dsimp only at h
            by_cases hc : cmc (nx q1)
            · have hq1 := hnx q1 (by omega)
              rw [if_pos hc] at h
              rcases pb_none h with h | ⟨b, q2, e2, h⟩
              · exact pz_no hnx f _ _ _ _ h (by omega)
              · have hb := (pz_ok hnx f _ _ _ _ _ e2).2 (by omega)
                try dsimp only at h
                by_cases h41 : nx q2 = 41
                · rw [if_pos h41] at h; cases h
                · rw [if_neg h41] at h; cases h; exact hb
            · rw [if_neg hc] at h
              by_cases h41 : nx q1 = 41
              · rw [if_pos h41] at h; cases h
              · rw [if_neg h41] at h; cases h; exact ha
      · rw [if_neg h40] at h
        by_cases hi : isd (nx p)
        · rw [if_pos hi] at h; cases h
        · rw [if_neg hi] at h
          by_cases hl : isl (nx p)
          · rw [if_pos hl] at h; cases h
          · rw [if_neg hl] at h; cases h; exact hp
    · rw [if_neg h4] at h
      by_cases hm : m = 0 ∨ m = 2
      · rw [if_pos hm] at h
        rcases pb_none h with h | ⟨a, q1, e1, h⟩
        · exact pz_no hnx f _ _ _ _ h hp
        · have ha := (pz_ok hnx f _ _ _ _ _ e1).2 hp
          rcases pb_none h with h | ⟨b, q2, e2, h⟩
          · exact pz_no hnx f _ _ _ _ h ha
          · cases h
      · rw [if_neg hm] at h
        by_cases hs : sgn m (nx p)
        · have hp1 := hnx p (by omega)
          rw [if_pos hs] at h
          rcases pb_none h with h | ⟨a, q1, e1, h⟩
          · exact pz_no hnx f _ _ _ _ h (by omega)
          · have ha := (pz_ok hnx f _ _ _ _ _ e1).2 (by omega)
            rcases pb_none h with h | ⟨b, q2, e2, h⟩
            · exact pz_no hnx f _ _ _ _ h ha
            · cases h
        · rw [if_neg hs] at h; cases h
theorem pf_hi {x : Nat → Int32} {n : Int32} {m d q : Nat} (h : PF (NX x n) m d 0 q) (h0 : 0 ≤ n.toInt) : (q : Int) ≤ n.toInt := by
  obtain ⟨F, hF⟩ := h
  have := pz_no nx_ok F _ _ _ _ (hF F (Nat.le_refl _)) (Nat.zero_le _)
  omega
/-- the byte that comes with turn i: as the class takes it, as the reference does -/
def BYC (b : Int64) (i : Int32) : Int32 := ((b.toUInt64 >>> ((8 * i).toInt64.toUInt64 &&& Int64.toUInt64 63)).toInt64).toInt32 &&& 255
def BYM (b : Int64) (i : Int32) : Int32 := ((b >>> ((8 * i).toInt64 &&& 63)) &&& 255).toInt32
theorem byt_bv (x : BitVec 64) (k : Nat) (hk : k ≤ 56) : (x >>> k).signExtend 32 &&& 255#32 = ((x.sshiftRight k) &&& 255#64).signExtend 32 := by
  apply BitVec.eq_of_getLsbD_eq
  intro i hi
  have h1 : i < 64 := by omega
  have e32 : (255#32).getLsbD i = decide (i < 8) := by
    show (BitVec.ofNat 32 (2 ^ 8 - 1)).getLsbD i = _
    rw [BitVec.getLsbD_ofNat, Nat.testBit_two_pow_sub_one]; simp [hi]
  have e64 : (255#64).getLsbD i = decide (i < 8) := by
    show (BitVec.ofNat 64 (2 ^ 8 - 1)).getLsbD i = _
    rw [BitVec.getLsbD_ofNat, Nat.testBit_two_pow_sub_one]; simp [h1]
  rw [BitVec.getLsbD_and, BitVec.getLsbD_signExtend, BitVec.getLsbD_signExtend, BitVec.getLsbD_and, BitVec.getLsbD_ushiftRight, BitVec.getLsbD_sshiftRight, e32, e64]
  by_cases h8 : i < 8
  · have h2 : k + i < 64 := by omega
    have h3 : ¬ 64 ≤ i := by omega
    simp [hi, h1, h2, h8]
  · have h3 : ¬ 64 ≤ i := by omega
    simp [h8, h3]
theorem byt_k (b : Int64) (i : Int32) (k : Nat) (hk : k ≤ 56) (h1 : (((8 * i).toInt64.toUInt64 &&& Int64.toUInt64 63).toBitVec % 64#64).toNat = k) (h2 : (((8 * i).toInt64 &&& 63).toBitVec.smod 64#64).toNat = k) : BYC b i = BYM b i := by
  apply Int32.toBitVec_inj.mp
  show (b.toBitVec >>> (((8 * i).toInt64.toUInt64 &&& Int64.toUInt64 63).toBitVec % 64#64)).signExtend 32 &&& 255#32 = ((b.toBitVec.sshiftRight' (((8 * i).toInt64 &&& 63).toBitVec.smod 64#64)) &&& 255#64).signExtend 32
  rw [BitVec.ushiftRight_eq', BitVec.sshiftRight_eq', h1, h2]
  exact byt_bv _ k hk
theorem byt_eq (b : Int64) (i : Int32) (h0 : 0 ≤ i.toInt) (h7 : i.toInt ≤ 7) : BYC b i = BYM b i := by
  rcases (show i.toInt = 0 ∨ i.toInt = 1 ∨ i.toInt = 2 ∨ i.toInt = 3 ∨ i.toInt = 4 ∨ i.toInt = 5 ∨ i.toInt = 6 ∨ i.toInt = 7 by omega) with h | h | h | h | h | h | h | h
  · rw [show i = 0 from Int32.toInt_inj.mp (h.trans (by decide))]; exact byt_k b 0 0 (by decide) (by decide +kernel) (by decide +kernel)
  · rw [show i = 1 from Int32.toInt_inj.mp (h.trans (by decide))]; exact byt_k b 1 8 (by decide) (by decide +kernel) (by decide +kernel)
  · rw [show i = 2 from Int32.toInt_inj.mp (h.trans (by decide))]; exact byt_k b 2 16 (by decide) (by decide +kernel) (by decide +kernel)
  · rw [show i = 3 from Int32.toInt_inj.mp (h.trans (by decide))]; exact byt_k b 3 24 (by decide) (by decide +kernel) (by decide +kernel)
  · rw [show i = 4 from Int32.toInt_inj.mp (h.trans (by decide))]; exact byt_k b 4 32 (by decide) (by decide +kernel) (by decide +kernel)
  · rw [show i = 5 from Int32.toInt_inj.mp (h.trans (by decide))]; exact byt_k b 5 40 (by decide) (by decide +kernel) (by decide +kernel)
  · rw [show i = 6 from Int32.toInt_inj.mp (h.trans (by decide))]; exact byt_k b 6 48 (by decide) (by decide +kernel) (by decide +kernel)
  · rw [show i = 7 from Int32.toInt_inj.mp (h.trans (by decide))]; exact byt_k b 7 56 (by decide) (by decide +kernel) (by decide +kernel)
/-- a row from n on: the values by turns -/
def FEED (x y : Nat → Int32) (f : Int32 → Int32) (n i : Int) : Prop := ∀ m : Nat, ((m : Int) < n → y m = x m) ∧ ∀ j : Int32, 0 ≤ j.toInt → j.toInt < i → (m : Int) = n + j.toInt → y m = f j
theorem feed_0 {x : Nat → Int32} {f : Int32 → Int32} {n i : Int} (h : i = 0) : FEED x x f n i := fun m => ⟨fun _ => rfl, fun j _ _ => by omega⟩
theorem feed_s {x z : Nat → Int32} {G : Nat → Nat → Int32} {r t : Nat} {f : Int32 → Int32} {n i i' : Int} {v c : Int32} (h : FEED x (G r) f n i) (hz : z = up2 G r t v r) (ht : (t : Int) = n + i) (hv : v = f c) (hc : c.toInt = i) (h0 : 0 ≤ i) (hi : i' = i + 1) : FEED x z f n i' := by
  intro m
  subst hz
  by_cases e : m = t
  · subst e; rw [up2_s]
    exact ⟨fun q => by omega, fun j h1 h2 h3 => by
      have e9 : j = c := Int32.toInt_inj.mp (by omega)
      rw [e9]; exact hv⟩
  · rw [up2_f _ _ _ e]; exact ⟨(h m).1, fun j h1 h2 h3 => (h m).2 j h1 (by omega) h3⟩
theorem cpy_at {f g : Nat → Int32} {n i : Nat} (h : i < n) : va_cpy f g 0 0 n i = f i := by
  unfold va_cpy
  rw [if_pos (by omega)]; congr 1; omega
section CODES
variable {I I' : Nat → Nat → Nat → Int32} {E E' : Nat → Option Nat} {P P' : Nat → Nat → Nat → Option Nat} {N N' : Nat → Nat} {g : gG} {J : Nat → Nat → Int32} {dy : List (Nat × Nat)}
theorem cd_new {q c n k j : Nat} {x : Nat → Int32} {w : Int32} (ej : j = k) (he : elt E' P' 25 k = q) (hP : P' 10 2 q = some c) (hN : N' c = n) (hn : n = w.toNatClampNeg) (hI : ∀ i : Nat, i < n → I' 46 i c = x i) (h0 : 0 ≤ w.toInt) : CD I' P' E' N' j = cs x 0 w.toInt.toNat := by
  subst ej
  have h8 := tcl w
  rw [cd_eq he.symm hP, hN]
  have e : n = w.toInt.toNat := by omega
  subst e
  exact cs_congr (fun i _ h => hI i h)
theorem cd_old (hwf : WXF g J P E N dy) (he : ∀ k : Nat, (k : Int) < (J 25 2).toInt → elt E' P' 25 k = elt E P 25 k) (hP : ∀ a : Nat, (10, a) ∈ dy → P' 10 2 a = P 10 2 a) (hN : ∀ b : Nat, (46, b) ∈ dy → N' b = N b) (hI : ∀ b : Nat, (46, b) ∈ dy → ∀ i : Nat, I' 46 i b = I 46 i b) : ∀ k : Nat, (k : Int) < (J 25 2).toInt → CD I' P' E' N' k = CD I P E N k := fun k hk => by
  have hm := lw_mem (er := 10) hwf.2.1.2.1 hk
  obtain ⟨b, hb, hbm, -⟩ := hwf.2.2.2.2.2 _ hm
  rw [cd_eq (he k hk).symm ((hP _ hm).trans hb), cd_eq rfl hb, hN b hbm]
  exact cs_congr (fun i _ _ => hI b hbm i)
end CODES
set_option maxHeartbeats 4000000 in
set_option maxRecDepth 100000 in
theorem c_X11_feed_e (l : Launch) (g : gG) (J : Nat → Nat → Int32) (L : Nat → Nat → Int64) (I : Nat → Nat → Nat → Int32) (P : Nat → Nat → Nat → Option Nat) (E : Nat → Option Nat) (N : Nat → Nat) (dy : List (Nat × Nat)) (sz : Nat) (a0 : Int32) (a1 : Int64) (hwf : WXF g J P E N dy) (hln : 0 ≤ (J 11 2).toInt ∧ (J 11 2).toInt ≤ 60) : Met l yX11_feed (WS yX11_feed cX11_feed 5 (some .int)) (RM (2) 0 0) (PC g [.ref (g.2.2.1 12), .int a0, .long a1] ((J, L, I, P, E, N), sgX g ++ dy) sz) (va_Qi (fun (r : Int32) (u : (Nat → Nat → Int32)) => ((r.toInt = (-4) ∧ (a0.toInt < 1) ∧ u 11 2 = J 11 2 ∧ u 43 = J 43) ∨ (r.toInt = (-6) ∧ (1 ≤ a0.toInt ∧ (8 < a0.toInt ∨ 60 - (J 11 2).toInt < a0.toInt)) ∧ u 11 2 = J 11 2 ∧ u 43 = J 43) ∨ (r.toInt = (J 11 2).toInt + a0.toInt ∧ (1 ≤ a0.toInt ∧ a0.toInt ≤ 8 ∧ (J 11 2).toInt + a0.toInt ≤ 60) ∧ (u 11 2).toInt = (J 11 2).toInt + a0.toInt ∧ FEED (J 43) (u 43) (BYC a1) (J 11 2).toInt a0.toInt))) (fun u t => at_ g (FR g ((J, L, I, P, E, N), sgX g ++ dy) sz) (((hv J [42, 43] [(11, 2)] u), L, I, P, E, N), sgX g ++ dy) t) (FR g ((J, L, I, P, E, N), sgX g ++ dy) sz)) 0 0 (FR g ((J, L, I, P, E, N), sgX g ++ dy) sz) := by
  refine ent (by decide +kernel) (Nat.le_of_ble_eq_true rfl) ?_
  intro p e s m below meth c ls hsz C hW hr hlocks hname hl
  generalize FR g ((J, L, I, P, E, N), sgX g ++ dy) sz = A at C hW ⊢
  generalize hQ9 : (va_Qi (fun (r : Int32) (u : (Nat → Nat → Int32)) => ((r.toInt = (-4) ∧ (a0.toInt < 1) ∧ u 11 2 = J 11 2 ∧ u 43 = J 43) ∨ (r.toInt = (-6) ∧ (1 ≤ a0.toInt ∧ (8 < a0.toInt ∨ 60 - (J 11 2).toInt < a0.toInt)) ∧ u 11 2 = J 11 2 ∧ u 43 = J 43) ∨ (r.toInt = (J 11 2).toInt + a0.toInt ∧ (1 ≤ a0.toInt ∧ a0.toInt ≤ 8 ∧ (J 11 2).toInt + a0.toInt ≤ 60) ∧ (u 11 2).toInt = (J 11 2).toInt + a0.toInt ∧ FEED (J 43) (u 43) (BYC a1) (J 11 2).toInt a0.toInt))) (fun u t => at_ g A (((hv J [42, 43] [(11, 2)] u), L, I, P, E, N), sgX g ++ dy) t) A) = Q9
  have hx := C.1.1
  have hb := C.1.2.1
  have hts := C.1.2.2.2.2
  have hl : lv_has ls 5 [(0, .ref (g.2.2.1 12)), (1, .int a0), (2, .long a1)] := hl
  obtain ⟨H, hH⟩ : ∃ H : Heap, H = s.heap := ⟨_, rfl⟩
  obtain ⟨locs, hlocs⟩ : ∃ q : List Loc, q = [] := ⟨_, rfl⟩
  have hW : WB g A s.heap H locs (J, L, I, P, E, N) (sgX g ++ dy) := by rw [hH, hlocs]; exact hW
  refine start_ hH hlocs ?_
  refine lv_iload_n hx hb dX11_feed_0 rfl (lv_at hl 1 rfl) ?_
  refine lv_iconst (v := 1) hx hb dX11_feed_1 (by decide) ?_
  refine lv_icmp_ge (tgt := 12) hx hb dX11_feed_2 (by decide) (fun c1 => ?_) (fun c1 => ?_)
  · have c1 : 1 ≤ a0.toInt := tle kp1 rfl c1
    refine lv_iload_n hx hb dX11_feed_12 rfl (lv_at hl 1 rfl) ?_
    refine lv_bipush (v := 8) hx hb dX11_feed_13 (by decide) ?_
    refine lv_icmp_gt (tgt := 32) hx hb dX11_feed_15 (by decide) (fun c2 => ?_) (fun c2 => ?_)
    · have c2 : 8 < a0.toInt := tlt kp8 rfl c2
      refine lv_aload_n hx hb dX11_feed_32 rfl (lv_at hl 0 rfl) ?_
      refine lv_bipush (v := (-6)) hx hb dX11_feed_33 (by decide) ?_
      refine ci_ C hW (runV (x := (g.2.2.1 12)) (As := [.int (-6)]) (rest := []) (T := ((J, L, I, P, E, N), sgX g ++ dy)) C hW (c_X11_refuse l g J L I P E N dy H.size (-6) hwf) mi_X11_refuse tw_411 (recv_ (T := ((J, L, I, P, E, N), sgX g ++ dy)) C hW (mx_ rfl) rfl rfl) ⟨rfl, rfl, Nat.le_of_ble_eq_true rfl, Nat.le_of_ble_eq_true rfl⟩ rfl hl.1 rfl (Nat.le_of_ble_eq_true rfl) dX11_feed_35 ⟨Nat.le_of_ble_eq_true rfl, Nat.le_of_ble_eq_true rfl⟩) (fun r3 u3 H locs hp3 hW => ?_)
      have hc3 : ((r3 = (-6))) := hp3
      clear hp3
      have hr3 : r3.toInt = (-6) := by rw [hc3]; exact kn6
      have hW : WB g A s.heap H locs ((hv J [42] [] u3), L, I, P, E, N) (sgX g ++ dy) := hW
      have hWr : WB g A s.heap H locs ((hv J [42, 43] [(11, 2)] (hv J [42] [] u3)), L, I, P, E, N) (sgX g ++ dy) := by
        rw [← ag_hvE (J := J) (R := [42, 43]) (F := [(11, 2)]) (ag_hv rfl rfl ag_rf)]
        exact hW
      subst hQ9
      exact end_i C hr hlocks (hv J [42] [] u3) hWr (by first | exact Or.inl ⟨by omega, by omega, show J 11 2 = J 11 2 from by first | rfl | assumption, show J 43 = J 43 from by first | rfl | assumption⟩ | exact Or.inr (Or.inl ⟨by omega, by omega, show J 11 2 = J 11 2 from by first | rfl | assumption, show J 43 = J 43 from by first | rfl | assumption⟩) | exact Or.inr (Or.inr (⟨by omega, by omega, show (J 11 2).toInt = (J 11 2).toInt + a0.toInt from (by first | omega | (have e9 : m4.toInt = a0.toInt := (by omega); rw [← e9]; exact hfd)), show FEED (J 43) (J 43) (BYC a1) (J 11 2).toInt a0.toInt from (by first | omega | (have e9 : m4.toInt = a0.toInt := (by omega); rw [← e9]; exact hfd))⟩))) dX11_feed_38
    · have c2 : a0.toInt ≤ 8 := tnlt kp8 rfl c2
      refine lv_iload_n hx hb dX11_feed_18 rfl (lv_at hl 1 rfl) ?_
      refine lv_bipush (v := 60) hx hb dX11_feed_19 (by decide) ?_
      refine lv_aload_n hx hb dX11_feed_21 rfl (lv_at hl 0 rfl) ?_
      refine rg_12_5 C hW (mx_ rfl) tw_369 dX11_feed_22 ?_
      refine rg_11_2 C hW (mx_ rfl) tw_303 dX11_feed_25 ?_
      refine lv_isub hx hb dX11_feed_28 ?_
      refine lv_topi (fun x4 (e4 : x4 = 60 - (J 11 2)) => ?_)
      try have t4 : x4.toInt = 60 - (J 11 2).toInt := tsub e4 kp60 rfl (by omega)
      refine lv_icmp_le (tgt := 39) hx hb dX11_feed_29 (by decide) (fun c5 => ?_) (fun c5 => ?_)
      · have c5 : a0.toInt ≤ x4.toInt := tle rfl rfl c5
        refine lv_iconst (v := 0) hx hb dX11_feed_39 (by decide) ?_
        refine lv_istore (lv' := [(4, .int 0), (0, .ref (g.2.2.1 12)), (1, .int a0), (2, .long a1)]) hx hb dX11_feed_40 hl (by decide) rfl (fun ls hl => ?_)
        have loop42 : ∀ (n : Nat) (m4 : Int32) (Gl6 : Nat → Nat → Int32) (H : Heap) (locs : List Loc) (ls : Array Slot), (8 - m4.toInt).toNat < n → 0 ≤ m4.toInt ∧ m4.toInt ≤ a0.toInt → (Gl6 11 2).toInt = (J 11 2).toInt + m4.toInt → FEED (J 43) (Gl6 43) (BYC a1) (J 11 2).toInt m4.toInt → WB g A s.heap H locs ((hv J [42, 43] [(11, 2)] Gl6), L, I, P, E, N) (sgX g ++ dy) → lv_has ls 5 [(4, .int m4), (0, .ref (g.2.2.1 12)), (1, .int a0), (2, .long a1)] → W p l e (RM (2) 0 0) s m ([.ref (g.2.2.1 12), .int a0, .long a1] : List Value).toArray below meth c H locs 0 0 (MQ below Q9 ([.ref (g.2.2.1 12), .int a0, .long a1] : List Value).toArray s 0 0 A) (F0 m 42 ls []) := by
          intro n
          induction n with
          | zero => intro m4 Gl6 H locs ls hmeas; exact absurd hmeas (Nat.not_lt_zero _)
          | succ n ih =>
            intro m4 Gl6 H locs ls hmeas hi hl2 hfd hW hl
            refine lv_iload hx hb dX11_feed_42 (lv_at hl 0 rfl) ?_
            refine lv_iload_n hx hb dX11_feed_44 rfl (lv_at hl 2 rfl) ?_
            refine lv_icmp_ge (tgt := 73) hx hb dX11_feed_45 (by decide) (fun c7 => ?_) (fun c7 => ?_)
            · have c7 : a0.toInt ≤ m4.toInt := tle rfl rfl c7
              refine lv_aload_n hx hb dX11_feed_73 rfl (lv_at hl 1 rfl) ?_
              refine rg_12_5 C hW (mx_ rfl) tw_369 dX11_feed_74 ?_
              refine rg_11_2 C hW (mx_ rfl) tw_303 dX11_feed_77 ?_
              refine lv_as (Gl6 11 2) rfl ?_
              have hWr : WB g A s.heap H locs ((hv J [42, 43] [(11, 2)] (hv J [42, 43] [(11, 2)] Gl6)), L, I, P, E, N) (sgX g ++ dy) := by
                rw [← ag_hvE (J := J) (R := [42, 43]) (F := [(11, 2)]) (ag_hv rfl rfl ag_rf)]
                exact hW
              subst hQ9
              exact end_i C hr hlocks (hv J [42, 43] [(11, 2)] Gl6) hWr (by first | exact Or.inl ⟨by omega, by omega, show Gl6 11 2 = J 11 2 from by first | rfl | assumption, show Gl6 43 = J 43 from by first | rfl | assumption⟩ | exact Or.inr (Or.inl ⟨by omega, by omega, show Gl6 11 2 = J 11 2 from by first | rfl | assumption, show Gl6 43 = J 43 from by first | rfl | assumption⟩) | exact Or.inr (Or.inr (⟨by omega, by omega, show (Gl6 11 2).toInt = (J 11 2).toInt + a0.toInt from (by first | omega | (have e9 : m4.toInt = a0.toInt := (by omega); rw [← e9]; exact hfd)), show FEED (J 43) (Gl6 43) (BYC a1) (J 11 2).toInt a0.toInt from (by first | omega | (have e9 : m4.toInt = a0.toInt := (by omega); rw [← e9]; exact hfd))⟩))) dX11_feed_80
            · have c7 : m4.toInt < a0.toInt := tnle rfl rfl c7
              refine lv_aload_n hx hb dX11_feed_48 rfl (lv_at hl 1 rfl) ?_
              refine rg_12_5 C hW (mx_ rfl) tw_369 dX11_feed_49 ?_
              refine lv_lload_n hx hb dX11_feed_52 rfl (lv_at hl 3 rfl) ?_
              refine lv_bipush (v := 8) hx hb dX11_feed_53 (by decide) ?_
              refine lv_iload hx hb dX11_feed_55 (lv_at hl 0 rfl) ?_
              refine lv_imul hx hb dX11_feed_57 ?_
              refine lv_topi (fun x8 (e8 : x8 = 8 * m4) => ?_)
              try have t8 : x8.toInt = 8 * m4.toInt := tmul e8 kp8 rfl (by omega)
              refine lv_lushr hx hb dX11_feed_58 rfl ?_
              refine lv_topl (fun z9 ez9 => ?_)
              refine lv_l2i (v := z9.toInt32) hx hb dX11_feed_59 rfl ?_
              refine lv_topi (fun x10 (e10 : x10 = z9.toInt32) => ?_)
              refine lv_sipush (v := 255) hx hb dX11_feed_60 (by decide) ?_
              refine lv_iand hx hb dX11_feed_63 ?_
              refine lv_topi (fun x11 (e11 : x11 = x10 &&& 255) => ?_)
              refine cv_ C hW (runV (x := (g.2.2.1 11)) (As := [.int x11]) (rest := []) (T := (((hv J [42, 43] [(11, 2)] Gl6), L, I, P, E, N), sgX g ++ dy)) C hW (c_X10_take_e l g (hv J [42, 43] [(11, 2)] Gl6) L I P E N dy H.size x11 (show 0 ≤ (Gl6 11 2).toInt ∧ (Gl6 11 2).toInt ≤ 59 from by omega)) mi_X10_take tw_732 (recv_ (T := (((hv J [42, 43] [(11, 2)] Gl6), L, I, P, E, N), sgX g ++ dy)) C hW (mx_ rfl) rfl rfl) ⟨rfl, rfl, Nat.le_of_ble_eq_true rfl, Nat.le_of_ble_eq_true rfl⟩ rfl hl.1 rfl (Nat.le_of_ble_eq_true rfl) dX11_feed_64 ⟨Nat.le_of_ble_eq_true rfl, Nat.le_of_ble_eq_true rfl⟩) (fun u12 H locs hp12 hW => ?_)
              obtain ⟨hf12_0, hf12_1⟩ : ((u12 11 2).toInt = (Gl6 11 2).toInt + 1) ∧ (u12 43 = up2 Gl6 43 (Gl6 11 2).toInt.toNat x11 43) := hp12
              have hW : WB g A s.heap H locs ((hv (hv J [42, 43] [(11, 2)] Gl6) [43] [(11, 2)] u12), L, I, P, E, N) (sgX g ++ dy) := hW
              have hT0 := hf12_0
              have hT1 := hf12_1
              obtain ⟨x13, e13⟩ : ∃ y : Int32, y = m4 + 1 := ⟨_, rfl⟩
              refine lv_iinc (v := x13) (lv' := [(4, .int x13), (0, .ref (g.2.2.1 12)), (1, .int a0), (2, .long a1)]) hx hb dX11_feed_67 hl (k := 0) rfl (by rw [e13]; rfl) (by decide) rfl (fun ls hl => ?_)
              try have t13 : x13.toInt = m4.toInt + 1 := tadd e13 rfl kp1 (by omega)
              refine lv_goto (tgt := 42) hx hb dX11_feed_70 (by decide) ?_
              have hWl : WB g A s.heap H locs ((hv J [42, 43] [(11, 2)] (hv (hv J [42, 43] [(11, 2)] Gl6) [43] [(11, 2)] u12)), L, I, P, E, N) (sgX g ++ dy) := by
                rw [← ag_hvE (J := J) (R := [42, 43]) (F := [(11, 2)]) (ag_hv rfl rfl (ag_hv rfl rfl ag_rf))]
                exact hW
              refine ih x13 (hv (hv J [42, 43] [(11, 2)] Gl6) [43] [(11, 2)] u12) H locs ls ?_ ?_ ?_ ?_ hWl (lv_sub hl [0, 1, 2, 3] rfl)
              · show (8 - x13.toInt).toNat < n
                omega
              · show 0 ≤ x13.toInt ∧ x13.toInt ≤ a0.toInt
                first | omega | exact hi | assumption
              · show (u12 11 2).toInt = (J 11 2).toInt + x13.toInt
                first | omega | exact hl2 | assumption
              · show FEED (J 43) (u12 43) (BYC a1) (J 11 2).toInt x13.toInt
                exact feed_s hfd hT1 (by omega) (by rw [e11, e10, ez9, e8]; rfl) rfl (by omega) (by omega)
        -- into the loop
        have hWl : WB g A s.heap H locs ((hv J [42, 43] [(11, 2)] J), L, I, P, E, N) (sgX g ++ dy) := by
          rw [← ag_hvE (J := J) (R := [42, 43]) (F := [(11, 2)]) ag_rf]
          exact hW
        refine loop42 ((8 - (0 : Int32).toInt).toNat + 1) 0 J H locs ls ?_ ?_ ?_ ?_ hWl (lv_sub hl [0, 1, 2, 3] rfl)
        · exact Nat.lt_succ_self _
        · show 0 ≤ (0 : Int32).toInt ∧ (0 : Int32).toInt ≤ a0.toInt
          try rw [kp0]
          first | omega | exact hi | assumption
        · show (J 11 2).toInt = (J 11 2).toInt + (0 : Int32).toInt
          try rw [kp0]
          first | omega | exact hl2 | assumption
        · show FEED (J 43) (J 43) (BYC a1) (J 11 2).toInt (0 : Int32).toInt
          try rw [kp0]
          exact feed_0 kp0
      · have c5 : x4.toInt < a0.toInt := tnle rfl rfl c5
        refine lv_aload_n hx hb dX11_feed_32 rfl (lv_at hl 0 rfl) ?_
        refine lv_bipush (v := (-6)) hx hb dX11_feed_33 (by decide) ?_
        refine ci_ C hW (runV (x := (g.2.2.1 12)) (As := [.int (-6)]) (rest := []) (T := ((J, L, I, P, E, N), sgX g ++ dy)) C hW (c_X11_refuse l g J L I P E N dy H.size (-6) hwf) mi_X11_refuse tw_411 (recv_ (T := ((J, L, I, P, E, N), sgX g ++ dy)) C hW (mx_ rfl) rfl rfl) ⟨rfl, rfl, Nat.le_of_ble_eq_true rfl, Nat.le_of_ble_eq_true rfl⟩ rfl hl.1 rfl (Nat.le_of_ble_eq_true rfl) dX11_feed_35 ⟨Nat.le_of_ble_eq_true rfl, Nat.le_of_ble_eq_true rfl⟩) (fun r14 u14 H locs hp14 hW => ?_)
        have hc14 : ((r14 = (-6))) := hp14
        clear hp14
        have hr14 : r14.toInt = (-6) := by rw [hc14]; exact kn6
        have hW : WB g A s.heap H locs ((hv J [42] [] u14), L, I, P, E, N) (sgX g ++ dy) := hW
        have hWr : WB g A s.heap H locs ((hv J [42, 43] [(11, 2)] (hv J [42] [] u14)), L, I, P, E, N) (sgX g ++ dy) := by
          rw [← ag_hvE (J := J) (R := [42, 43]) (F := [(11, 2)]) (ag_hv rfl rfl ag_rf)]
          exact hW
        subst hQ9
        exact end_i C hr hlocks (hv J [42] [] u14) hWr (by first | exact Or.inl ⟨by omega, by omega, show J 11 2 = J 11 2 from by first | rfl | assumption, show J 43 = J 43 from by first | rfl | assumption⟩ | exact Or.inr (Or.inl ⟨by omega, by omega, show J 11 2 = J 11 2 from by first | rfl | assumption, show J 43 = J 43 from by first | rfl | assumption⟩) | exact Or.inr (Or.inr (⟨by omega, by omega, show (J 11 2).toInt = (J 11 2).toInt + a0.toInt from (by first | omega | (have e9 : m4.toInt = a0.toInt := (by omega); rw [← e9]; exact hfd)), show FEED (J 43) (J 43) (BYC a1) (J 11 2).toInt a0.toInt from (by first | omega | (have e9 : m4.toInt = a0.toInt := (by omega); rw [← e9]; exact hfd))⟩))) dX11_feed_38
  · have c1 : a0.toInt < 1 := tnle kp1 rfl c1
    refine lv_aload_n hx hb dX11_feed_5 rfl (lv_at hl 0 rfl) ?_
    refine lv_bipush (v := (-4)) hx hb dX11_feed_6 (by decide) ?_
    refine ci_ C hW (runV (x := (g.2.2.1 12)) (As := [.int (-4)]) (rest := []) (T := ((J, L, I, P, E, N), sgX g ++ dy)) C hW (c_X11_refuse l g J L I P E N dy H.size (-4) hwf) mi_X11_refuse tw_411 (recv_ (T := ((J, L, I, P, E, N), sgX g ++ dy)) C hW (mx_ rfl) rfl rfl) ⟨rfl, rfl, Nat.le_of_ble_eq_true rfl, Nat.le_of_ble_eq_true rfl⟩ rfl hl.1 rfl (Nat.le_of_ble_eq_true rfl) dX11_feed_8 ⟨Nat.le_of_ble_eq_true rfl, Nat.le_of_ble_eq_true rfl⟩) (fun r15 u15 H locs hp15 hW => ?_)
    have hc15 : ((r15 = (-4))) := hp15
    clear hp15
    have hr15 : r15.toInt = (-4) := by rw [hc15]; exact kn4
    have hW : WB g A s.heap H locs ((hv J [42] [] u15), L, I, P, E, N) (sgX g ++ dy) := hW
    have hWr : WB g A s.heap H locs ((hv J [42, 43] [(11, 2)] (hv J [42] [] u15)), L, I, P, E, N) (sgX g ++ dy) := by
      rw [← ag_hvE (J := J) (R := [42, 43]) (F := [(11, 2)]) (ag_hv rfl rfl ag_rf)]
      exact hW
    subst hQ9
    exact end_i C hr hlocks (hv J [42] [] u15) hWr (by first | exact Or.inl ⟨by omega, by omega, show J 11 2 = J 11 2 from by first | rfl | assumption, show J 43 = J 43 from by first | rfl | assumption⟩ | exact Or.inr (Or.inl ⟨by omega, by omega, show J 11 2 = J 11 2 from by first | rfl | assumption, show J 43 = J 43 from by first | rfl | assumption⟩) | exact Or.inr (Or.inr (⟨by omega, by omega, show (J 11 2).toInt = (J 11 2).toInt + a0.toInt from (by first | omega | (have e9 : m4.toInt = a0.toInt := (by omega); rw [← e9]; exact hfd)), show FEED (J 43) (J 43) (BYC a1) (J 11 2).toInt a0.toInt from (by first | omega | (have e9 : m4.toInt = a0.toInt := (by omega); rw [← e9]; exact hfd))⟩))) dX11_feed_11

set_option maxHeartbeats 4000000 in
set_option maxRecDepth 100000 in
theorem c_J7_copyOf_59c91_e (l : Launch) (g : gG) (J : Nat → Nat → Int32) (L : Nat → Nat → Int64) (I : Nat → Nat → Nat → Int32) (P : Nat → Nat → Nat → Option Nat) (E : Nat → Option Nat) (N : Nat → Nat) (dy : List (Nat × Nat)) (sz : Nat) (a1 : Int32) (h : 0 ≤ a1.toInt ∧ a1.toInt ≤ 60) : Met l yJ7_copyOf_59c91 (WS yJ7_copyOf_59c91 cJ7_copyOf_59c91 3 (some (.array .int))) (RM (2) 1 60) (PC g [.ref (g.2.2.1 44), .int a1] ((J, L, I, P, E, N), sgX g ++ dy) sz) (va_Qq (fun (r9 : Option Nat) (u : (Nat → Nat → Nat → Int32) × Nat × Nat) => r9 = some u.2.1 ∧ u.2.2 = a1.toNatClampNeg ∧ (∀ i : Nat, i < u.2.2 → u.1 46 i u.2.1 = J 44 i) ∧ (∀ a : Nat, a ≠ u.2.1 → ∀ f : Nat, u.1 46 f a = I 46 f a) ∧ (∀ x ∈ sgX g ++ dy, x.2 ≠ u.2.1)) (fun u t => at_ g (FR g ((J, L, I, P, E, N), sgX g ++ dy) sz) (((J, L, hv I [46] [] u.1, P, E, up1 N u.2.1 u.2.2), sgX g ++ (dy ++ [(46, u.2.1)]))) t) (FR g ((J, L, I, P, E, N), sgX g ++ dy) sz)) 1 60 (FR g ((J, L, I, P, E, N), sgX g ++ dy) sz) := by
  refine ent (by decide +kernel) (Nat.le_of_ble_eq_true rfl) ?_
  intro p e s m below meth c ls hsz C hW hr hlocks hname hl
  generalize FR g ((J, L, I, P, E, N), sgX g ++ dy) sz = A at C hW ⊢
  have hx := C.1.1
  have hb := C.1.2.1
  have hts := C.1.2.2.2.2
  have hl : lv_has ls 3 [(0, .ref (g.2.2.1 44)), (1, .int a1)] := hl
  obtain ⟨H, hH⟩ : ∃ H : Heap, H = s.heap := ⟨_, rfl⟩
  obtain ⟨locs, hlocs⟩ : ∃ q : List Loc, q = [] := ⟨_, rfl⟩
  have hW : WB g A s.heap H locs (J, L, I, P, E, N) (sgX g ++ dy) := by rw [hH, hlocs]; exact hW
  refine start_ hH hlocs ?_
  refine lv_iload_n hx hb dJ7_copyOf_59c91_0 rfl (lv_at hl 1 rfl) ?_
  refine lv_aload_n hx hb dJ7_copyOf_59c91_1 rfl (lv_at hl 0 rfl) ?_
  refine rl_44 C hW (mx_ rfl) dJ7_copyOf_59c91_2 ?_
  refine lv_icmp_ne (tgt := 14) hx hb dJ7_copyOf_59c91_3 (by decide) (fun c1 => ?_) (fun c1 => ?_)
  · have c1 : ¬ a1.toInt = 60 := tne rfl kp60 c1
    refine lv_iload_n hx hb dJ7_copyOf_59c91_14 rfl (lv_at hl 1 rfl) ?_
    refine g_newi (N' := a1.toNatClampNeg) C hW tw_318 (by have := tcl a1; omega) (by have := tcl a1; omega) ⟨Nat.le_of_ble_eq_true rfl, (by show 0 + a1.toNatClampNeg ≤ 60; have := tcl a1; omega)⟩ dJ7_copyOf_59c91_15 (fun q H hfr hW => ?_)
    refine W.widen (k := 1) (n := 60) (Nat.le_of_ble_eq_true rfl) (by show 0 + a1.toNatClampNeg ≤ 60; have := tcl a1; omega) ?_
    rw [List.append_assoc] at hW
    refine lv_astore_n (lv' := [(2, .ref q), (0, .ref (g.2.2.1 44)), (1, .int a1)]) hx hb dJ7_copyOf_59c91_17 rfl hl (by decide) rfl (fun ls hl => ?_)
    refine lv_aload_n hx hb dJ7_copyOf_59c91_18 rfl (lv_at hl 1 rfl) ?_
    refine lv_iconst (v := 0) hx hb dJ7_copyOf_59c91_19 (by decide) ?_
    refine lv_aload_n hx hb dJ7_copyOf_59c91_20 rfl (lv_at hl 0 rfl) ?_
    refine lv_iconst (v := 0) hx hb dJ7_copyOf_59c91_21 (by decide) ?_
    refine lv_aload_n hx hb dJ7_copyOf_59c91_22 rfl (lv_at hl 1 rfl) ?_
    refine rl_44 C hW (mx_ rfl) dJ7_copyOf_59c91_23 ?_
    refine lv_iload_n hx hb dJ7_copyOf_59c91_24 rfl (lv_at hl 2 rfl) ?_
    refine va_mmin hx hb (C.1.2.2.1.trans hl.1.symm) C.1.2.2.2.1 (hts _ tw_224) (hts _ tw_225) (hts _ tw_74) (hts _ tw_226) (Nat.le_of_ble_eq_true rfl) (Nat.le_of_ble_eq_true rfl) (Nat.le_of_ble_eq_true rfl) (Nat.le_of_ble_eq_true rfl) dJ7_copyOf_59c91_25 ?_
    refine lv_topi (fun x2 (e2 : x2 = if a1 < 60 then a1 else 60) => ?_)
    have t2 : x2.toInt = min 60 a1.toInt := tmin e2 kp60 rfl
    refine g_copyi (n := x2) C (C.1.2.2.1.trans hl.1.symm) hW (mx_ rfl) (List.mem_append_right _ (List.mem_append_right _ (List.mem_singleton.mpr rfl))) (by omega) (by omega) (by rw [up1_s]; have := tcl a1; omega) tw_227 tw_229 tw_228 tw_76 (Nat.le_of_ble_eq_true rfl) (by decide) dJ7_copyOf_59c91_28 (fun H locs hW => ?_)
    have hW : WB g A s.heap H locs (J, L, (irow (clr I 46 q 0) 46 q (va_cpy (J 44) (fun f => clr I 46 q 0 46 f q) 0 0 x2.toNatClampNeg)), P, E, (up1 N q a1.toNatClampNeg)) (sgX g ++ (dy ++ [(46, q)])) := hW
    refine lv_aload_n hx hb dJ7_copyOf_59c91_31 rfl (lv_at hl 0 rfl) ?_
    have hIe : irow (clr I 46 q 0) 46 q (va_cpy (J 44) (fun f => clr I 46 q 0 46 f q) 0 0 x2.toNatClampNeg) = hv I [46] [] (irow (clr I 46 q 0) 46 q (va_cpy (J 44) (fun f => clr I 46 q 0 46 f q) 0 0 x2.toNatClampNeg)) := ag_hvE (J := I) (R := [46]) (F := []) (ag_irow rfl (ag_clr rfl ag_rf))
    have hWr : WB g A s.heap H locs (J, L, hv I [46] [] (irow (clr I 46 q 0) 46 q (va_cpy (J 44) (fun f => clr I 46 q 0 46 f q) 0 0 x2.toNatClampNeg)), P, E, up1 N q a1.toNatClampNeg) (sgX g ++ (dy ++ [(46, q)])) := by rw [← hIe]; exact hW
    exact end_q (v := some q) C hr (Or.inr ⟨_, rfl⟩) hlocks (irow (clr I 46 q 0) 46 q (va_cpy (J 44) (fun f => clr I 46 q 0 46 f q) 0 0 x2.toNatClampNeg), q, a1.toNatClampNeg) hWr ⟨rfl, rfl, (fun i hi => (show (irow (clr I 46 q 0) 46 q (va_cpy (J 44) (fun f => clr I 46 q 0 46 f q) 0 0 x2.toNatClampNeg)) 46 i q = J 44 i from (irow_s _ _ _ _ _).trans (cpy_at (by have hi : i < a1.toNatClampNeg := hi; have h8 := tcl a1; have h9 := tcl x2; omega)))), (fun a (h : a ≠ q) f => (show (irow (clr I 46 q 0) 46 q (va_cpy (J 44) (fun f => clr I 46 q 0 46 f q) 0 0 x2.toNatClampNeg)) 46 f a = I 46 f a from (irow_o _ _ _ h _ _).trans (clr_o _ _ _ h _ _))), hfr⟩ dJ7_copyOf_59c91_32
  · have c1 : a1.toInt = 60 := teq rfl kp60 c1
    refine lv_aload_n hx hb dJ7_copyOf_59c91_6 rfl (lv_at hl 0 rfl) ?_
    refine g_clonei C (C.1.2.2.1.trans hl.1.symm) hW (mx_ rfl) tw_786 tw_787 tw_788 tw_789 tw_790 (by decide) (Nat.le_of_ble_eq_true rfl) (Nat.le_of_ble_eq_true rfl) ⟨Nat.le_of_ble_eq_true rfl, Nat.le_of_ble_eq_true rfl⟩ dJ7_copyOf_59c91_7 (fun q H hfr hW => ?_)
    rw [List.append_assoc] at hW
    refine g_casti C hW (List.mem_append_right _ (List.mem_append_right _ (List.mem_singleton.mpr rfl))) tw_792 dJ7_copyOf_59c91_10 ?_
    have hIe : irow I 46 q (J 44) = hv I [46] [] (irow I 46 q (J 44)) := ag_hvE (J := I) (R := [46]) (F := []) (ag_irow rfl ag_rf)
    have hWr : WB g A s.heap H locs (J, L, hv I [46] [] (irow I 46 q (J 44)), P, E, up1 N q 60) (sgX g ++ (dy ++ [(46, q)])) := by rw [← hIe]; exact hW
    exact end_q (v := some q) C hr (Or.inr ⟨_, rfl⟩) hlocks (irow I 46 q (J 44), q, 60) hWr ⟨rfl, (show 60 = a1.toNatClampNeg by (have h8 := tcl a1; omega)), (fun i _ => (show (irow I 46 q (J 44)) 46 i q = J 44 i from irow_s _ _ _ _ _)), (fun a (h : a ≠ q) f => (show (irow I 46 q (J 44)) 46 f a = I 46 f a from irow_o _ _ _ h _ _)), hfr⟩ dJ7_copyOf_59c91_13

set_option maxHeartbeats 4000000 in
set_option maxRecDepth 100000 in
theorem c_X10_madeCode_e (l : Launch) (g : gG) (J : Nat → Nat → Int32) (L : Nat → Nat → Int64) (I : Nat → Nat → Nat → Int32) (P : Nat → Nat → Nat → Option Nat) (E : Nat → Option Nat) (N : Nat → Nat) (dy : List (Nat × Nat)) (sz : Nat)  (hcl : 0 ≤ (J 11 3).toInt ∧ (J 11 3).toInt ≤ 60) : Met l yX10_madeCode (WS yX10_madeCode cX10_madeCode 2 (some (.array .int))) (RM (3) 1 60) (PC g [.ref (g.2.2.1 11)] ((J, L, I, P, E, N), sgX g ++ dy) sz) (va_Qq (fun (r9 : Option Nat) (u : (Nat → Nat → Nat → Int32) × Nat × Nat) => r9 = some u.2.1 ∧ u.2.2 = (J 11 3).toNatClampNeg ∧ (∀ i : Nat, i < u.2.2 → u.1 46 i u.2.1 = J 44 i) ∧ (∀ a : Nat, a ≠ u.2.1 → ∀ f : Nat, u.1 46 f a = I 46 f a) ∧ (∀ x ∈ sgX g ++ dy, x.2 ≠ u.2.1)) (fun u t => at_ g (FR g ((J, L, I, P, E, N), sgX g ++ dy) sz) (((J, L, hv I [46] [] u.1, P, E, up1 N u.2.1 u.2.2), sgX g ++ (dy ++ [(46, u.2.1)]))) t) (FR g ((J, L, I, P, E, N), sgX g ++ dy) sz)) 1 60 (FR g ((J, L, I, P, E, N), sgX g ++ dy) sz) := by
  refine ent (by decide +kernel) (Nat.le_of_ble_eq_true rfl) ?_
  intro p e s m below meth c ls hsz C hW hr hlocks hname hl
  generalize FR g ((J, L, I, P, E, N), sgX g ++ dy) sz = A at C hW ⊢
  have hx := C.1.1
  have hb := C.1.2.1
  have hts := C.1.2.2.2.2
  have hl : lv_has ls 2 [(0, .ref (g.2.2.1 11))] := hl
  obtain ⟨H, hH⟩ : ∃ H : Heap, H = s.heap := ⟨_, rfl⟩
  obtain ⟨locs, hlocs⟩ : ∃ q : List Loc, q = [] := ⟨_, rfl⟩
  have hW : WB g A s.heap H locs (J, L, I, P, E, N) (sgX g ++ dy) := by rw [hH, hlocs]; exact hW
  refine start_ hH hlocs ?_
  refine lv_iconst (v := 0) hx hb dX10_madeCode_0 (by decide) ?_
  refine lv_aload_n hx hb dX10_madeCode_1 rfl (lv_at hl 0 rfl) ?_
  refine rg_11_3 C hW (mx_ rfl) tw_304 dX10_madeCode_2 ?_
  refine lv_aload_n hx hb dX10_madeCode_5 rfl (lv_at hl 0 rfl) ?_
  refine rg_11_1 C hW (mx_ rfl) tw_301 dX10_madeCode_6 ?_
  refine rl_44 C hW (mx_ rfl) dX10_madeCode_9 ?_
  refine va_mmin hx hb (C.1.2.2.1.trans hl.1.symm) C.1.2.2.2.1 (hts _ tw_781) (hts _ tw_225) (hts _ tw_74) (hts _ tw_226) (Nat.le_of_ble_eq_true rfl) (Nat.le_of_ble_eq_true rfl) (Nat.le_of_ble_eq_true rfl) (Nat.le_of_ble_eq_true rfl) dX10_madeCode_10 ?_
  refine lv_topi (fun x1 (e1 : x1 = if 60 < (J 11 3) then 60 else (J 11 3)) => ?_)
  have t1 : x1.toInt = min ((J 11 3).toInt) 60 := tmin e1 rfl kp60
  refine va_mmax hx hb (C.1.2.2.1.trans hl.1.symm) C.1.2.2.2.1 (hts _ tw_782) (hts _ tw_191) (hts _ tw_74) (hts _ tw_192) (Nat.le_of_ble_eq_true rfl) (Nat.le_of_ble_eq_true rfl) (Nat.le_of_ble_eq_true rfl) (Nat.le_of_ble_eq_true rfl) dX10_madeCode_13 ?_
  refine lv_topi (fun x2 (e2 : x2 = if 0 < x1 then x1 else 0) => ?_)
  have t2 : x2.toInt = max 0 x1.toInt := tmax e2 kp0 rfl
  refine lv_istore_n (lv' := [(1, .int x2), (0, .ref (g.2.2.1 11))]) hx hb dX10_madeCode_16 rfl hl (by decide) rfl (fun ls hl => ?_)
  refine lv_aload_n hx hb dX10_madeCode_17 rfl (lv_at hl 1 rfl) ?_
  refine rg_11_1 C hW (mx_ rfl) tw_301 dX10_madeCode_18 ?_
  refine lv_iload_n hx hb dX10_madeCode_21 rfl (lv_at hl 0 rfl) ?_
  refine cq_ C hW (runS (As := [.ref (g.2.2.1 44), .int x2]) (rest := []) (T := ((J, L, I, P, E, N), sgX g ++ dy)) C hW (c_J7_copyOf_59c91_e l g J L I P E N dy H.size x2 (by omega)) mi_J7_copyOf_59c91 tw_783 ⟨rfl, rfl, Nat.le_of_ble_eq_true rfl, Nat.le_of_ble_eq_true rfl⟩ rfl hl.1 rfl (Nat.le_of_ble_eq_true rfl) dX10_madeCode_22 ⟨Nat.le_of_ble_eq_true rfl, Nat.le_of_ble_eq_true rfl⟩) (fun q9 u9 H locs hp9 hW => ?_)
  have e9 : x2.toNatClampNeg = (J 11 3).toNatClampNeg := by (have h8 := tcl x2; have h9 := tcl (J 11 3); omega)
  rw [e9] at hp9
  exact end_q (v := q9) C hr (Or.inr ⟨_, rfl⟩) hlocks u9 hW hp9 dX10_madeCode_25
