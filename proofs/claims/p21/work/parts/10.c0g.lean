/-- an object of the log, its minutes by the rows: kind, reader, voice, of, weather -/
def SPO (I : Nat → Nat → Nat → Int32) (o : Nat) (now : Int) (K R V O T : Nat → Int32) : Prop :=
  0 ≤ (I 9 0 o).toInt ∧ (I 9 0 o).toInt ≤ (I 9 1 o).toInt ∧ (I 9 1 o).toInt < now ∧ ∀ m : Nat, (I 9 0 o).toInt ≤ (m : Int) → (m : Int) ≤ (I 9 1 o).toInt → I 9 2 o = K m ∧ I 9 4 o = R m ∧ I 9 5 o = V m ∧ I 9 6 o = O m ∧ I 9 3 o = T m
/-- the log: its spans follow each other up to now -/
def SPR (I : Nat → Nat → Nat → Int32) (E : Nat → Option Nat) (P : Nat → Nat → Nat → Option Nat) (n now : Int) (K R V O T : Nat → Int32) : Prop :=
  (n ≤ 0 → now = 0) ∧ 0 ≤ now ∧ ∀ k : Nat, (k : Int) < n → SPO I (elt E P 27 k) now K R V O T ∧ (k = 0 → (I 9 0 (elt E P 27 k)).toInt = 0) ∧ (∀ j : Nat, j = k + 1 → (j : Int) < n → (I 9 0 (elt E P 27 j)).toInt = (I 9 1 (elt E P 27 k)).toInt + 1) ∧ ((k : Int) + 1 = n → now = (I 9 1 (elt E P 27 k)).toInt + 1)
section SPAN
variable {I I' : Nat → Nat → Nat → Int32} {E E' : Nat → Option Nat} {P P' : Nat → Nat → Nat → Option Nat} {n n' now now' : Int} {K R V O T K' R' V' O' T' : Nat → Int32} {o k : Nat}
theorem spo_at {a : Int32} (h : 0 ≤ a.toInt ∧ a.toInt < now ∧ (I 9 0 o).toInt ≤ a.toInt ∧ a.toInt ≤ (I 9 1 o).toInt ∧ SPO I o now K R V O T) : I 9 2 o = K a.toNatClampNeg ∧ I 9 4 o = R a.toNatClampNeg ∧ I 9 5 o = V a.toNatClampNeg ∧ I 9 6 o = O a.toNatClampNeg ∧ I 9 3 o = T a.toNatClampNeg := by
  obtain ⟨h1, h2, h3, h4, h5, h6, h7, h8⟩ := h
  have h9 := tcl a
  exact h8 a.toNatClampNeg (by omega) (by omega)
theorem sp_fin {a : Int} (h : SPR I E P n now K R V O T) (ho : o = elt E P 27 k) (hk : (k : Int) < n) (h0 : (I 9 0 o).toInt ≤ a) (h1 : ∀ j : Nat, (j : Int) = (k : Int) + 1 → (j : Int) < n → a < (I 9 0 (elt E P 27 j)).toInt) (hn : a < now) : (I 9 0 o).toInt ≤ a ∧ a ≤ (I 9 1 o).toInt ∧ SPO I o now K R V O T := by
  subst ho
  obtain ⟨s1, -, s3, s4⟩ := h.2.2 k hk
  refine ⟨h0, ?_, s1⟩
  by_cases e : (k : Int) + 1 < n
  · have q1 := h1 (k + 1) (by omega) (by omega)
    have q2 := s3 (k + 1) rfl (by omega)
    omega
  · have q2 := s4 (by omega)
    omega
end SPAN
def BSL : Nat → Int
  | 0 => 10000
  | n + 1 => BSL n / 2
/-- how far apart the two ends of the search are after so many turns -/
def BS (a t : Int) : Prop := a ≤ BSL t.toNat
theorem bs_0 {a t : Int} (h : a ≤ 10000) (ht : t = 0) : BS a t := by
  subst ht; exact h
theorem bs_s {a b t t' : Int} (h : BS a t) (h2 : 2 * b ≤ a) (ht : 0 ≤ t) (e : t' = t + 1) : BS b t' := by
  have e2 : t'.toNat = t.toNat + 1 := by omega
  have e3 : BSL (t.toNat + 1) = BSL t.toNat / 2 := rfl
  unfold BS at *
  rw [e2, e3]; omega
theorem bsl_z : ∀ n : Nat, BSL (14 + n) = 0
  | 0 => by decide
  | n + 1 => by show BSL (14 + n) / 2 = 0; rw [bsl_z n]; decide
theorem bs_e {a t : Int} (h : BS a t) (ht : 32 ≤ t) (ha : 0 ≤ a) : a = 0 := by
  have e : t.toNat = 14 + (t.toNat - 14) := by omega
  unfold BS at h
  rw [e, bsl_z] at h; omega
/-- the term in force: the latest one, of several the one told last -/
def INF (pu fr : Nat → Int) (n p m : Int) (k : Nat) : Prop := (k : Int) < n ∧ pu k = p ∧ fr k ≤ m ∧ ∀ j : Nat, (j : Int) < n → pu j = p → fr j ≤ m → fr j ≤ fr k ∧ (fr j = fr k → j ≤ k)
def INN (pu fr : Nat → Int) (n p m : Int) : Prop := ∀ j : Nat, (j : Int) < n → pu j = p → ¬ fr j ≤ m
section FORCE
variable {pu fr pu' fr' : Nat → Int} {n n' p m i i' : Int} {k k' c : Nat} {A A' : Prop} {B B' : Nat → Prop}
theorem inf_det (h : INF pu fr n p m k) (h2 : INF pu fr n p m k') : k = k' := by
  obtain ⟨a1, a2, a3, a4⟩ := h
  obtain ⟨b1, b2, b3, b4⟩ := h2
  have x := a4 k' b1 b2 b3
  have y := b4 k a1 a2 a3
  have e : fr k = fr k' := by omega
  have := x.2 e.symm
  have := y.2 e
  omega
theorem inf_inn (h : INF pu fr n p m k) (h2 : INN pu fr n p m) : False := h2 k h.1 h.2.1 h.2.2.1
theorem inf_congr (hn : n' = n) (h1 : ∀ j : Nat, (j : Int) < n → pu' j = pu j ∧ fr' j = fr j) (h : INF pu fr n p m k) : INF pu' fr' n' p m k := by
  subst hn
  obtain ⟨a1, a2, a3, a4⟩ := h
  refine ⟨a1, by rw [(h1 k a1).1]; exact a2, by rw [(h1 k a1).2]; exact a3, fun j hj q1 q2 => ?_⟩
  rw [(h1 j hj).1] at q1
  rw [(h1 j hj).2] at q2
  rw [(h1 j hj).2, (h1 k a1).2]; exact a4 j hj q1 q2
theorem inn_congr (hn : n' = n) (h1 : ∀ j : Nat, (j : Int) < n → pu' j = pu j ∧ fr' j = fr j) (h : INN pu fr n p m) : INN pu' fr' n' p m := by
  subst hn
  intro j hj q1 q2
  rw [(h1 j hj).1] at q1
  rw [(h1 j hj).2] at q2
  exact h j hj q1 q2
theorem inn_0 (h : i = 0) : INN pu fr i p m := fun j hj => by omega
theorem if_skip (h : (A ∧ INN pu fr i p m) ∨ ∃ k : Nat, B k ∧ INF pu fr i p m k) (hc : (c : Int) = i) (hi : i' = i + 1) (h2 : ¬ pu c = p ∨ m < fr c ∨ ((A → False) ∧ ∀ k : Nat, B k → fr c < fr k)) : (A ∧ INN pu fr i' p m) ∨ ∃ k : Nat, B k ∧ INF pu fr i' p m k := by
  subst hi
  rcases h with ⟨hq, h⟩ | ⟨k, hq, a1, a2, a3, a4⟩
  · refine Or.inl ⟨hq, fun j hj h3 h4 => ?_⟩
    by_cases e : j = c
    · subst e
      rcases h2 with h2 | h2 | ⟨h2, -⟩
      · exact h2 h3
      · omega
      · exact h2 hq
    · exact h j (by omega) h3 h4
  · refine Or.inr ⟨k, hq, by omega, a2, a3, fun j hj h3 h4 => ?_⟩
    by_cases e : j = c
    · subst e
      rcases h2 with h2 | h2 | ⟨-, h2⟩
      · exact absurd h3 h2
      · omega
      · have := h2 k hq
        exact ⟨by omega, fun e => by omega⟩
    · exact a4 j (by omega) h3 h4
theorem if_take (h : (A ∧ INN pu fr i p m) ∨ ∃ k : Nat, B k ∧ INF pu fr i p m k) (hc : (c : Int) = i) (hi : i' = i + 1) (h1 : pu c = p) (h2 : fr c ≤ m) (h3 : ∀ k : Nat, B k → fr k ≤ fr c) (hB : B' c) : (A' ∧ INN pu fr i' p m) ∨ ∃ k : Nat, B' k ∧ INF pu fr i' p m k := by
  subst hi
  refine Or.inr ⟨c, hB, by omega, h1, h2, fun j hj q1 q2 => ?_⟩
  by_cases e : j = c
  · subst e; exact ⟨Int.le_refl _, fun _ => Nat.le_refl _⟩
  · rcases h with ⟨-, h⟩ | ⟨k, hq, a1, a2, a3, a4⟩
    · exact absurd q2 (h j (by omega) q1)
    · have x := a4 j (by omega) q1 q2
      have y := h3 k hq
      exact ⟨by omega, fun _ => by omega⟩
theorem if_end_s {o : Nat} {el : Nat → Nat} (h : (some o = none ∧ INN pu fr i p m) ∨ ∃ k : Nat, some o = some (el k) ∧ INF pu fr i p m k) (e : i = n) : ∃ k : Nat, o = el k ∧ INF pu fr n p m k := by
  subst e
  rcases h with ⟨h, -⟩ | ⟨k, h1, h2⟩
  · cases h
  · exact ⟨k, Option.some.inj h1, h2⟩
theorem if_end_n {el : Nat → Nat} (h : ((none : Option Nat) = none ∧ INN pu fr i p m) ∨ ∃ k : Nat, (none : Option Nat) = some (el k) ∧ INF pu fr i p m k) (e : i = n) : INN pu fr n p m := by
  subst e
  rcases h with ⟨-, h⟩ | ⟨k, h1, -⟩
  · exact h
  · cases h1
end FORCE
abbrev TPU (I : Nat → Nat → Nat → Int32) (E : Nat → Option Nat) (P : Nat → Nat → Nat → Option Nat) : Nat → Int := fun j => (I 10 0 (elt E P 25 j)).toInt
abbrev TFR (I : Nat → Nat → Nat → Int32) (E : Nat → Option Nat) (P : Nat → Nat → Nat → Option Nat) : Nat → Int := fun j => (I 10 1 (elt E P 25 j)).toInt
/-- the code of a term -/
def CD (I : Nat → Nat → Nat → Int32) (P : Nat → Nat → Nat → Option Nat) (E : Nat → Option Nat) (N : Nat → Nat) (k : Nat) : List Int := cs (fun i => I 46 i ((P 10 2 (elt E P 25 k)).getD 0)) 0 (N ((P 10 2 (elt E P 25 k)).getD 0))
def CDB (I : Nat → Nat → Nat → Int32) (P : Nat → Nat → Nat → Option Nat) (E : Nat → Option Nat) (N : Nat → Nat) (n : Int) : Prop := ∀ k : Nat, (k : Int) < n → ∀ b : Nat, P 10 2 (elt E P 25 k) = some b → ∀ i : Nat, i < N b → -200 ≤ (I 46 i b).toInt
def hrw (x : Int) : Int32 := Int32.ofInt (x / 60 % 24)
theorem hrw_eq {r : Int32} {x : Int} (h : r.toInt = x / 60 % 24) : r = hrw x := by
  unfold hrw; rw [← h, Int32.ofInt_toInt]
/-- whether an alarm may be said -/
def MBK (I : Nat → Nat → Nat → Int32) (P : Nat → Nat → Nat → Option Nat) (E : Nat → Option Nat) (N : Nat → Nat) (n now : Int) (h v w hm : Int32) : Prop := INN (TPU I E P) (TFR I E P) n 3 now ∨ ∃ k : Nat, INF (TPU I E P) (TFR I E P) n 3 now k ∧ 0 < (WGH (SCL 2 h v 0 0 w 0 hm) (CD I P E N k)).toInt
section BREAKS
variable {I : Nat → Nat → Nat → Int32} {E : Nat → Option Nat} {P : Nat → Nat → Nat → Option Nat} {N : Nat → Nat} {n now p m : Int} {h v w hm r : Int32} {o b k : Nat}
theorem cd_eq (ho : o = elt E P 25 k) (hb : P 10 2 o = some b) : CD I P E N k = cs (fun i => I 46 i b) 0 (N b) := by
  unfold CD; rw [← ho, hb]; rfl
theorem cdb_at (h : CDB I P E N n) (hk : ∃ k : Nat, o = elt E P 25 k ∧ INF (TPU I E P) (TFR I E P) n p m k) (hb : P 10 2 o = some b) : ∀ i : Nat, i < N b → -200 ≤ (I 46 i b).toInt := by
  obtain ⟨k, ho, hi⟩ := hk
  exact h k hi.1 b (by rw [← ho]; exact hb)
theorem mb_y (hk : ∃ k : Nat, o = elt E P 25 k ∧ INF (TPU I E P) (TFR I E P) n 3 now k) (hb : P 10 2 o = some b) (hr : r = WGH (SCL 2 h v 0 0 w 0 hm) (cs (fun i => I 46 i b) 0 (N b))) (h0 : 0 < r.toInt) : MBK I P E N n now h v w hm := by
  obtain ⟨k, ho, hi⟩ := hk
  refine Or.inr ⟨k, hi, ?_⟩
  rw [cd_eq ho hb, ← hr]; exact h0
theorem mb_n (hk : ∃ k : Nat, o = elt E P 25 k ∧ INF (TPU I E P) (TFR I E P) n 3 now k) (hb : P 10 2 o = some b) (hr : r = WGH (SCL 2 h v 0 0 w 0 hm) (cs (fun i => I 46 i b) 0 (N b))) (h0 : r.toInt ≤ 0) : ¬ MBK I P E N n now h v w hm := by
  obtain ⟨k, ho, hi⟩ := hk
  rintro (q | ⟨k', q1, q2⟩)
  · exact inf_inn hi q
  · have e := inf_det hi q1
    subst e
    rw [cd_eq ho hb, ← hr] at q2; omega
end BREAKS
set_option maxHeartbeats 4000000 in
set_option maxRecDepth 100000 in
theorem c_X2_spanOf_e (l : Launch) (g : gG) (J : Nat → Nat → Int32) (L : Nat → Nat → Int64) (I : Nat → Nat → Nat → Int32) (P : Nat → Nat → Nat → Option Nat) (E : Nat → Option Nat) (N : Nat → Nat) (dy : List (Nat × Nat)) (sz : Nat) (a0 : Int32) (hwf : WXF g J P E N dy) (hspr : SPR I E P (J 27 2).toInt (J 3 1).toInt (J 116) (J 117) (J 118) (J 119) (J 120)) : Met l yX2_spanOf (WS yX2_spanOf cX2_spanOf 6 (some (.object "EarPaper$Span"))) (RM (4) 0 0) (PC g [.ref (g.2.2.1 3), .int a0] ((J, L, I, P, E, N), sgX g ++ dy) sz) (va_Qq (fun (r : Option Nat) (u : Unit) => ((r = none ∧ (¬ (0 ≤ a0.toInt ∧ a0.toInt < (J 3 1).toInt))) ∨ (∃ o9 : Nat, r = some o9 ∧ (9, o9) ∈ dy ∧ (0 ≤ a0.toInt ∧ a0.toInt < (J 3 1).toInt ∧ (I 9 0 o9).toInt ≤ a0.toInt ∧ a0.toInt ≤ (I 9 1 o9).toInt ∧ SPO I o9 (J 3 1).toInt (J 116) (J 117) (J 118) (J 119) (J 120))))) (fun u t => at_ g (FR g ((J, L, I, P, E, N), sgX g ++ dy) sz) ((J, L, I, P, E, N), sgX g ++ dy) t) (FR g ((J, L, I, P, E, N), sgX g ++ dy) sz)) 0 0 (FR g ((J, L, I, P, E, N), sgX g ++ dy) sz) := by
  refine ent (by decide +kernel) (Nat.le_of_ble_eq_true rfl) ?_
  intro p e s m below meth c ls hsz C hW hr hlocks hname hl
  generalize FR g ((J, L, I, P, E, N), sgX g ++ dy) sz = A at C hW ⊢
  have hx := C.1.1
  have hb := C.1.2.1
  have hts := C.1.2.2.2.2
  have hl : lv_has ls 6 [(0, .ref (g.2.2.1 3)), (1, .int a0)] := hl
  obtain ⟨H, hH⟩ : ∃ H : Heap, H = s.heap := ⟨_, rfl⟩
  obtain ⟨locs, hlocs⟩ : ∃ q : List Loc, q = [] := ⟨_, rfl⟩
  have hW : WB g A s.heap H locs (J, L, I, P, E, N) (sgX g ++ dy) := by rw [hH, hlocs]; exact hW
  obtain ⟨h25a, h25b, -⟩ := hwf.2.1.2.1
  obtain ⟨h27a, h27b, -⟩ := hwf.2.1.2.2.2
  have hsp1 := hspr.1
  refine start_ hH hlocs ?_
  refine lv_iload_n hx hb dX2_spanOf_0 rfl (lv_at hl 1 rfl) ?_
  refine lv_if_lt (tgt := 22) hx hb dX2_spanOf_1 (by decide) (fun c1 => ?_) (fun c1 => ?_)
  · have c1 : a0.toInt < 0 := tlt rfl kp0 c1
    refine lv_null hx hb dX2_spanOf_22 ?_
    exact end_q (v := none) C hr (Or.inl ⟨_, rfl⟩) hlocks () hW (Or.inl ⟨rfl, by omega⟩) dX2_spanOf_23
  · have c1 : 0 ≤ a0.toInt := tnlt rfl kp0 c1
    refine lv_iload_n hx hb dX2_spanOf_4 rfl (lv_at hl 1 rfl) ?_
    refine lv_aload_n hx hb dX2_spanOf_5 rfl (lv_at hl 0 rfl) ?_
    refine rg_3_1 C hW (mx_ rfl) tw_277 dX2_spanOf_6 ?_
    refine lv_icmp_ge (tgt := 22) hx hb dX2_spanOf_9 (by decide) (fun c2 => ?_) (fun c2 => ?_)
    · have c2 : (J 3 1).toInt ≤ a0.toInt := tle rfl rfl c2
      refine lv_null hx hb dX2_spanOf_22 ?_
      exact end_q (v := none) C hr (Or.inl ⟨_, rfl⟩) hlocks () hW (Or.inl ⟨rfl, by omega⟩) dX2_spanOf_23
    · have c2 : a0.toInt < (J 3 1).toInt := tnle rfl rfl c2
      refine lv_aload_n hx hb dX2_spanOf_12 rfl (lv_at hl 0 rfl) ?_
      refine rg_3_0 C hW (mx_ rfl) tw_276 dX2_spanOf_13 ?_
      refine ci_ C hW (runV (x := (g.2.2.1 27)) (As := []) (rest := []) (T := ((J, L, I, P, E, N), sgX g ++ dy)) C hW (c_Jx4a65c_isEmpty_aae02 l g J L I P E N dy H.size 27 rfl ) mi_Jx4a65c_isEmpty_aae02 tw_643 (recv_ (T := ((J, L, I, P, E, N), sgX g ++ dy)) C hW (mx_ rfl) (cel_list rfl) rfl) ⟨rfl, rfl, Nat.le_of_ble_eq_true rfl, Nat.le_of_ble_eq_true rfl⟩ rfl hl.1 rfl (Nat.le_of_ble_eq_true rfl) dX2_spanOf_16 ⟨Nat.le_of_ble_eq_true rfl, Nat.le_of_ble_eq_true rfl⟩) (fun r3 u3 H locs hp3 hW => ?_)
      have hc3 : ((r3.toInt = 1 ∧ ((J 27 2).toInt = 0)) ∨ (r3.toInt = 0 ∧ (¬ (J 27 2).toInt = 0))) := hp3
      clear hp3
      have hW : WB g A s.heap H locs (J, L, I, P, E, N) (sgX g ++ dy) := hW
      refine lv_if_eq (tgt := 24) hx hb dX2_spanOf_19 (by decide) (fun c4 => ?_) (fun c4 => ?_)
      · have c4 : r3.toInt = 0 := teq rfl kp0 c4
        refine lv_iconst (v := 0) hx hb dX2_spanOf_24 (by decide) ?_
        refine lv_istore_n (lv' := [(2, .int 0), (0, .ref (g.2.2.1 3)), (1, .int a0)]) hx hb dX2_spanOf_25 rfl hl (by decide) rfl (fun ls hl => ?_)
        refine lv_aload_n hx hb dX2_spanOf_26 rfl (lv_at hl 1 rfl) ?_
        refine rg_3_0 C hW (mx_ rfl) tw_276 dX2_spanOf_27 ?_
        refine ci_ C hW (runV (x := (g.2.2.1 27)) (As := []) (rest := []) (T := ((J, L, I, P, E, N), sgX g ++ dy)) C hW (c_Jx4a65c_size_8abf5 l g J L I P E N dy H.size 27 rfl ) mi_Jx4a65c_size_8abf5 tw_647 (recv_ (T := ((J, L, I, P, E, N), sgX g ++ dy)) C hW (mx_ rfl) (cel_list rfl) rfl) ⟨rfl, rfl, Nat.le_of_ble_eq_true rfl, Nat.le_of_ble_eq_true rfl⟩ rfl hl.1 rfl (Nat.le_of_ble_eq_true rfl) dX2_spanOf_30 ⟨Nat.le_of_ble_eq_true rfl, Nat.le_of_ble_eq_true rfl⟩) (fun r5 u5 H locs hp5 hW => ?_)
        have hc5 : ((r5 = J 27 2)) := hp5
        clear hp5
        have hr5 : r5 = J 27 2 := hc5
        refine lv_as (J 27 2) hr5 ?_
        have hW : WB g A s.heap H locs (J, L, I, P, E, N) (sgX g ++ dy) := hW
        refine lv_iconst (v := 1) hx hb dX2_spanOf_33 (by decide) ?_
        refine lv_isub hx hb dX2_spanOf_34 ?_
        refine lv_topi (fun x6 (e6 : x6 = (J 27 2) - 1) => ?_)
        try have t6 : x6.toInt = (J 27 2).toInt - 1 := tsub e6 rfl kp1 (by omega)
        refine lv_istore_n (lv' := [(3, .int x6), (2, .int 0), (0, .ref (g.2.2.1 3)), (1, .int a0)]) hx hb dX2_spanOf_35 rfl hl (by decide) rfl (fun ls hl => ?_)
        refine lv_iconst (v := 0) hx hb dX2_spanOf_36 (by decide) ?_
        refine lv_istore (lv' := [(4, .int 0), (3, .int x6), (2, .int 0), (0, .ref (g.2.2.1 3)), (1, .int a0)]) hx hb dX2_spanOf_37 hl (by decide) rfl (fun ls hl => ?_)
        have loop39 : ∀ (n : Nat) (m2 : Int32) (m3 : Int32) (m4 : Int32) (H : Heap) (locs : List Loc) (ls : Array Slot), (32 - m4.toInt).toNat < n → 0 ≤ m2.toInt ∧ m2.toInt ≤ m3.toInt ∧ m3.toInt < (J 27 2).toInt ∧ 0 ≤ m4.toInt ∧ m4.toInt ≤ 32 → (I 9 0 (elt E P 27 m2.toNatClampNeg)).toInt ≤ a0.toInt → (∀ k : Nat, (k : Int) = m3.toInt + 1 → (k : Int) < (J 27 2).toInt → a0.toInt < (I 9 0 (elt E P 27 k)).toInt) → BS (m3.toInt - m2.toInt) m4.toInt → WB g A s.heap H locs (J, L, I, P, E, N) (sgX g ++ dy) → lv_has ls 6 [(4, .int m4), (3, .int m3), (2, .int m2), (0, .ref (g.2.2.1 3)), (1, .int a0)] → W p l e (RM (4) 0 0) s m ([.ref (g.2.2.1 3), .int a0] : List Value).toArray below meth c H locs 0 0 (MQ below (va_Qq (fun (r : Option Nat) (u : Unit) => ((r = none ∧ (¬ (0 ≤ a0.toInt ∧ a0.toInt < (J 3 1).toInt))) ∨ (∃ o9 : Nat, r = some o9 ∧ (9, o9) ∈ dy ∧ (0 ≤ a0.toInt ∧ a0.toInt < (J 3 1).toInt ∧ (I 9 0 o9).toInt ≤ a0.toInt ∧ a0.toInt ≤ (I 9 1 o9).toInt ∧ SPO I o9 (J 3 1).toInt (J 116) (J 117) (J 118) (J 119) (J 120))))) (fun u t => at_ g A ((J, L, I, P, E, N), sgX g ++ dy) t) A) ([.ref (g.2.2.1 3), .int a0] : List Value).toArray s 0 0 A) (F0 m 39 ls []) := by
          intro n
          induction n with
          | zero => intro m2 m3 m4 H locs ls hmeas; exact absurd hmeas (Nat.not_lt_zero _)
          | succ n ih =>
            intro m2 m3 m4 H locs ls hmeas hi hlo hhi hpw hW hl
            refine lv_iload hx hb dX2_spanOf_39 (lv_at hl 0 rfl) ?_
            refine lv_bipush (v := 32) hx hb dX2_spanOf_41 (by decide) ?_
            refine lv_icmp_ge (tgt := 96) hx hb dX2_spanOf_43 (by decide) (fun c7 => ?_) (fun c7 => ?_)
            · have c7 : 32 ≤ m4.toInt := tle kp32 rfl c7
              refine lv_aload_n hx hb dX2_spanOf_96 rfl (lv_at hl 3 rfl) ?_
              refine rg_3_0 C hW (mx_ rfl) tw_276 dX2_spanOf_97 ?_
              refine lv_iload_n hx hb dX2_spanOf_100 rfl (lv_at hl 2 rfl) ?_
              refine cq_ C hW (runV (x := (g.2.2.1 27)) (As := [.int m2]) (rest := []) (T := ((J, L, I, P, E, N), sgX g ++ dy)) C hW ((c_Jx4a65c_get_915e3 9) l g J L I P E N dy H.size 27 rfl m2 (show LWF g J P E N dy 27 9 from hwf.2.1.2.2.2) (show 0 ≤ m2.toInt ∧ m2.toInt < (J 27 2).toInt from by omega)) mi_Jx4a65c_get_915e3 tw_648 (recv_ (T := ((J, L, I, P, E, N), sgX g ++ dy)) C hW (mx_ rfl) (cel_list rfl) rfl) ⟨rfl, rfl, Nat.le_of_ble_eq_true rfl, Nat.le_of_ble_eq_true rfl⟩ rfl hl.1 rfl (Nat.le_of_ble_eq_true rfl) dX2_spanOf_101 ⟨Nat.le_of_ble_eq_true rfl, Nat.le_of_ble_eq_true rfl⟩) (fun q8 u8 H locs hp8 hW => ?_)
              have hq8 : (q8 = some (elt E P 27 m2.toNatClampNeg)) := hp8
              clear hp8
              have hW : WB g A s.heap H locs (J, L, I, P, E, N) (sgX g ++ dy) := hW
              subst hq8
              obtain ⟨o8, ho8⟩ : ∃ z : Nat, z = elt E P 27 m2.toNatClampNeg := ⟨_, rfl⟩
              have hm8 : (9, o8) ∈ dy := by rw [ho8]; exact (lw_mem (er := 9) hwf.2.1.2.2.2 (show (m2.toNatClampNeg : Int) < (J 27 2).toInt from by have := tcl m2; omega))
              refine lv_asv (v' := .ref o8) (by rw [ho8]; rfl) ?_
              refine g_cast C hW (List.mem_append_right _ hm8) rfl rfl tw_649 dX2_spanOf_104 ?_
              exact end_q (v := some o8) C hr (Or.inl ⟨_, rfl⟩) hlocks () hW (Or.inr ⟨_, rfl, hm8, by (have h8 := tcl m2; have he9 : m3.toInt = m2.toInt := (by first | omega | (have h7 := bs_e hpw (by omega) (by omega); omega)); exact ⟨by omega, by omega, sp_fin hspr ho8 (by omega) (by rw [ho8]; exact hlo) (fun j hj => hhi j (by omega)) (by omega)⟩)⟩) dX2_spanOf_107
            · have c7 : m4.toInt < 32 := tnle kp32 rfl c7
              refine lv_iload_n hx hb dX2_spanOf_46 rfl (lv_at hl 2 rfl) ?_
              refine lv_iload_n hx hb dX2_spanOf_47 rfl (lv_at hl 1 rfl) ?_
              refine lv_icmp_ge (tgt := 96) hx hb dX2_spanOf_48 (by decide) (fun c9 => ?_) (fun c9 => ?_)
              · have c9 : m3.toInt ≤ m2.toInt := tle rfl rfl c9
                refine lv_aload_n hx hb dX2_spanOf_96 rfl (lv_at hl 3 rfl) ?_
                refine rg_3_0 C hW (mx_ rfl) tw_276 dX2_spanOf_97 ?_
                refine lv_iload_n hx hb dX2_spanOf_100 rfl (lv_at hl 2 rfl) ?_
                refine cq_ C hW (runV (x := (g.2.2.1 27)) (As := [.int m2]) (rest := []) (T := ((J, L, I, P, E, N), sgX g ++ dy)) C hW ((c_Jx4a65c_get_915e3 9) l g J L I P E N dy H.size 27 rfl m2 (show LWF g J P E N dy 27 9 from hwf.2.1.2.2.2) (show 0 ≤ m2.toInt ∧ m2.toInt < (J 27 2).toInt from by omega)) mi_Jx4a65c_get_915e3 tw_648 (recv_ (T := ((J, L, I, P, E, N), sgX g ++ dy)) C hW (mx_ rfl) (cel_list rfl) rfl) ⟨rfl, rfl, Nat.le_of_ble_eq_true rfl, Nat.le_of_ble_eq_true rfl⟩ rfl hl.1 rfl (Nat.le_of_ble_eq_true rfl) dX2_spanOf_101 ⟨Nat.le_of_ble_eq_true rfl, Nat.le_of_ble_eq_true rfl⟩) (fun q10 u10 H locs hp10 hW => ?_)
                have hq10 : (q10 = some (elt E P 27 m2.toNatClampNeg)) := hp10
                clear hp10
                have hW : WB g A s.heap H locs (J, L, I, P, E, N) (sgX g ++ dy) := hW
                subst hq10
                obtain ⟨o10, ho10⟩ : ∃ z : Nat, z = elt E P 27 m2.toNatClampNeg := ⟨_, rfl⟩
                have hm10 : (9, o10) ∈ dy := by rw [ho10]; exact (lw_mem (er := 9) hwf.2.1.2.2.2 (show (m2.toNatClampNeg : Int) < (J 27 2).toInt from by have := tcl m2; omega))
                refine lv_asv (v' := .ref o10) (by rw [ho10]; rfl) ?_
                refine g_cast C hW (List.mem_append_right _ hm10) rfl rfl tw_649 dX2_spanOf_104 ?_
                exact end_q (v := some o10) C hr (Or.inl ⟨_, rfl⟩) hlocks () hW (Or.inr ⟨_, rfl, hm10, by (have h8 := tcl m2; have he9 : m3.toInt = m2.toInt := (by first | omega | (have h7 := bs_e hpw (by omega) (by omega); omega)); exact ⟨by omega, by omega, sp_fin hspr ho10 (by omega) (by rw [ho10]; exact hlo) (fun j hj => hhi j (by omega)) (by omega)⟩)⟩) dX2_spanOf_107
              · have c9 : m2.toInt < m3.toInt := tnle rfl rfl c9
                refine lv_iload_n hx hb dX2_spanOf_51 rfl (lv_at hl 2 rfl) ?_
                refine lv_iload_n hx hb dX2_spanOf_52 rfl (lv_at hl 1 rfl) ?_
                refine lv_iadd hx hb dX2_spanOf_53 ?_
                refine lv_topi (fun x11 (e11 : x11 = m2 + m3) => ?_)
                try have t11 : x11.toInt = m2.toInt + m3.toInt := tadd e11 rfl rfl (by omega)
                refine lv_iconst (v := 1) hx hb dX2_spanOf_54 (by decide) ?_
                refine lv_iadd hx hb dX2_spanOf_55 ?_
                refine lv_topi (fun x12 (e12 : x12 = x11 + 1) => ?_)
                try have t12 : x12.toInt = x11.toInt + 1 := tadd e12 rfl kp1 (by omega)
                refine lv_iconst (v := 2) hx hb dX2_spanOf_56 (by decide) ?_
                refine lv_idiv hx hb dX2_spanOf_57 (by decide) ?_
                refine lv_topi (fun x13 (e13 : x13 = x12 / 2) => ?_)
                have t13 : x13.toInt = x12.toInt.tdiv 2 := tdiv e13 rfl kp2 (by decide)
                try rw [tdp (a := x12.toInt) (by omega)] at t13
                refine lv_istore (lv' := [(5, .int x13), (4, .int m4), (3, .int m3), (2, .int m2), (0, .ref (g.2.2.1 3)), (1, .int a0)]) hx hb dX2_spanOf_58 hl (by decide) rfl (fun ls hl => ?_)
                refine lv_aload_n hx hb dX2_spanOf_60 rfl (lv_at hl 4 rfl) ?_
                refine rg_3_0 C hW (mx_ rfl) tw_276 dX2_spanOf_61 ?_
                refine lv_iload hx hb dX2_spanOf_64 (lv_at hl 0 rfl) ?_
                refine cq_ C hW (runV (x := (g.2.2.1 27)) (As := [.int x13]) (rest := []) (T := ((J, L, I, P, E, N), sgX g ++ dy)) C hW ((c_Jx4a65c_get_915e3 9) l g J L I P E N dy H.size 27 rfl x13 (show LWF g J P E N dy 27 9 from hwf.2.1.2.2.2) (show 0 ≤ x13.toInt ∧ x13.toInt < (J 27 2).toInt from by omega)) mi_Jx4a65c_get_915e3 tw_648 (recv_ (T := ((J, L, I, P, E, N), sgX g ++ dy)) C hW (mx_ rfl) (cel_list rfl) rfl) ⟨rfl, rfl, Nat.le_of_ble_eq_true rfl, Nat.le_of_ble_eq_true rfl⟩ rfl hl.1 rfl (Nat.le_of_ble_eq_true rfl) dX2_spanOf_66 ⟨Nat.le_of_ble_eq_true rfl, Nat.le_of_ble_eq_true rfl⟩) (fun q14 u14 H locs hp14 hW => ?_)
                have hq14 : (q14 = some (elt E P 27 x13.toNatClampNeg)) := hp14
                clear hp14
                have hW : WB g A s.heap H locs (J, L, I, P, E, N) (sgX g ++ dy) := hW
                subst hq14
                obtain ⟨o14, ho14⟩ : ∃ z : Nat, z = elt E P 27 x13.toNatClampNeg := ⟨_, rfl⟩
                have hm14 : (9, o14) ∈ dy := by rw [ho14]; exact (lw_mem (er := 9) hwf.2.1.2.2.2 (show (x13.toNatClampNeg : Int) < (J 27 2).toInt from by have := tcl x13; omega))
                refine lv_asv (v' := .ref o14) (by rw [ho14]; rfl) ?_
                refine g_cast C hW (List.mem_append_right _ hm14) rfl rfl tw_649 dX2_spanOf_69 ?_
                refine rg_9_0 C hW (List.mem_append_right _ hm14) tw_422 dX2_spanOf_72 ?_
                refine lv_topi (fun x15 (e15 : x15 = I 9 0 o14) => ?_)
                have t15 : x15.toInt = (I 9 0 o14).toInt := by rw [e15]
                refine lv_iload_n hx hb dX2_spanOf_75 rfl (lv_at hl 5 rfl) ?_
                refine lv_icmp_gt (tgt := 85) hx hb dX2_spanOf_76 (by decide) (fun c16 => ?_) (fun c16 => ?_)
                · have c16 : a0.toInt < x15.toInt := tlt rfl rfl c16
                  refine lv_iload hx hb dX2_spanOf_85 (lv_at hl 0 rfl) ?_
                  refine lv_iconst (v := 1) hx hb dX2_spanOf_87 (by decide) ?_
                  refine lv_isub hx hb dX2_spanOf_88 ?_
                  refine lv_topi (fun x17 (e17 : x17 = x13 - 1) => ?_)
                  try have t17 : x17.toInt = x13.toInt - 1 := tsub e17 rfl kp1 (by omega)
                  refine lv_istore_n (lv' := [(3, .int x17), (5, .int x13), (4, .int m4), (2, .int m2), (0, .ref (g.2.2.1 3)), (1, .int a0)]) hx hb dX2_spanOf_89 rfl hl (by decide) rfl (fun ls hl => ?_)
                  obtain ⟨x18, e18⟩ : ∃ y : Int32, y = m4 + 1 := ⟨_, rfl⟩
                  refine lv_iinc (v := x18) (lv' := [(4, .int x18), (3, .int x17), (5, .int x13), (2, .int m2), (0, .ref (g.2.2.1 3)), (1, .int a0)]) hx hb dX2_spanOf_90 hl (k := 2) rfl (by rw [e18]; rfl) (by decide) rfl (fun ls hl => ?_)
                  try have t18 : x18.toInt = m4.toInt + 1 := tadd e18 rfl kp1 (by omega)
                  refine lv_goto (tgt := 39) hx hb dX2_spanOf_93 (by decide) ?_
                  refine ih m2 x17 x18 H locs ls ?_ ?_ ?_ ?_ ?_ hW (lv_sub hl [0, 1, 3, 4, 5] rfl)
                  · show (32 - x18.toInt).toNat < n
                    omega
                  · show 0 ≤ m2.toInt ∧ m2.toInt ≤ x17.toInt ∧ x17.toInt < (J 27 2).toInt ∧ 0 ≤ x18.toInt ∧ x18.toInt ≤ 32
                    first | omega | exact hi | assumption
                  · show (I 9 0 (elt E P 27 m2.toNatClampNeg)).toInt ≤ a0.toInt
                    first | exact hlo | (rw [← ho14]; omega)
                  · show ∀ k : Nat, (k : Int) = x17.toInt + 1 → (k : Int) < (J 27 2).toInt → a0.toInt < (I 9 0 (elt E P 27 k)).toInt
                    first | exact hhi | (intro k hk hk2; have h8 := tcl x13; have e9 : k = x13.toNatClampNeg := (by omega); rw [e9, ← ho14]; omega)
                  · show BS (x17.toInt - m2.toInt) x18.toInt
                    exact bs_s hpw (by omega) (by omega) (by omega)
                · have c16 : x15.toInt ≤ a0.toInt := tnlt rfl rfl c16
                  refine lv_iload hx hb dX2_spanOf_79 (lv_at hl 0 rfl) ?_
                  refine lv_istore_n (lv' := [(2, .int x13), (5, .int x13), (4, .int m4), (3, .int m3), (0, .ref (g.2.2.1 3)), (1, .int a0)]) hx hb dX2_spanOf_81 rfl hl (by decide) rfl (fun ls hl => ?_)
                  refine lv_goto (tgt := 90) hx hb dX2_spanOf_82 (by decide) ?_
                  obtain ⟨x19, e19⟩ : ∃ y : Int32, y = m4 + 1 := ⟨_, rfl⟩
                  refine lv_iinc (v := x19) (lv' := [(4, .int x19), (2, .int x13), (5, .int x13), (3, .int m3), (0, .ref (g.2.2.1 3)), (1, .int a0)]) hx hb dX2_spanOf_90 hl (k := 2) rfl (by rw [e19]; rfl) (by decide) rfl (fun ls hl => ?_)
                  try have t19 : x19.toInt = m4.toInt + 1 := tadd e19 rfl kp1 (by omega)
                  refine lv_goto (tgt := 39) hx hb dX2_spanOf_93 (by decide) ?_
                  refine ih x13 m3 x19 H locs ls ?_ ?_ ?_ ?_ ?_ hW (lv_sub hl [0, 3, 1, 4, 5] rfl)
                  · show (32 - x19.toInt).toNat < n
                    omega
                  · show 0 ≤ x13.toInt ∧ x13.toInt ≤ m3.toInt ∧ m3.toInt < (J 27 2).toInt ∧ 0 ≤ x19.toInt ∧ x19.toInt ≤ 32
                    first | omega | exact hi | assumption
                  · show (I 9 0 (elt E P 27 x13.toNatClampNeg)).toInt ≤ a0.toInt
                    first | exact hlo | (rw [← ho14]; omega)
                  · show ∀ k : Nat, (k : Int) = m3.toInt + 1 → (k : Int) < (J 27 2).toInt → a0.toInt < (I 9 0 (elt E P 27 k)).toInt
                    first | exact hhi | (intro k hk hk2; have h8 := tcl x13; have e9 : k = x13.toNatClampNeg := (by omega); rw [e9, ← ho14]; omega)
                  · show BS (m3.toInt - x13.toInt) x19.toInt
                    exact bs_s hpw (by omega) (by omega) (by omega)
        -- into the loop
        refine loop39 ((32 - (0 : Int32).toInt).toNat + 1) 0 x6 0 H locs ls ?_ ?_ ?_ ?_ ?_ hW (lv_sub hl [0, 1, 2, 3, 4] rfl)
        · exact Nat.lt_succ_self _
        · show 0 ≤ (0 : Int32).toInt ∧ (0 : Int32).toInt ≤ x6.toInt ∧ x6.toInt < (J 27 2).toInt ∧ 0 ≤ (0 : Int32).toInt ∧ (0 : Int32).toInt ≤ 32
          try rw [kp0]
          try rw [kp0]
          first | omega | exact hi | assumption
        · show (I 9 0 (elt E P 27 (0 : Int32).toNatClampNeg)).toInt ≤ a0.toInt
          try rw [kp0]
          try rw [kp0]
          (have h7 := (hspr.2.2 0 (by omega)).2.1 rfl; show (I 9 0 (elt E P 27 0)).toInt ≤ a0.toInt; omega)
        · show ∀ k : Nat, (k : Int) = x6.toInt + 1 → (k : Int) < (J 27 2).toInt → a0.toInt < (I 9 0 (elt E P 27 k)).toInt
          try rw [kp0]
          try rw [kp0]
          (intro k hk hk2; exfalso; omega)
        · show BS (x6.toInt - (0 : Int32).toInt) (0 : Int32).toInt
          try rw [kp0]
          try rw [kp0]
          exact bs_0 (by omega) rfl
      · have c4 : ¬ r3.toInt = 0 := tne rfl kp0 c4
        refine lv_null hx hb dX2_spanOf_22 ?_
        exact end_q (v := none) C hr (Or.inl ⟨_, rfl⟩) hlocks () hW (Or.inl ⟨rfl, by omega⟩) dX2_spanOf_23

set_option maxHeartbeats 4000000 in
set_option maxRecDepth 100000 in
theorem c_X11_readerOf_e (l : Launch) (g : gG) (J : Nat → Nat → Int32) (L : Nat → Nat → Int64) (I : Nat → Nat → Nat → Int32) (P : Nat → Nat → Nat → Option Nat) (E : Nat → Option Nat) (N : Nat → Nat) (dy : List (Nat × Nat)) (sz : Nat) (a0 : Int32) (hwf : WXF g J P E N dy) : Met l yX11_readerOf (WS yX11_readerOf cX11_readerOf 2 (some (.object "EarPaper$Reader"))) (RM (4) 0 0) (PC g [.ref (g.2.2.1 12), .int a0] ((J, L, I, P, E, N), sgX g ++ dy) sz) (va_Qq (fun (r : Option Nat) (u : Unit) => ((r = none ∧ (¬ (0 ≤ a0.toInt ∧ a0.toInt < (J 24 2).toInt))) ∨ (r = some (elt E P 24 a0.toNatClampNeg) ∧ (0 ≤ a0.toInt ∧ a0.toInt < (J 24 2).toInt)))) (fun u t => at_ g (FR g ((J, L, I, P, E, N), sgX g ++ dy) sz) ((J, L, I, P, E, N), sgX g ++ dy) t) (FR g ((J, L, I, P, E, N), sgX g ++ dy) sz)) 0 0 (FR g ((J, L, I, P, E, N), sgX g ++ dy) sz) := by
  refine ent (by decide +kernel) (Nat.le_of_ble_eq_true rfl) ?_
  intro p e s m below meth c ls hsz C hW hr hlocks hname hl
  generalize FR g ((J, L, I, P, E, N), sgX g ++ dy) sz = A at C hW ⊢
  have hx := C.1.1
  have hb := C.1.2.1
  have hts := C.1.2.2.2.2
  have hl : lv_has ls 2 [(0, .ref (g.2.2.1 12)), (1, .int a0)] := hl
  obtain ⟨H, hH⟩ : ∃ H : Heap, H = s.heap := ⟨_, rfl⟩
  obtain ⟨locs, hlocs⟩ : ∃ q : List Loc, q = [] := ⟨_, rfl⟩
  have hW : WB g A s.heap H locs (J, L, I, P, E, N) (sgX g ++ dy) := by rw [hH, hlocs]; exact hW
  refine start_ hH hlocs ?_
  refine lv_iload_n hx hb dX11_readerOf_0 rfl (lv_at hl 1 rfl) ?_
  refine lv_if_lt (tgt := 29) hx hb dX11_readerOf_1 (by decide) (fun c1 => ?_) (fun c1 => ?_)
  · have c1 : a0.toInt < 0 := tlt rfl kp0 c1
    refine lv_null hx hb dX11_readerOf_29 ?_
    exact end_q (v := none) C hr (Or.inl ⟨_, rfl⟩) hlocks () hW (Or.inl ⟨rfl, by omega⟩) dX11_readerOf_30
  · have c1 : 0 ≤ a0.toInt := tnlt rfl kp0 c1
    refine lv_iload_n hx hb dX11_readerOf_4 rfl (lv_at hl 1 rfl) ?_
    refine lv_aload_n hx hb dX11_readerOf_5 rfl (lv_at hl 0 rfl) ?_
    refine rg_12_2 C hW (mx_ rfl) tw_366 dX11_readerOf_6 ?_
    refine ci_ C hW (runV (x := (g.2.2.1 24)) (As := []) (rest := [.int a0]) (T := ((J, L, I, P, E, N), sgX g ++ dy)) C hW (c_Jx4a65c_size_8abf5 l g J L I P E N dy H.size 24 rfl ) mi_Jx4a65c_size_8abf5 tw_485 (recv_ (T := ((J, L, I, P, E, N), sgX g ++ dy)) C hW (mx_ rfl) (cel_list rfl) rfl) ⟨rfl, rfl, Nat.le_of_ble_eq_true rfl, Nat.le_of_ble_eq_true rfl⟩ rfl hl.1 rfl (Nat.le_of_ble_eq_true rfl) dX11_readerOf_9 ⟨Nat.le_of_ble_eq_true rfl, Nat.le_of_ble_eq_true rfl⟩) (fun r2 u2 H locs hp2 hW => ?_)
    have hc2 : ((r2 = J 24 2)) := hp2
    clear hp2
    have hr2 : r2 = J 24 2 := hc2
    refine lv_as (J 24 2) hr2 ?_
    have hW : WB g A s.heap H locs (J, L, I, P, E, N) (sgX g ++ dy) := hW
    refine lv_icmp_ge (tgt := 29) hx hb dX11_readerOf_12 (by decide) (fun c3 => ?_) (fun c3 => ?_)
    · have c3 : (J 24 2).toInt ≤ a0.toInt := tle rfl rfl c3
      refine lv_null hx hb dX11_readerOf_29 ?_
      exact end_q (v := none) C hr (Or.inl ⟨_, rfl⟩) hlocks () hW (Or.inl ⟨rfl, by omega⟩) dX11_readerOf_30
    · have c3 : a0.toInt < (J 24 2).toInt := tnle rfl rfl c3
      refine lv_aload_n hx hb dX11_readerOf_15 rfl (lv_at hl 0 rfl) ?_
      refine rg_12_2 C hW (mx_ rfl) tw_366 dX11_readerOf_16 ?_
      refine lv_iload_n hx hb dX11_readerOf_19 rfl (lv_at hl 1 rfl) ?_
      refine cq_ C hW (runV (x := (g.2.2.1 24)) (As := [.int a0]) (rest := []) (T := ((J, L, I, P, E, N), sgX g ++ dy)) C hW ((c_Jx4a65c_get_915e3 7) l g J L I P E N dy H.size 24 rfl a0 (show LWF g J P E N dy 24 7 from hwf.2.1.1) (show 0 ≤ a0.toInt ∧ a0.toInt < (J 24 2).toInt from by omega)) mi_Jx4a65c_get_915e3 tw_618 (recv_ (T := ((J, L, I, P, E, N), sgX g ++ dy)) C hW (mx_ rfl) (cel_list rfl) rfl) ⟨rfl, rfl, Nat.le_of_ble_eq_true rfl, Nat.le_of_ble_eq_true rfl⟩ rfl hl.1 rfl (Nat.le_of_ble_eq_true rfl) dX11_readerOf_20 ⟨Nat.le_of_ble_eq_true rfl, Nat.le_of_ble_eq_true rfl⟩) (fun q4 u4 H locs hp4 hW => ?_)
      have hq4 : (q4 = some (elt E P 24 a0.toNatClampNeg)) := hp4
      clear hp4
      have hW : WB g A s.heap H locs (J, L, I, P, E, N) (sgX g ++ dy) := hW
      subst hq4
      obtain ⟨o4, ho4⟩ : ∃ z : Nat, z = elt E P 24 a0.toNatClampNeg := ⟨_, rfl⟩
      have hm4 : (7, o4) ∈ dy := by rw [ho4]; exact (lw_mem (er := 7) hwf.2.1.1 (show (a0.toNatClampNeg : Int) < (J 24 2).toInt from by have := tcl a0; omega))
      refine lv_asv (v' := .ref o4) (by rw [ho4]; rfl) ?_
      refine g_cast C hW (List.mem_append_right _ hm4) rfl rfl tw_589 dX11_readerOf_23 ?_
      refine lv_goto (tgt := 30) hx hb dX11_readerOf_26 (by decide) ?_
      exact end_q (v := some o4) C hr (Or.inl ⟨_, rfl⟩) hlocks () hW (Or.inr ⟨(by simp only [*]), by omega⟩) dX11_readerOf_30

set_option maxHeartbeats 4000000 in
set_option maxRecDepth 100000 in
theorem c_X11_newsOf_e (l : Launch) (g : gG) (J : Nat → Nat → Int32) (L : Nat → Nat → Int64) (I : Nat → Nat → Nat → Int32) (P : Nat → Nat → Nat → Option Nat) (E : Nat → Option Nat) (N : Nat → Nat) (dy : List (Nat × Nat)) (sz : Nat) (a0 : Int32) (hwf : WXF g J P E N dy) : Met l yX11_newsOf (WS yX11_newsOf cX11_newsOf 2 (some (.object "EarPaper$News"))) (RM (4) 0 0) (PC g [.ref (g.2.2.1 12), .int a0] ((J, L, I, P, E, N), sgX g ++ dy) sz) (va_Qq (fun (r : Option Nat) (u : Unit) => ((r = none ∧ (¬ (0 ≤ a0.toInt ∧ a0.toInt < (J 26 2).toInt))) ∨ (r = some (elt E P 26 a0.toNatClampNeg) ∧ (0 ≤ a0.toInt ∧ a0.toInt < (J 26 2).toInt)))) (fun u t => at_ g (FR g ((J, L, I, P, E, N), sgX g ++ dy) sz) ((J, L, I, P, E, N), sgX g ++ dy) t) (FR g ((J, L, I, P, E, N), sgX g ++ dy) sz)) 0 0 (FR g ((J, L, I, P, E, N), sgX g ++ dy) sz) := by
  refine ent (by decide +kernel) (Nat.le_of_ble_eq_true rfl) ?_
  intro p e s m below meth c ls hsz C hW hr hlocks hname hl
  generalize FR g ((J, L, I, P, E, N), sgX g ++ dy) sz = A at C hW ⊢
  have hx := C.1.1
  have hb := C.1.2.1
  have hts := C.1.2.2.2.2
  have hl : lv_has ls 2 [(0, .ref (g.2.2.1 12)), (1, .int a0)] := hl
  obtain ⟨H, hH⟩ : ∃ H : Heap, H = s.heap := ⟨_, rfl⟩
  obtain ⟨locs, hlocs⟩ : ∃ q : List Loc, q = [] := ⟨_, rfl⟩
  have hW : WB g A s.heap H locs (J, L, I, P, E, N) (sgX g ++ dy) := by rw [hH, hlocs]; exact hW
  refine start_ hH hlocs ?_
  refine lv_iload_n hx hb dX11_newsOf_0 rfl (lv_at hl 1 rfl) ?_
  refine lv_if_lt (tgt := 29) hx hb dX11_newsOf_1 (by decide) (fun c1 => ?_) (fun c1 => ?_)
  · have c1 : a0.toInt < 0 := tlt rfl kp0 c1
    refine lv_null hx hb dX11_newsOf_29 ?_
    exact end_q (v := none) C hr (Or.inl ⟨_, rfl⟩) hlocks () hW (Or.inl ⟨rfl, by omega⟩) dX11_newsOf_30
  · have c1 : 0 ≤ a0.toInt := tnlt rfl kp0 c1
    refine lv_iload_n hx hb dX11_newsOf_4 rfl (lv_at hl 1 rfl) ?_
    refine lv_aload_n hx hb dX11_newsOf_5 rfl (lv_at hl 0 rfl) ?_
    refine rg_12_4 C hW (mx_ rfl) tw_368 dX11_newsOf_6 ?_
    refine ci_ C hW (runV (x := (g.2.2.1 26)) (As := []) (rest := [.int a0]) (T := ((J, L, I, P, E, N), sgX g ++ dy)) C hW (c_Jx4a65c_size_8abf5 l g J L I P E N dy H.size 26 rfl ) mi_Jx4a65c_size_8abf5 tw_485 (recv_ (T := ((J, L, I, P, E, N), sgX g ++ dy)) C hW (mx_ rfl) (cel_list rfl) rfl) ⟨rfl, rfl, Nat.le_of_ble_eq_true rfl, Nat.le_of_ble_eq_true rfl⟩ rfl hl.1 rfl (Nat.le_of_ble_eq_true rfl) dX11_newsOf_9 ⟨Nat.le_of_ble_eq_true rfl, Nat.le_of_ble_eq_true rfl⟩) (fun r2 u2 H locs hp2 hW => ?_)
    have hc2 : ((r2 = J 26 2)) := hp2
    clear hp2
    have hr2 : r2 = J 26 2 := hc2
    refine lv_as (J 26 2) hr2 ?_
    have hW : WB g A s.heap H locs (J, L, I, P, E, N) (sgX g ++ dy) := hW
    refine lv_icmp_ge (tgt := 29) hx hb dX11_newsOf_12 (by decide) (fun c3 => ?_) (fun c3 => ?_)
    · have c3 : (J 26 2).toInt ≤ a0.toInt := tle rfl rfl c3
      refine lv_null hx hb dX11_newsOf_29 ?_
      exact end_q (v := none) C hr (Or.inl ⟨_, rfl⟩) hlocks () hW (Or.inl ⟨rfl, by omega⟩) dX11_newsOf_30
    · have c3 : a0.toInt < (J 26 2).toInt := tnle rfl rfl c3
      refine lv_aload_n hx hb dX11_newsOf_15 rfl (lv_at hl 0 rfl) ?_
      refine rg_12_4 C hW (mx_ rfl) tw_368 dX11_newsOf_16 ?_
      refine lv_iload_n hx hb dX11_newsOf_19 rfl (lv_at hl 1 rfl) ?_
      refine cq_ C hW (runV (x := (g.2.2.1 26)) (As := [.int a0]) (rest := []) (T := ((J, L, I, P, E, N), sgX g ++ dy)) C hW ((c_Jx4a65c_get_915e3 5) l g J L I P E N dy H.size 26 rfl a0 (show LWF g J P E N dy 26 5 from hwf.2.1.2.2.1) (show 0 ≤ a0.toInt ∧ a0.toInt < (J 26 2).toInt from by omega)) mi_Jx4a65c_get_915e3 tw_618 (recv_ (T := ((J, L, I, P, E, N), sgX g ++ dy)) C hW (mx_ rfl) (cel_list rfl) rfl) ⟨rfl, rfl, Nat.le_of_ble_eq_true rfl, Nat.le_of_ble_eq_true rfl⟩ rfl hl.1 rfl (Nat.le_of_ble_eq_true rfl) dX11_newsOf_20 ⟨Nat.le_of_ble_eq_true rfl, Nat.le_of_ble_eq_true rfl⟩) (fun q4 u4 H locs hp4 hW => ?_)
      have hq4 : (q4 = some (elt E P 26 a0.toNatClampNeg)) := hp4
      clear hp4
      have hW : WB g A s.heap H locs (J, L, I, P, E, N) (sgX g ++ dy) := hW
      subst hq4
      obtain ⟨o4, ho4⟩ : ∃ z : Nat, z = elt E P 26 a0.toNatClampNeg := ⟨_, rfl⟩
      have hm4 : (5, o4) ∈ dy := by rw [ho4]; exact (lw_mem (er := 5) hwf.2.1.2.2.1 (show (a0.toNatClampNeg : Int) < (J 26 2).toInt from by have := tcl a0; omega))
      refine lv_asv (v' := .ref o4) (by rw [ho4]; rfl) ?_
      refine g_cast C hW (List.mem_append_right _ hm4) rfl rfl tw_635 dX11_newsOf_23 ?_
      refine lv_goto (tgt := 30) hx hb dX11_newsOf_26 (by decide) ?_
      exact end_q (v := some o4) C hr (Or.inl ⟨_, rfl⟩) hlocks () hW (Or.inr ⟨(by simp only [*]), by omega⟩) dX11_newsOf_30

set_option maxHeartbeats 4000000 in
set_option maxRecDepth 100000 in
theorem c_X6_isFree_e (l : Launch) (g : gG) (J : Nat → Nat → Int32) (L : Nat → Nat → Int64) (I : Nat → Nat → Nat → Int32) (P : Nat → Nat → Nat → Option Nat) (E : Nat → Option Nat) (N : Nat → Nat) (dy : List (Nat × Nat)) (sz : Nat) (o : Nat) (hmo : (7, o) ∈ dy) (a0 : Int32) (a1 : Int32) (a2 : Int32) (hwf : WXF g J P E N dy) (hfr : 0 ≤ a0.toInt ∧ a0.toInt ≤ 10000 ∧ 0 ≤ a2.toInt ∧ a2.toInt ≤ 240 ∧ -1 ≤ (I 7 1 o).toInt ∧ (I 7 1 o).toInt ≤ 9999) : Met l yX6_isFree (WS yX6_isFree cX6_isFree 4 (some .boolean)) (RM (1) 0 0) (PC g [.ref o, .int a0, .int a1, .int a2] ((J, L, I, P, E, N), sgX g ++ dy) sz) (va_Qi (fun (r : Int32) (u : Unit) => ((r.toInt = 1 ∧ ((I 7 2 o).toInt < a1.toInt ∨ (I 7 1 o).toInt + a2.toInt < a0.toInt)) ∨ (r.toInt = 0 ∧ (¬ ((I 7 2 o).toInt < a1.toInt ∨ (I 7 1 o).toInt + a2.toInt < a0.toInt))))) (fun u t => at_ g (FR g ((J, L, I, P, E, N), sgX g ++ dy) sz) ((J, L, I, P, E, N), sgX g ++ dy) t) (FR g ((J, L, I, P, E, N), sgX g ++ dy) sz)) 0 0 (FR g ((J, L, I, P, E, N), sgX g ++ dy) sz) := by
  refine ent (by decide +kernel) (Nat.le_of_ble_eq_true rfl) ?_
  intro p e s m below meth c ls hsz C hW hr hlocks hname hl
  generalize FR g ((J, L, I, P, E, N), sgX g ++ dy) sz = A at C hW ⊢
  have hx := C.1.1
  have hb := C.1.2.1
  have hts := C.1.2.2.2.2
  have hl : lv_has ls 4 [(0, .ref o), (1, .int a0), (2, .int a1), (3, .int a2)] := hl
  obtain ⟨H, hH⟩ : ∃ H : Heap, H = s.heap := ⟨_, rfl⟩
  obtain ⟨locs, hlocs⟩ : ∃ q : List Loc, q = [] := ⟨_, rfl⟩
  have hW : WB g A s.heap H locs (J, L, I, P, E, N) (sgX g ++ dy) := by rw [hH, hlocs]; exact hW
  refine start_ hH hlocs ?_
  refine lv_aload_n hx hb dX6_isFree_0 rfl (lv_at hl 0 rfl) ?_
  refine rg_7_2 C hW (List.mem_append_right _ hmo) tw_598 dX6_isFree_1 ?_
  refine lv_topi (fun x1 (e1 : x1 = I 7 2 o) => ?_)
  have t1 : x1.toInt = (I 7 2 o).toInt := by rw [e1]
  refine lv_iload_n hx hb dX6_isFree_4 rfl (lv_at hl 2 rfl) ?_
  refine lv_icmp_lt (tgt := 18) hx hb dX6_isFree_5 (by decide) (fun c2 => ?_) (fun c2 => ?_)
  · have c2 : x1.toInt < a1.toInt := tlt rfl rfl c2
    refine lv_iconst (v := 1) hx hb dX6_isFree_18 (by decide) ?_
    refine lv_goto (tgt := 23) hx hb dX6_isFree_19 (by decide) ?_
    exact end_z C hr hlocks (by decide) () hW (by first | exact Or.inl ⟨by decide, by omega⟩) dX6_isFree_23
  · have c2 : a1.toInt ≤ x1.toInt := tnlt rfl rfl c2
    refine lv_iload_n hx hb dX6_isFree_8 rfl (lv_at hl 1 rfl) ?_
    refine lv_aload_n hx hb dX6_isFree_9 rfl (lv_at hl 0 rfl) ?_
    refine rg_7_1 C hW (List.mem_append_right _ hmo) tw_597 dX6_isFree_10 ?_
    refine lv_topi (fun x3 (e3 : x3 = I 7 1 o) => ?_)
    have t3 : x3.toInt = (I 7 1 o).toInt := by rw [e3]
    refine lv_iload_n hx hb dX6_isFree_13 rfl (lv_at hl 3 rfl) ?_
    refine lv_iadd hx hb dX6_isFree_14 ?_
    refine lv_topi (fun x4 (e4 : x4 = x3 + a2) => ?_)
    try have t4 : x4.toInt = x3.toInt + a2.toInt := tadd e4 rfl rfl (by omega)
    refine lv_icmp_le (tgt := 22) hx hb dX6_isFree_15 (by decide) (fun c5 => ?_) (fun c5 => ?_)
    · have c5 : a0.toInt ≤ x4.toInt := tle rfl rfl c5
      refine lv_iconst (v := 0) hx hb dX6_isFree_22 (by decide) ?_
      exact end_z C hr hlocks (by decide) () hW (by first | exact Or.inr (⟨by decide, by omega⟩)) dX6_isFree_23
    · have c5 : x4.toInt < a0.toInt := tnle rfl rfl c5
      refine lv_iconst (v := 1) hx hb dX6_isFree_18 (by decide) ?_
      refine lv_goto (tgt := 23) hx hb dX6_isFree_19 (by decide) ?_
      exact end_z C hr hlocks (by decide) () hW (by first | exact Or.inl ⟨by decide, by omega⟩) dX6_isFree_23

set_option maxHeartbeats 4000000 in
set_option maxRecDepth 100000 in
theorem c_X11_tellsOf_e (l : Launch) (g : gG) (J : Nat → Nat → Int32) (L : Nat → Nat → Int64) (I : Nat → Nat → Nat → Int32) (P : Nat → Nat → Nat → Option Nat) (E : Nat → Option Nat) (N : Nat → Nat) (dy : List (Nat × Nat)) (sz : Nat) (a0 : Int32)  : Met l yX11_tellsOf (WS yX11_tellsOf cX11_tellsOf 1 (some .boolean)) (RM (1) 0 0) (PC g [.int a0] ((J, L, I, P, E, N), sgX g ++ dy) sz) (va_Qi (fun (r : Int32) (u : Unit) => ((r.toInt = 1 ∧ (a0.toInt = 0 ∨ a0.toInt = 1 ∨ a0.toInt = 5)) ∨ (r.toInt = 0 ∧ (¬ (a0.toInt = 0 ∨ a0.toInt = 1 ∨ a0.toInt = 5))))) (fun u t => at_ g (FR g ((J, L, I, P, E, N), sgX g ++ dy) sz) ((J, L, I, P, E, N), sgX g ++ dy) t) (FR g ((J, L, I, P, E, N), sgX g ++ dy) sz)) 0 0 (FR g ((J, L, I, P, E, N), sgX g ++ dy) sz) := by
  refine ent (by decide +kernel) (Nat.le_of_ble_eq_true rfl) ?_
  intro p e s m below meth c ls hsz C hW hr hlocks hname hl
  generalize FR g ((J, L, I, P, E, N), sgX g ++ dy) sz = A at C hW ⊢
  have hx := C.1.1
  have hb := C.1.2.1
  have hts := C.1.2.2.2.2
  have hl : lv_has ls 1 [(0, .int a0)] := hl
  obtain ⟨H, hH⟩ : ∃ H : Heap, H = s.heap := ⟨_, rfl⟩
  obtain ⟨locs, hlocs⟩ : ∃ q : List Loc, q = [] := ⟨_, rfl⟩
  have hW : WB g A s.heap H locs (J, L, I, P, E, N) (sgX g ++ dy) := by rw [hH, hlocs]; exact hW
  refine start_ hH hlocs ?_
  refine lv_iload_n hx hb dX11_tellsOf_0 rfl (lv_at hl 0 rfl) ?_
  refine lv_if_eq (tgt := 14) hx hb dX11_tellsOf_1 (by decide) (fun c1 => ?_) (fun c1 => ?_)
  · have c1 : a0.toInt = 0 := teq rfl kp0 c1
    refine lv_iconst (v := 1) hx hb dX11_tellsOf_14 (by decide) ?_
    refine lv_goto (tgt := 19) hx hb dX11_tellsOf_15 (by decide) ?_
    exact end_z C hr hlocks (by decide) () hW (by first | exact Or.inl ⟨by decide, by omega⟩) dX11_tellsOf_19
  · have c1 : ¬ a0.toInt = 0 := tne rfl kp0 c1
    refine lv_iload_n hx hb dX11_tellsOf_4 rfl (lv_at hl 0 rfl) ?_
    refine lv_iconst (v := 1) hx hb dX11_tellsOf_5 (by decide) ?_
    refine lv_icmp_eq (tgt := 14) hx hb dX11_tellsOf_6 (by decide) (fun c2 => ?_) (fun c2 => ?_)
    · have c2 : a0.toInt = 1 := teq rfl kp1 c2
      refine lv_iconst (v := 1) hx hb dX11_tellsOf_14 (by decide) ?_
      refine lv_goto (tgt := 19) hx hb dX11_tellsOf_15 (by decide) ?_
      exact end_z C hr hlocks (by decide) () hW (by first | exact Or.inl ⟨by decide, by omega⟩) dX11_tellsOf_19
    · have c2 : ¬ a0.toInt = 1 := tne rfl kp1 c2
      refine lv_iload_n hx hb dX11_tellsOf_9 rfl (lv_at hl 0 rfl) ?_
      refine lv_iconst (v := 5) hx hb dX11_tellsOf_10 (by decide) ?_
      refine lv_icmp_ne (tgt := 18) hx hb dX11_tellsOf_11 (by decide) (fun c3 => ?_) (fun c3 => ?_)
      · have c3 : ¬ a0.toInt = 5 := tne rfl kp5 c3
        refine lv_iconst (v := 0) hx hb dX11_tellsOf_18 (by decide) ?_
        exact end_z C hr hlocks (by decide) () hW (by first | exact Or.inr (⟨by decide, by omega⟩)) dX11_tellsOf_19
      · have c3 : a0.toInt = 5 := teq rfl kp5 c3
        refine lv_iconst (v := 1) hx hb dX11_tellsOf_14 (by decide) ?_
        refine lv_goto (tgt := 19) hx hb dX11_tellsOf_15 (by decide) ?_
        exact end_z C hr hlocks (by decide) () hW (by first | exact Or.inl ⟨by decide, by omega⟩) dX11_tellsOf_19

set_option maxHeartbeats 4000000 in
set_option maxRecDepth 100000 in
theorem c_X11_isKnown_e (l : Launch) (g : gG) (J : Nat → Nat → Int32) (L : Nat → Nat → Int64) (I : Nat → Nat → Nat → Int32) (P : Nat → Nat → Nat → Option Nat) (E : Nat → Option Nat) (N : Nat → Nat) (dy : List (Nat × Nat)) (sz : Nat) (a0 : Int32) (a1 : Int32) (hwf : WXF g J P E N dy) (hspr : SPR I E P (J 27 2).toInt (J 3 1).toInt (J 116) (J 117) (J 118) (J 119) (J 120)) : Met l yX11_isKnown (WS yX11_isKnown cX11_isKnown 3 (some .boolean)) (RM (5) 0 0) (PC g [.ref (g.2.2.1 12), .int a0, .int a1] ((J, L, I, P, E, N), sgX g ++ dy) sz) (va_Qi (fun (r : Int32) (u : Unit) => ((r.toInt = 1 ∧ ((a0.toInt = 0 ∧ (a1.toInt = -1 ∨ (0 ≤ a1.toInt ∧ a1.toInt < (J 26 2).toInt))) ∨ (¬ a0.toInt = 0 ∧ ((¬ a0.toInt = 1 ∧ ¬ a0.toInt = 5) ∨ (0 ≤ a1.toInt ∧ a1.toInt < (J 3 1).toInt))))) ∨ (r.toInt = 0 ∧ (¬ ((a0.toInt = 0 ∧ (a1.toInt = -1 ∨ (0 ≤ a1.toInt ∧ a1.toInt < (J 26 2).toInt))) ∨ (¬ a0.toInt = 0 ∧ ((¬ a0.toInt = 1 ∧ ¬ a0.toInt = 5) ∨ (0 ≤ a1.toInt ∧ a1.toInt < (J 3 1).toInt)))))))) (fun u t => at_ g (FR g ((J, L, I, P, E, N), sgX g ++ dy) sz) ((J, L, I, P, E, N), sgX g ++ dy) t) (FR g ((J, L, I, P, E, N), sgX g ++ dy) sz)) 0 0 (FR g ((J, L, I, P, E, N), sgX g ++ dy) sz) := by
  refine ent (by decide +kernel) (Nat.le_of_ble_eq_true rfl) ?_
  intro p e s m below meth c ls hsz C hW hr hlocks hname hl
  generalize FR g ((J, L, I, P, E, N), sgX g ++ dy) sz = A at C hW ⊢
  have hx := C.1.1
  have hb := C.1.2.1
  have hts := C.1.2.2.2.2
  have hl : lv_has ls 3 [(0, .ref (g.2.2.1 12)), (1, .int a0), (2, .int a1)] := hl
  obtain ⟨H, hH⟩ : ∃ H : Heap, H = s.heap := ⟨_, rfl⟩
  obtain ⟨locs, hlocs⟩ : ∃ q : List Loc, q = [] := ⟨_, rfl⟩
  have hW : WB g A s.heap H locs (J, L, I, P, E, N) (sgX g ++ dy) := by rw [hH, hlocs]; exact hW
  refine start_ hH hlocs ?_
  refine lv_iload_n hx hb dX11_isKnown_0 rfl (lv_at hl 1 rfl) ?_
  refine lv_if_ne (tgt := 23) hx hb dX11_isKnown_1 (by decide) (fun c1 => ?_) (fun c1 => ?_)
  · have c1 : ¬ a0.toInt = 0 := tne rfl kp0 c1
    refine lv_iload_n hx hb dX11_isKnown_23 rfl (lv_at hl 1 rfl) ?_
    refine ci_ C hW (runS (As := [.int a0]) (rest := []) (T := ((J, L, I, P, E, N), sgX g ++ dy)) C hW (c_X11_tellsOf_e l g J L I P E N dy H.size a0 ) mi_X11_tellsOf tw_636 ⟨rfl, rfl, Nat.le_of_ble_eq_true rfl, Nat.le_of_ble_eq_true rfl⟩ rfl hl.1 rfl (Nat.le_of_ble_eq_true rfl) dX11_isKnown_24 ⟨Nat.le_of_ble_eq_true rfl, Nat.le_of_ble_eq_true rfl⟩) (fun r2 u2 H locs hp2 hW => ?_)
    have hc2 : ((r2.toInt = 1 ∧ (a0.toInt = 0 ∨ a0.toInt = 1 ∨ a0.toInt = 5)) ∨ (r2.toInt = 0 ∧ (¬ (a0.toInt = 0 ∨ a0.toInt = 1 ∨ a0.toInt = 5)))) := hp2
    clear hp2
    have hW : WB g A s.heap H locs (J, L, I, P, E, N) (sgX g ++ dy) := hW
    refine lv_if_eq (tgt := 41) hx hb dX11_isKnown_27 (by decide) (fun c3 => ?_) (fun c3 => ?_)
    · have c3 : r2.toInt = 0 := teq rfl kp0 c3
      refine lv_iconst (v := 1) hx hb dX11_isKnown_41 (by decide) ?_
      refine lv_goto (tgt := 46) hx hb dX11_isKnown_42 (by decide) ?_
      exact end_z C hr hlocks (by decide) () hW (by first | exact Or.inl ⟨by decide, by omega⟩) dX11_isKnown_46
    · have c3 : ¬ r2.toInt = 0 := tne rfl kp0 c3
      refine lv_aload_n hx hb dX11_isKnown_30 rfl (lv_at hl 0 rfl) ?_
      refine rg_12_1 C hW (mx_ rfl) tw_365 dX11_isKnown_31 ?_
      refine lv_iload_n hx hb dX11_isKnown_34 rfl (lv_at hl 2 rfl) ?_
      refine cq_ C hW (runV (x := (g.2.2.1 3)) (As := [.int a1]) (rest := []) (T := ((J, L, I, P, E, N), sgX g ++ dy)) C hW (c_X2_spanOf_e l g J L I P E N dy H.size a1 hwf (show SPR I E P (J 27 2).toInt (J 3 1).toInt (J 116) (J 117) (J 118) (J 119) (J 120) from hspr)) mi_X2_spanOf tw_639 (recv_ (T := ((J, L, I, P, E, N), sgX g ++ dy)) C hW (mx_ rfl) rfl rfl) ⟨rfl, rfl, Nat.le_of_ble_eq_true rfl, Nat.le_of_ble_eq_true rfl⟩ rfl hl.1 rfl (Nat.le_of_ble_eq_true rfl) dX11_isKnown_35 ⟨Nat.le_of_ble_eq_true rfl, Nat.le_of_ble_eq_true rfl⟩) (fun q4 u4 H locs hp4 hW => ?_)
      have hq4 : ((q4 = none ∧ (¬ (0 ≤ a1.toInt ∧ a1.toInt < (J 3 1).toInt))) ∨ (∃ o9 : Nat, q4 = some o9 ∧ (9, o9) ∈ dy ∧ (0 ≤ a1.toInt ∧ a1.toInt < (J 3 1).toInt ∧ (I 9 0 o9).toInt ≤ a1.toInt ∧ a1.toInt ≤ (I 9 1 o9).toInt ∧ SPO I o9 (J 3 1).toInt (J 116) (J 117) (J 118) (J 119) (J 120)))) := hp4
      clear hp4
      have hW : WB g A s.heap H locs (J, L, I, P, E, N) (sgX g ++ dy) := hW
      rcases hq4 with ⟨ho4, hn4⟩ | ⟨o4, ho4, hm4, hs4⟩ <;> subst ho4
      · refine lv_asv (v' := .null) rfl ?_
        refine lv_ifnullN (tgt := 45) hx hb dX11_isKnown_38 (by decide) ?_
        refine lv_iconst (v := 0) hx hb dX11_isKnown_45 (by decide) ?_
        exact end_z C hr hlocks (by decide) () hW (by first | exact Or.inr (⟨by decide, by omega⟩)) dX11_isKnown_46
      · refine lv_asv (v' := .ref o4) rfl ?_
        obtain ⟨hsK4, hsR4, hsV4, hsO4, hsT4⟩ := spo_at hs4
        have hsk4 := congrArg Int32.toInt hsK4
        refine lv_ifnull hx hb dX11_isKnown_38 ?_
        refine lv_iconst (v := 1) hx hb dX11_isKnown_41 (by decide) ?_
        refine lv_goto (tgt := 46) hx hb dX11_isKnown_42 (by decide) ?_
        exact end_z C hr hlocks (by decide) () hW (by first | exact Or.inl ⟨by decide, by omega⟩) dX11_isKnown_46
  · have c1 : a0.toInt = 0 := teq rfl kp0 c1
    refine lv_iload_n hx hb dX11_isKnown_4 rfl (lv_at hl 2 rfl) ?_
    refine lv_iconst (v := (-1)) hx hb dX11_isKnown_5 (by decide) ?_
    refine lv_icmp_eq (tgt := 17) hx hb dX11_isKnown_6 (by decide) (fun c5 => ?_) (fun c5 => ?_)
    · have c5 : a1.toInt = (-1) := teq rfl kn1 c5
      refine lv_iconst (v := 1) hx hb dX11_isKnown_17 (by decide) ?_
      refine lv_goto (tgt := 22) hx hb dX11_isKnown_18 (by decide) ?_
      exact end_z C hr hlocks (by decide) () hW (by first | exact Or.inl ⟨by decide, by omega⟩) dX11_isKnown_22
    · have c5 : ¬ a1.toInt = (-1) := tne rfl kn1 c5
      refine lv_aload_n hx hb dX11_isKnown_9 rfl (lv_at hl 0 rfl) ?_
      refine lv_iload_n hx hb dX11_isKnown_10 rfl (lv_at hl 2 rfl) ?_
      refine cq_ C hW (runV (x := (g.2.2.1 12)) (As := [.int a1]) (rest := []) (T := ((J, L, I, P, E, N), sgX g ++ dy)) C hW (c_X11_newsOf_e l g J L I P E N dy H.size a1 hwf) mi_X11_newsOf tw_631 (recv_ (T := ((J, L, I, P, E, N), sgX g ++ dy)) C hW (mx_ rfl) rfl rfl) ⟨rfl, rfl, Nat.le_of_ble_eq_true rfl, Nat.le_of_ble_eq_true rfl⟩ rfl hl.1 rfl (Nat.le_of_ble_eq_true rfl) dX11_isKnown_11 ⟨Nat.le_of_ble_eq_true rfl, Nat.le_of_ble_eq_true rfl⟩) (fun q6 u6 H locs hp6 hW => ?_)
      have hq6 : ((q6 = none ∧ (¬ (0 ≤ a1.toInt ∧ a1.toInt < (J 26 2).toInt))) ∨ (q6 = some (elt E P 26 a1.toNatClampNeg) ∧ (0 ≤ a1.toInt ∧ a1.toInt < (J 26 2).toInt))) := hp6
      clear hp6
      have hW : WB g A s.heap H locs (J, L, I, P, E, N) (sgX g ++ dy) := hW
      rcases hq6 with ⟨rfl, hn6⟩ | ⟨rfl, hs6⟩
      · refine lv_asv (v' := .null) rfl ?_
        refine lv_ifnullN (tgt := 21) hx hb dX11_isKnown_14 (by decide) ?_
        refine lv_iconst (v := 0) hx hb dX11_isKnown_21 (by decide) ?_
        exact end_z C hr hlocks (by decide) () hW (by first | exact Or.inr (⟨by decide, by omega⟩)) dX11_isKnown_22
      · skip
        obtain ⟨o6, ho6⟩ : ∃ z : Nat, z = elt E P 26 a1.toNatClampNeg := ⟨_, rfl⟩
        have hm6 : (5, o6) ∈ dy := by rw [ho6]; exact (lw_mem (er := 5) hwf.2.1.2.2.1 (show (a1.toNatClampNeg : Int) < (J 26 2).toInt from by have := tcl a1; omega))
        refine lv_asv (v' := .ref o6) (by rw [ho6]; rfl) ?_
        refine lv_ifnull hx hb dX11_isKnown_14 ?_
        refine lv_iconst (v := 1) hx hb dX11_isKnown_17 (by decide) ?_
        refine lv_goto (tgt := 22) hx hb dX11_isKnown_18 (by decide) ?_
        exact end_z C hr hlocks (by decide) () hW (by first | exact Or.inl ⟨by decide, by omega⟩) dX11_isKnown_22

set_option maxHeartbeats 4000000 in
set_option maxRecDepth 100000 in
theorem c_X11_isOfItsKind_e (l : Launch) (g : gG) (J : Nat → Nat → Int32) (L : Nat → Nat → Int64) (I : Nat → Nat → Nat → Int32) (P : Nat → Nat → Nat → Option Nat) (E : Nat → Option Nat) (N : Nat → Nat) (dy : List (Nat × Nat)) (sz : Nat) (a0 : Int32) (a1 : Int32) (hwf : WXF g J P E N dy) (hspr : SPR I E P (J 27 2).toInt (J 3 1).toInt (J 116) (J 117) (J 118) (J 119) (J 120)) : Met l yX11_isOfItsKind (WS yX11_isOfItsKind cX11_isOfItsKind 4 (some .boolean)) (RM (5) 0 0) (PC g [.ref (g.2.2.1 12), .int a0, .int a1] ((J, L, I, P, E, N), sgX g ++ dy) sz) (va_Qi (fun (r : Int32) (u : Unit) => ((r.toInt = 1 ∧ ((¬ a0.toInt = 1 ∧ ¬ a0.toInt = 5) ∨ (0 ≤ a1.toInt ∧ a1.toInt < (J 3 1).toInt ∧ ((J 116 a1.toNatClampNeg).toInt = 0 ∨ (a0.toInt = 1 ∧ ((J 116 a1.toNatClampNeg).toInt = 3 ∨ (J 116 a1.toNatClampNeg).toInt = 5)))))) ∨ (r.toInt = 0 ∧ (¬ ((¬ a0.toInt = 1 ∧ ¬ a0.toInt = 5) ∨ (0 ≤ a1.toInt ∧ a1.toInt < (J 3 1).toInt ∧ ((J 116 a1.toNatClampNeg).toInt = 0 ∨ (a0.toInt = 1 ∧ ((J 116 a1.toNatClampNeg).toInt = 3 ∨ (J 116 a1.toNatClampNeg).toInt = 5))))))))) (fun u t => at_ g (FR g ((J, L, I, P, E, N), sgX g ++ dy) sz) ((J, L, I, P, E, N), sgX g ++ dy) t) (FR g ((J, L, I, P, E, N), sgX g ++ dy) sz)) 0 0 (FR g ((J, L, I, P, E, N), sgX g ++ dy) sz) := by
  refine ent (by decide +kernel) (Nat.le_of_ble_eq_true rfl) ?_
  intro p e s m below meth c ls hsz C hW hr hlocks hname hl
  generalize FR g ((J, L, I, P, E, N), sgX g ++ dy) sz = A at C hW ⊢
  have hx := C.1.1
  have hb := C.1.2.1
  have hts := C.1.2.2.2.2
  have hl : lv_has ls 4 [(0, .ref (g.2.2.1 12)), (1, .int a0), (2, .int a1)] := hl
  obtain ⟨H, hH⟩ : ∃ H : Heap, H = s.heap := ⟨_, rfl⟩
  obtain ⟨locs, hlocs⟩ : ∃ q : List Loc, q = [] := ⟨_, rfl⟩
  have hW : WB g A s.heap H locs (J, L, I, P, E, N) (sgX g ++ dy) := by rw [hH, hlocs]; exact hW
  refine start_ hH hlocs ?_
  refine lv_iload_n hx hb dX11_isOfItsKind_0 rfl (lv_at hl 1 rfl) ?_
  refine lv_iconst (v := 1) hx hb dX11_isOfItsKind_1 (by decide) ?_
  refine lv_icmp_eq (tgt := 12) hx hb dX11_isOfItsKind_2 (by decide) (fun c1 => ?_) (fun c1 => ?_)
  · have c1 : a0.toInt = 1 := teq rfl kp1 c1
    refine lv_aload_n hx hb dX11_isOfItsKind_12 rfl (lv_at hl 0 rfl) ?_
    refine rg_12_1 C hW (mx_ rfl) tw_365 dX11_isOfItsKind_13 ?_
    refine lv_iload_n hx hb dX11_isOfItsKind_16 rfl (lv_at hl 2 rfl) ?_
    refine cq_ C hW (runV (x := (g.2.2.1 3)) (As := [.int a1]) (rest := []) (T := ((J, L, I, P, E, N), sgX g ++ dy)) C hW (c_X2_spanOf_e l g J L I P E N dy H.size a1 hwf (show SPR I E P (J 27 2).toInt (J 3 1).toInt (J 116) (J 117) (J 118) (J 119) (J 120) from hspr)) mi_X2_spanOf tw_639 (recv_ (T := ((J, L, I, P, E, N), sgX g ++ dy)) C hW (mx_ rfl) rfl rfl) ⟨rfl, rfl, Nat.le_of_ble_eq_true rfl, Nat.le_of_ble_eq_true rfl⟩ rfl hl.1 rfl (Nat.le_of_ble_eq_true rfl) dX11_isOfItsKind_17 ⟨Nat.le_of_ble_eq_true rfl, Nat.le_of_ble_eq_true rfl⟩) (fun q2 u2 H locs hp2 hW => ?_)
    have hq2 : ((q2 = none ∧ (¬ (0 ≤ a1.toInt ∧ a1.toInt < (J 3 1).toInt))) ∨ (∃ o9 : Nat, q2 = some o9 ∧ (9, o9) ∈ dy ∧ (0 ≤ a1.toInt ∧ a1.toInt < (J 3 1).toInt ∧ (I 9 0 o9).toInt ≤ a1.toInt ∧ a1.toInt ≤ (I 9 1 o9).toInt ∧ SPO I o9 (J 3 1).toInt (J 116) (J 117) (J 118) (J 119) (J 120)))) := hp2
    clear hp2
    have hW : WB g A s.heap H locs (J, L, I, P, E, N) (sgX g ++ dy) := hW
    rcases hq2 with ⟨ho2, hn2⟩ | ⟨o2, ho2, hm2, hs2⟩ <;> subst ho2
    · refine lv_asv (v' := .null) rfl ?_
      refine lv_astore_nN (lv' := [(3, .null), (0, .ref (g.2.2.1 12)), (1, .int a0), (2, .int a1)]) hx hb dX11_isOfItsKind_20 rfl hl (by decide) rfl (fun ls hl => ?_)
      refine lv_aload_nN hx hb dX11_isOfItsKind_21 rfl (lv_at hl 0 rfl) ?_
      refine lv_ifnonnullN hx hb dX11_isOfItsKind_22 ?_
      refine lv_iconst (v := 0) hx hb dX11_isOfItsKind_25 (by decide) ?_
      exact end_z C hr hlocks (by decide) () hW (by first | exact Or.inr (⟨by decide, by omega⟩)) dX11_isOfItsKind_26
    · refine lv_asv (v' := .ref o2) rfl ?_
      obtain ⟨hsK2, hsR2, hsV2, hsO2, hsT2⟩ := spo_at hs2
      have hsk2 := congrArg Int32.toInt hsK2
      refine lv_astore_n (lv' := [(3, .ref o2), (0, .ref (g.2.2.1 12)), (1, .int a0), (2, .int a1)]) hx hb dX11_isOfItsKind_20 rfl hl (by decide) rfl (fun ls hl => ?_)
      refine lv_aload_n hx hb dX11_isOfItsKind_21 rfl (lv_at hl 0 rfl) ?_
      refine lv_ifnonnull (tgt := 27) hx hb dX11_isOfItsKind_22 (by decide) ?_
      refine lv_aload_n hx hb dX11_isOfItsKind_27 rfl (lv_at hl 0 rfl) ?_
      refine rg_9_2 C hW (List.mem_append_right _ hm2) tw_429 dX11_isOfItsKind_28 ?_
      refine lv_topi (fun x3 (e3 : x3 = I 9 2 o2) => ?_)
      have t3 : x3.toInt = (I 9 2 o2).toInt := by rw [e3]
      refine lv_if_ne (tgt := 36) hx hb dX11_isOfItsKind_31 (by decide) (fun c4 => ?_) (fun c4 => ?_)
      · have c4 : ¬ x3.toInt = 0 := tne rfl kp0 c4
        refine lv_iload_n hx hb dX11_isOfItsKind_36 rfl (lv_at hl 2 rfl) ?_
        refine lv_iconst (v := 1) hx hb dX11_isOfItsKind_37 (by decide) ?_
        refine lv_icmp_ne (tgt := 61) hx hb dX11_isOfItsKind_38 (by decide) (fun c5 => ?_) (fun c5 => ?_)
        · have c5 : ¬ a0.toInt = 1 := tne rfl kp1 c5
          exfalso; omega
        · have c5 : a0.toInt = 1 := teq rfl kp1 c5
          refine lv_aload_n hx hb dX11_isOfItsKind_41 rfl (lv_at hl 0 rfl) ?_
          refine rg_9_2 C hW (List.mem_append_right _ hm2) tw_429 dX11_isOfItsKind_42 ?_
          refine lv_topi (fun x6 (e6 : x6 = I 9 2 o2) => ?_)
          have t6 : x6.toInt = (I 9 2 o2).toInt := by rw [e6]
          refine lv_iconst (v := 3) hx hb dX11_isOfItsKind_45 (by decide) ?_
          refine lv_icmp_eq (tgt := 57) hx hb dX11_isOfItsKind_46 (by decide) (fun c7 => ?_) (fun c7 => ?_)
          · have c7 : x6.toInt = 3 := teq rfl kp3 c7
            refine lv_iconst (v := 1) hx hb dX11_isOfItsKind_57 (by decide) ?_
            refine lv_goto (tgt := 62) hx hb dX11_isOfItsKind_58 (by decide) ?_
            exact end_z C hr hlocks (by decide) () hW (by first | exact Or.inl ⟨by decide, by omega⟩) dX11_isOfItsKind_62
          · have c7 : ¬ x6.toInt = 3 := tne rfl kp3 c7
            refine lv_aload_n hx hb dX11_isOfItsKind_49 rfl (lv_at hl 0 rfl) ?_
            refine rg_9_2 C hW (List.mem_append_right _ hm2) tw_429 dX11_isOfItsKind_50 ?_
            refine lv_topi (fun x8 (e8 : x8 = I 9 2 o2) => ?_)
            have t8 : x8.toInt = (I 9 2 o2).toInt := by rw [e8]
            refine lv_iconst (v := 5) hx hb dX11_isOfItsKind_53 (by decide) ?_
            refine lv_icmp_ne (tgt := 61) hx hb dX11_isOfItsKind_54 (by decide) (fun c9 => ?_) (fun c9 => ?_)
            · have c9 : ¬ x8.toInt = 5 := tne rfl kp5 c9
              refine lv_iconst (v := 0) hx hb dX11_isOfItsKind_61 (by decide) ?_
              exact end_z C hr hlocks (by decide) () hW (by first | exact Or.inr (⟨by decide, by omega⟩)) dX11_isOfItsKind_62
            · have c9 : x8.toInt = 5 := teq rfl kp5 c9
              refine lv_iconst (v := 1) hx hb dX11_isOfItsKind_57 (by decide) ?_
              refine lv_goto (tgt := 62) hx hb dX11_isOfItsKind_58 (by decide) ?_
              exact end_z C hr hlocks (by decide) () hW (by first | exact Or.inl ⟨by decide, by omega⟩) dX11_isOfItsKind_62
      · have c4 : x3.toInt = 0 := teq rfl kp0 c4
        refine lv_iconst (v := 1) hx hb dX11_isOfItsKind_34 (by decide) ?_
        exact end_z C hr hlocks (by decide) () hW (by first | exact Or.inl ⟨by decide, by omega⟩) dX11_isOfItsKind_35
  · have c1 : ¬ a0.toInt = 1 := tne rfl kp1 c1
    refine lv_iload_n hx hb dX11_isOfItsKind_5 rfl (lv_at hl 1 rfl) ?_
    refine lv_iconst (v := 5) hx hb dX11_isOfItsKind_6 (by decide) ?_
    refine lv_icmp_eq (tgt := 12) hx hb dX11_isOfItsKind_7 (by decide) (fun c10 => ?_) (fun c10 => ?_)
    · have c10 : a0.toInt = 5 := teq rfl kp5 c10
      refine lv_aload_n hx hb dX11_isOfItsKind_12 rfl (lv_at hl 0 rfl) ?_
      refine rg_12_1 C hW (mx_ rfl) tw_365 dX11_isOfItsKind_13 ?_
      refine lv_iload_n hx hb dX11_isOfItsKind_16 rfl (lv_at hl 2 rfl) ?_
      refine cq_ C hW (runV (x := (g.2.2.1 3)) (As := [.int a1]) (rest := []) (T := ((J, L, I, P, E, N), sgX g ++ dy)) C hW (c_X2_spanOf_e l g J L I P E N dy H.size a1 hwf (show SPR I E P (J 27 2).toInt (J 3 1).toInt (J 116) (J 117) (J 118) (J 119) (J 120) from hspr)) mi_X2_spanOf tw_639 (recv_ (T := ((J, L, I, P, E, N), sgX g ++ dy)) C hW (mx_ rfl) rfl rfl) ⟨rfl, rfl, Nat.le_of_ble_eq_true rfl, Nat.le_of_ble_eq_true rfl⟩ rfl hl.1 rfl (Nat.le_of_ble_eq_true rfl) dX11_isOfItsKind_17 ⟨Nat.le_of_ble_eq_true rfl, Nat.le_of_ble_eq_true rfl⟩) (fun q11 u11 H locs hp11 hW => ?_)
      have hq11 : ((q11 = none ∧ (¬ (0 ≤ a1.toInt ∧ a1.toInt < (J 3 1).toInt))) ∨ (∃ o9 : Nat, q11 = some o9 ∧ (9, o9) ∈ dy ∧ (0 ≤ a1.toInt ∧ a1.toInt < (J 3 1).toInt ∧ (I 9 0 o9).toInt ≤ a1.toInt ∧ a1.toInt ≤ (I 9 1 o9).toInt ∧ SPO I o9 (J 3 1).toInt (J 116) (J 117) (J 118) (J 119) (J 120)))) := hp11
      clear hp11
      have hW : WB g A s.heap H locs (J, L, I, P, E, N) (sgX g ++ dy) := hW
      rcases hq11 with ⟨ho11, hn11⟩ | ⟨o11, ho11, hm11, hs11⟩ <;> subst ho11
      · refine lv_asv (v' := .null) rfl ?_
        refine lv_astore_nN (lv' := [(3, .null), (0, .ref (g.2.2.1 12)), (1, .int a0), (2, .int a1)]) hx hb dX11_isOfItsKind_20 rfl hl (by decide) rfl (fun ls hl => ?_)
        refine lv_aload_nN hx hb dX11_isOfItsKind_21 rfl (lv_at hl 0 rfl) ?_
        refine lv_ifnonnullN hx hb dX11_isOfItsKind_22 ?_
        refine lv_iconst (v := 0) hx hb dX11_isOfItsKind_25 (by decide) ?_
        exact end_z C hr hlocks (by decide) () hW (by first | exact Or.inr (⟨by decide, by omega⟩)) dX11_isOfItsKind_26
      · refine lv_asv (v' := .ref o11) rfl ?_
        obtain ⟨hsK11, hsR11, hsV11, hsO11, hsT11⟩ := spo_at hs11
        have hsk11 := congrArg Int32.toInt hsK11
        refine lv_astore_n (lv' := [(3, .ref o11), (0, .ref (g.2.2.1 12)), (1, .int a0), (2, .int a1)]) hx hb dX11_isOfItsKind_20 rfl hl (by decide) rfl (fun ls hl => ?_)
        refine lv_aload_n hx hb dX11_isOfItsKind_21 rfl (lv_at hl 0 rfl) ?_
        refine lv_ifnonnull (tgt := 27) hx hb dX11_isOfItsKind_22 (by decide) ?_
        refine lv_aload_n hx hb dX11_isOfItsKind_27 rfl (lv_at hl 0 rfl) ?_
        refine rg_9_2 C hW (List.mem_append_right _ hm11) tw_429 dX11_isOfItsKind_28 ?_
        refine lv_topi (fun x12 (e12 : x12 = I 9 2 o11) => ?_)
        have t12 : x12.toInt = (I 9 2 o11).toInt := by rw [e12]
        refine lv_if_ne (tgt := 36) hx hb dX11_isOfItsKind_31 (by decide) (fun c13 => ?_) (fun c13 => ?_)
        · have c13 : ¬ x12.toInt = 0 := tne rfl kp0 c13
          refine lv_iload_n hx hb dX11_isOfItsKind_36 rfl (lv_at hl 2 rfl) ?_
          refine lv_iconst (v := 1) hx hb dX11_isOfItsKind_37 (by decide) ?_
          refine lv_icmp_ne (tgt := 61) hx hb dX11_isOfItsKind_38 (by decide) (fun c14 => ?_) (fun c14 => ?_)
          · have c14 : ¬ a0.toInt = 1 := tne rfl kp1 c14
            refine lv_iconst (v := 0) hx hb dX11_isOfItsKind_61 (by decide) ?_
            exact end_z C hr hlocks (by decide) () hW (by first | exact Or.inr (⟨by decide, by omega⟩)) dX11_isOfItsKind_62
          · have c14 : a0.toInt = 1 := teq rfl kp1 c14
            exfalso; omega
        · have c13 : x12.toInt = 0 := teq rfl kp0 c13
          refine lv_iconst (v := 1) hx hb dX11_isOfItsKind_34 (by decide) ?_
          exact end_z C hr hlocks (by decide) () hW (by first | exact Or.inl ⟨by decide, by omega⟩) dX11_isOfItsKind_35
    · have c10 : ¬ a0.toInt = 5 := tne rfl kp5 c10
      refine lv_iconst (v := 1) hx hb dX11_isOfItsKind_10 (by decide) ?_
      exact end_z C hr hlocks (by decide) () hW (by first | exact Or.inl ⟨by decide, by omega⟩) dX11_isOfItsKind_11

set_option maxHeartbeats 4000000 in
set_option maxRecDepth 100000 in
theorem c_X11_hourOf_e (l : Launch) (g : gG) (J : Nat → Nat → Int32) (L : Nat → Nat → Int64) (I : Nat → Nat → Nat → Int32) (P : Nat → Nat → Nat → Option Nat) (E : Nat → Option Nat) (N : Nat → Nat) (dy : List (Nat × Nat)) (sz : Nat) (a0 : Int32) (h0 : 0 ≤ a0.toInt) : Met l yX11_hourOf (WS yX11_hourOf cX11_hourOf 1 (some .int)) (RM (1) 0 0) (PC g [.int a0] ((J, L, I, P, E, N), sgX g ++ dy) sz) (va_Qi (fun (r : Int32) (u : Unit) => ((r = hrw a0.toInt))) (fun u t => at_ g (FR g ((J, L, I, P, E, N), sgX g ++ dy) sz) ((J, L, I, P, E, N), sgX g ++ dy) t) (FR g ((J, L, I, P, E, N), sgX g ++ dy) sz)) 0 0 (FR g ((J, L, I, P, E, N), sgX g ++ dy) sz) := by
  refine ent (by decide +kernel) (Nat.le_of_ble_eq_true rfl) ?_
  intro p e s m below meth c ls hsz C hW hr hlocks hname hl
  generalize FR g ((J, L, I, P, E, N), sgX g ++ dy) sz = A at C hW ⊢
  have hx := C.1.1
  have hb := C.1.2.1
  have hts := C.1.2.2.2.2
  have hl : lv_has ls 1 [(0, .int a0)] := hl
  obtain ⟨H, hH⟩ : ∃ H : Heap, H = s.heap := ⟨_, rfl⟩
  obtain ⟨locs, hlocs⟩ : ∃ q : List Loc, q = [] := ⟨_, rfl⟩
  have hW : WB g A s.heap H locs (J, L, I, P, E, N) (sgX g ++ dy) := by rw [hH, hlocs]; exact hW
  refine start_ hH hlocs ?_
  refine lv_iload_n hx hb dX11_hourOf_0 rfl (lv_at hl 0 rfl) ?_
  refine lv_bipush (v := 60) hx hb dX11_hourOf_1 (by decide) ?_
  refine lv_idiv hx hb dX11_hourOf_3 (by decide) ?_
  refine lv_topi (fun x1 (e1 : x1 = a0 / 60) => ?_)
  have t1 : x1.toInt = a0.toInt.tdiv 60 := tdiv e1 rfl kp60 (by decide)
  try rw [tdp (a := a0.toInt) (by omega)] at t1
  refine lv_bipush (v := 24) hx hb dX11_hourOf_4 (by decide) ?_
  refine lv_irem hx hb dX11_hourOf_6 (by decide) ?_
  refine lv_topi (fun x2 (e2 : x2 = x1 - x1 / 24 * 24) => ?_)
  have t2 : x2.toInt = x1.toInt.tmod 24 := tmod e2 rfl kp24 (by decide) (by decide)
  try rw [tmp (a := x1.toInt) (by omega)] at t2
  exact end_i C hr hlocks () hW (by first | exact (by exact hrw_eq (by omega))) dX11_hourOf_7

set_option maxHeartbeats 4000000 in
set_option maxRecDepth 100000 in
theorem c_X11_inForce_e (l : Launch) (g : gG) (J : Nat → Nat → Int32) (L : Nat → Nat → Int64) (I : Nat → Nat → Nat → Int32) (P : Nat → Nat → Nat → Option Nat) (E : Nat → Option Nat) (N : Nat → Nat) (dy : List (Nat × Nat)) (sz : Nat) (a0 : Int32) (a1 : Int32) (hwf : WXF g J P E N dy) : Met l yX11_inForce (WS yX11_inForce cX11_inForce 6 (some (.object "EarPaper$Term"))) (RM (4) 0 0) (PC g [.ref (g.2.2.1 12), .int a0, .int a1] ((J, L, I, P, E, N), sgX g ++ dy) sz) (va_Qq (fun (r : Option Nat) (u : Unit) => ((r = none ∧ (INN (TPU I E P) (TFR I E P) (J 25 2).toInt a0.toInt a1.toInt)) ∨ (∃ o9 : Nat, r = some o9 ∧ (10, o9) ∈ dy ∧ (∃ k : Nat, o9 = elt E P 25 k ∧ INF (TPU I E P) (TFR I E P) (J 25 2).toInt a0.toInt a1.toInt k)))) (fun u t => at_ g (FR g ((J, L, I, P, E, N), sgX g ++ dy) sz) ((J, L, I, P, E, N), sgX g ++ dy) t) (FR g ((J, L, I, P, E, N), sgX g ++ dy) sz)) 0 0 (FR g ((J, L, I, P, E, N), sgX g ++ dy) sz) := by
  refine ent (by decide +kernel) (Nat.le_of_ble_eq_true rfl) ?_
  intro p e s m below meth c ls hsz C hW hr hlocks hname hl
  generalize FR g ((J, L, I, P, E, N), sgX g ++ dy) sz = A at C hW ⊢
  have hx := C.1.1
  have hb := C.1.2.1
  have hts := C.1.2.2.2.2
  have hl : lv_has ls 6 [(0, .ref (g.2.2.1 12)), (1, .int a0), (2, .int a1)] := hl
  obtain ⟨H, hH⟩ : ∃ H : Heap, H = s.heap := ⟨_, rfl⟩
  obtain ⟨locs, hlocs⟩ : ∃ q : List Loc, q = [] := ⟨_, rfl⟩
  have hW : WB g A s.heap H locs (J, L, I, P, E, N) (sgX g ++ dy) := by rw [hH, hlocs]; exact hW
  obtain ⟨h25a, h25b, -⟩ := hwf.2.1.2.1
  refine start_ hH hlocs ?_
  refine lv_null hx hb dX11_inForce_0 ?_
  refine lv_astore_nN (lv' := [(3, .null), (0, .ref (g.2.2.1 12)), (1, .int a0), (2, .int a1)]) hx hb dX11_inForce_1 rfl hl (by decide) rfl (fun ls hl => ?_)
  refine lv_iconst (v := 0) hx hb dX11_inForce_2 (by decide) ?_
  refine lv_istore (lv' := [(4, .int 0), (3, .null), (0, .ref (g.2.2.1 12)), (1, .int a0), (2, .int a1)]) hx hb dX11_inForce_3 hl (by decide) rfl (fun ls hl => ?_)
  have loop5 : ∀ (n : Nat) (m4 : Int32) (m3 : Option Nat) (H : Heap) (locs : List Loc) (ls : Array Slot), ((J 25 2).toInt - m4.toInt).toNat < n → 0 ≤ m4.toInt ∧ m4.toInt ≤ (J 25 2).toInt → ((m3 = none ∧ INN (TPU I E P) (TFR I E P) m4.toInt a0.toInt a1.toInt) ∨ ∃ k : Nat, m3 = some (elt E P 25 k) ∧ INF (TPU I E P) (TFR I E P) m4.toInt a0.toInt a1.toInt k) → m3 = none ∨ (∃ o9 : Nat, m3 = some o9 ∧ (10, o9) ∈ dy) → WB g A s.heap H locs (J, L, I, P, E, N) (sgX g ++ dy) → lv_has ls 6 [(4, .int m4), (3, va_rf m3), (0, .ref (g.2.2.1 12)), (1, .int a0), (2, .int a1)] → W p l e (RM (4) 0 0) s m ([.ref (g.2.2.1 12), .int a0, .int a1] : List Value).toArray below meth c H locs 0 0 (MQ below (va_Qq (fun (r : Option Nat) (u : Unit) => ((r = none ∧ (INN (TPU I E P) (TFR I E P) (J 25 2).toInt a0.toInt a1.toInt)) ∨ (∃ o9 : Nat, r = some o9 ∧ (10, o9) ∈ dy ∧ (∃ k : Nat, o9 = elt E P 25 k ∧ INF (TPU I E P) (TFR I E P) (J 25 2).toInt a0.toInt a1.toInt k)))) (fun u t => at_ g A ((J, L, I, P, E, N), sgX g ++ dy) t) A) ([.ref (g.2.2.1 12), .int a0, .int a1] : List Value).toArray s 0 0 A) (F0 m 5 ls []) := by
    intro n
    induction n with
    | zero => intro m4 m3 H locs ls hmeas; exact absurd hmeas (Nat.not_lt_zero _)
    | succ n ih =>
      intro m4 m3 H locs ls hmeas hi hin hOm3 hW hl
      rcases hOm3 with hq1 | ⟨oq1, hq1, mq1⟩ <;> subst hq1
      · have hl : lv_has ls 6 [(4, .int m4), (3, .null), (0, .ref (g.2.2.1 12)), (1, .int a0), (2, .int a1)] := hl
        refine lv_iload hx hb dX11_inForce_5 (lv_at hl 0 rfl) ?_
        refine lv_aload_n hx hb dX11_inForce_7 rfl (lv_at hl 2 rfl) ?_
        refine rg_12_3 C hW (mx_ rfl) tw_367 dX11_inForce_8 ?_
        refine ci_ C hW (runV (x := (g.2.2.1 25)) (As := []) (rest := [.int m4]) (T := ((J, L, I, P, E, N), sgX g ++ dy)) C hW (c_Jx4a65c_size_8abf5 l g J L I P E N dy H.size 25 rfl ) mi_Jx4a65c_size_8abf5 tw_485 (recv_ (T := ((J, L, I, P, E, N), sgX g ++ dy)) C hW (mx_ rfl) (cel_list rfl) rfl) ⟨rfl, rfl, Nat.le_of_ble_eq_true rfl, Nat.le_of_ble_eq_true rfl⟩ rfl hl.1 rfl (Nat.le_of_ble_eq_true rfl) dX11_inForce_11 ⟨Nat.le_of_ble_eq_true rfl, Nat.le_of_ble_eq_true rfl⟩) (fun r2 u2 H locs hp2 hW => ?_)
        have hc2 : ((r2 = J 25 2)) := hp2
        clear hp2
        have hr2 : r2 = J 25 2 := hc2
        refine lv_as (J 25 2) hr2 ?_
        have hW : WB g A s.heap H locs (J, L, I, P, E, N) (sgX g ++ dy) := hW
        refine lv_icmp_ge (tgt := 77) hx hb dX11_inForce_14 (by decide) (fun c3 => ?_) (fun c3 => ?_)
        · have c3 : (J 25 2).toInt ≤ m4.toInt := tle rfl rfl c3
          refine lv_aload_nN hx hb dX11_inForce_77 rfl (lv_at hl 1 rfl) ?_
          exact end_q (v := none) C hr (Or.inl ⟨_, rfl⟩) hlocks () hW (Or.inl ⟨rfl, by exact if_end_n hin (by omega)⟩) dX11_inForce_78
        · have c3 : m4.toInt < (J 25 2).toInt := tnle rfl rfl c3
          refine lv_aload_n hx hb dX11_inForce_17 rfl (lv_at hl 2 rfl) ?_
          refine rg_12_3 C hW (mx_ rfl) tw_367 dX11_inForce_18 ?_
          refine lv_iload hx hb dX11_inForce_21 (lv_at hl 0 rfl) ?_
          refine cq_ C hW (runV (x := (g.2.2.1 25)) (As := [.int m4]) (rest := []) (T := ((J, L, I, P, E, N), sgX g ++ dy)) C hW ((c_Jx4a65c_get_915e3 10) l g J L I P E N dy H.size 25 rfl m4 (show LWF g J P E N dy 25 10 from hwf.2.1.2.1) (show 0 ≤ m4.toInt ∧ m4.toInt < (J 25 2).toInt from by omega)) mi_Jx4a65c_get_915e3 tw_618 (recv_ (T := ((J, L, I, P, E, N), sgX g ++ dy)) C hW (mx_ rfl) (cel_list rfl) rfl) ⟨rfl, rfl, Nat.le_of_ble_eq_true rfl, Nat.le_of_ble_eq_true rfl⟩ rfl hl.1 rfl (Nat.le_of_ble_eq_true rfl) dX11_inForce_23 ⟨Nat.le_of_ble_eq_true rfl, Nat.le_of_ble_eq_true rfl⟩) (fun q4 u4 H locs hp4 hW => ?_)
          have hq4 : (q4 = some (elt E P 25 m4.toNatClampNeg)) := hp4
          clear hp4
          have hW : WB g A s.heap H locs (J, L, I, P, E, N) (sgX g ++ dy) := hW
          subst hq4
          obtain ⟨o4, ho4⟩ : ∃ z : Nat, z = elt E P 25 m4.toNatClampNeg := ⟨_, rfl⟩
          have hm4 : (10, o4) ∈ dy := by rw [ho4]; exact (lw_mem (er := 10) hwf.2.1.2.1 (show (m4.toNatClampNeg : Int) < (J 25 2).toInt from by have := tcl m4; omega))
          refine lv_asv (v' := .ref o4) (by rw [ho4]; rfl) ?_
          refine g_cast C hW (List.mem_append_right _ hm4) rfl rfl tw_662 dX11_inForce_26 ?_
          refine lv_astore (lv' := [(5, .ref o4), (4, .int m4), (3, .null), (0, .ref (g.2.2.1 12)), (1, .int a0), (2, .int a1)]) hx hb dX11_inForce_29 hl (by decide) rfl (fun ls hl => ?_)
          refine lv_aload hx hb dX11_inForce_31 (lv_at hl 0 rfl) ?_
          refine rg_10_0 C hW (List.mem_append_right _ hm4) tw_801 dX11_inForce_33 ?_
          refine lv_topi (fun x5 (e5 : x5 = I 10 0 o4) => ?_)
          have t5 : x5.toInt = (I 10 0 o4).toInt := by rw [e5]
          refine lv_iload_n hx hb dX11_inForce_36 rfl (lv_at hl 4 rfl) ?_
          refine lv_icmp_ne (tgt := 71) hx hb dX11_inForce_37 (by decide) (fun c6 => ?_) (fun c6 => ?_)
          · have c6 : ¬ x5.toInt = a0.toInt := tne rfl rfl c6
            obtain ⟨x7, e7⟩ : ∃ y : Int32, y = m4 + 1 := ⟨_, rfl⟩
            refine lv_iinc (v := x7) (lv' := [(4, .int x7), (5, .ref o4), (3, .null), (0, .ref (g.2.2.1 12)), (1, .int a0), (2, .int a1)]) hx hb dX11_inForce_71 hl (k := 1) rfl (by rw [e7]; rfl) (by decide) rfl (fun ls hl => ?_)
            try have t7 : x7.toInt = m4.toInt + 1 := tadd e7 rfl kp1 (by omega)
            refine lv_goto (tgt := 5) hx hb dX11_inForce_74 (by decide) ?_
            refine ih x7 (none : Option Nat) H locs ls ?_ ?_ ?_ ?_ hW (lv_sub hl [0, 2, 3, 4, 5] rfl)
            · show ((J 25 2).toInt - x7.toInt).toNat < n
              omega
            · show 0 ≤ x7.toInt ∧ x7.toInt ≤ (J 25 2).toInt
              first | omega | exact hi | assumption
            · show ((none : Option Nat) = none ∧ INN (TPU I E P) (TFR I E P) x7.toInt a0.toInt a1.toInt) ∨ ∃ k : Nat, (none : Option Nat) = some (elt E P 25 k) ∧ INF (TPU I E P) (TFR I E P) x7.toInt a0.toInt a1.toInt k
              first | exact if_skip (c := m4.toNatClampNeg) hin (by have h8 := tcl m4; omega) (by omega) (Or.inl (by show ¬ (I 10 0 (elt E P 25 m4.toNatClampNeg)).toInt = _; rw [← ho4]; omega)) | exact if_skip (c := m4.toNatClampNeg) hin (by have h8 := tcl m4; omega) (by omega) (Or.inr (Or.inl (by show _ < (I 10 1 (elt E P 25 m4.toNatClampNeg)).toInt; rw [← ho4]; omega))) | exact if_skip (c := m4.toNatClampNeg) hin (by have h8 := tcl m4; omega) (by omega) (Or.inr (Or.inr ⟨fun h => (by cases h), fun k9 hk9 => (by show (I 10 1 (elt E P 25 m4.toNatClampNeg)).toInt < (I 10 1 (elt E P 25 k9)).toInt; rw [← ho4, ← Option.some.inj hk9]; omega)⟩)) | exact if_take (c := m4.toNatClampNeg) hin (by have h8 := tcl m4; omega) (by omega) (by show (I 10 0 (elt E P 25 m4.toNatClampNeg)).toInt = _; rw [← ho4]; omega) (by show (I 10 1 (elt E P 25 m4.toNatClampNeg)).toInt ≤ _; rw [← ho4]; omega) (fun k9 hk9 => by first | (cases hk9; done) | (show (I 10 1 (elt E P 25 k9)).toInt ≤ (I 10 1 (elt E P 25 m4.toNatClampNeg)).toInt; rw [← ho4, ← Option.some.inj hk9]; omega)) (congrArg some ho4)
            · show (none : Option Nat) = none ∨ (∃ o9 : Nat, (none : Option Nat) = some o9 ∧ (10, o9) ∈ dy)
              exact Or.inl rfl
          · have c6 : x5.toInt = a0.toInt := teq rfl rfl c6
            refine lv_aload hx hb dX11_inForce_40 (lv_at hl 0 rfl) ?_
            refine rg_10_1 C hW (List.mem_append_right _ hm4) tw_803 dX11_inForce_42 ?_
            refine lv_topi (fun x8 (e8 : x8 = I 10 1 o4) => ?_)
            have t8 : x8.toInt = (I 10 1 o4).toInt := by rw [e8]
            refine lv_iload_n hx hb dX11_inForce_45 rfl (lv_at hl 5 rfl) ?_
            refine lv_icmp_le (tgt := 52) hx hb dX11_inForce_46 (by decide) (fun c9 => ?_) (fun c9 => ?_)
            · have c9 : x8.toInt ≤ a1.toInt := tle rfl rfl c9
              refine lv_aload_nN hx hb dX11_inForce_52 rfl (lv_at hl 2 rfl) ?_
              refine lv_ifnullN (tgt := 68) hx hb dX11_inForce_53 (by decide) ?_
              refine lv_aload hx hb dX11_inForce_68 (lv_at hl 0 rfl) ?_
              refine lv_astore_n (lv' := [(3, .ref o4), (5, .ref o4), (4, .int m4), (0, .ref (g.2.2.1 12)), (1, .int a0), (2, .int a1)]) hx hb dX11_inForce_70 rfl hl (by decide) rfl (fun ls hl => ?_)
              obtain ⟨x10, e10⟩ : ∃ y : Int32, y = m4 + 1 := ⟨_, rfl⟩
              refine lv_iinc (v := x10) (lv' := [(4, .int x10), (3, .ref o4), (5, .ref o4), (0, .ref (g.2.2.1 12)), (1, .int a0), (2, .int a1)]) hx hb dX11_inForce_71 hl (k := 2) rfl (by rw [e10]; rfl) (by decide) rfl (fun ls hl => ?_)
              try have t10 : x10.toInt = m4.toInt + 1 := tadd e10 rfl kp1 (by omega)
              refine lv_goto (tgt := 5) hx hb dX11_inForce_74 (by decide) ?_
              refine ih x10 (some o4) H locs ls ?_ ?_ ?_ ?_ hW (lv_sub hl [0, 1, 3, 4, 5] rfl)
              · show ((J 25 2).toInt - x10.toInt).toNat < n
                omega
              · show 0 ≤ x10.toInt ∧ x10.toInt ≤ (J 25 2).toInt
                first | omega | exact hi | assumption
              · show ((some o4) = none ∧ INN (TPU I E P) (TFR I E P) x10.toInt a0.toInt a1.toInt) ∨ ∃ k : Nat, (some o4) = some (elt E P 25 k) ∧ INF (TPU I E P) (TFR I E P) x10.toInt a0.toInt a1.toInt k
                first | exact if_skip (c := m4.toNatClampNeg) hin (by have h8 := tcl m4; omega) (by omega) (Or.inl (by show ¬ (I 10 0 (elt E P 25 m4.toNatClampNeg)).toInt = _; rw [← ho4]; omega)) | exact if_skip (c := m4.toNatClampNeg) hin (by have h8 := tcl m4; omega) (by omega) (Or.inr (Or.inl (by show _ < (I 10 1 (elt E P 25 m4.toNatClampNeg)).toInt; rw [← ho4]; omega))) | exact if_skip (c := m4.toNatClampNeg) hin (by have h8 := tcl m4; omega) (by omega) (Or.inr (Or.inr ⟨fun h => (by cases h), fun k9 hk9 => (by show (I 10 1 (elt E P 25 m4.toNatClampNeg)).toInt < (I 10 1 (elt E P 25 k9)).toInt; rw [← ho4, ← Option.some.inj hk9]; omega)⟩)) | exact if_take (c := m4.toNatClampNeg) hin (by have h8 := tcl m4; omega) (by omega) (by show (I 10 0 (elt E P 25 m4.toNatClampNeg)).toInt = _; rw [← ho4]; omega) (by show (I 10 1 (elt E P 25 m4.toNatClampNeg)).toInt ≤ _; rw [← ho4]; omega) (fun k9 hk9 => by first | (cases hk9; done) | (show (I 10 1 (elt E P 25 k9)).toInt ≤ (I 10 1 (elt E P 25 m4.toNatClampNeg)).toInt; rw [← ho4, ← Option.some.inj hk9]; omega)) (congrArg some ho4)
              · show (some o4) = none ∨ (∃ o9 : Nat, (some o4) = some o9 ∧ (10, o9) ∈ dy)
                exact Or.inr ⟨_, rfl, hm4⟩
            · have c9 : a1.toInt < x8.toInt := tnle rfl rfl c9
              refine lv_goto (tgt := 71) hx hb dX11_inForce_49 (by decide) ?_
              obtain ⟨x11, e11⟩ : ∃ y : Int32, y = m4 + 1 := ⟨_, rfl⟩
              refine lv_iinc (v := x11) (lv' := [(4, .int x11), (5, .ref o4), (3, .null), (0, .ref (g.2.2.1 12)), (1, .int a0), (2, .int a1)]) hx hb dX11_inForce_71 hl (k := 1) rfl (by rw [e11]; rfl) (by decide) rfl (fun ls hl => ?_)
              try have t11 : x11.toInt = m4.toInt + 1 := tadd e11 rfl kp1 (by omega)
              refine lv_goto (tgt := 5) hx hb dX11_inForce_74 (by decide) ?_
              refine ih x11 (none : Option Nat) H locs ls ?_ ?_ ?_ ?_ hW (lv_sub hl [0, 2, 3, 4, 5] rfl)
              · show ((J 25 2).toInt - x11.toInt).toNat < n
                omega
              · show 0 ≤ x11.toInt ∧ x11.toInt ≤ (J 25 2).toInt
                first | omega | exact hi | assumption
              · show ((none : Option Nat) = none ∧ INN (TPU I E P) (TFR I E P) x11.toInt a0.toInt a1.toInt) ∨ ∃ k : Nat, (none : Option Nat) = some (elt E P 25 k) ∧ INF (TPU I E P) (TFR I E P) x11.toInt a0.toInt a1.toInt k
                first | exact if_skip (c := m4.toNatClampNeg) hin (by have h8 := tcl m4; omega) (by omega) (Or.inl (by show ¬ (I 10 0 (elt E P 25 m4.toNatClampNeg)).toInt = _; rw [← ho4]; omega)) | exact if_skip (c := m4.toNatClampNeg) hin (by have h8 := tcl m4; omega) (by omega) (Or.inr (Or.inl (by show _ < (I 10 1 (elt E P 25 m4.toNatClampNeg)).toInt; rw [← ho4]; omega))) | exact if_skip (c := m4.toNatClampNeg) hin (by have h8 := tcl m4; omega) (by omega) (Or.inr (Or.inr ⟨fun h => (by cases h), fun k9 hk9 => (by show (I 10 1 (elt E P 25 m4.toNatClampNeg)).toInt < (I 10 1 (elt E P 25 k9)).toInt; rw [← ho4, ← Option.some.inj hk9]; omega)⟩)) | exact if_take (c := m4.toNatClampNeg) hin (by have h8 := tcl m4; omega) (by omega) (by show (I 10 0 (elt E P 25 m4.toNatClampNeg)).toInt = _; rw [← ho4]; omega) (by show (I 10 1 (elt E P 25 m4.toNatClampNeg)).toInt ≤ _; rw [← ho4]; omega) (fun k9 hk9 => by first | (cases hk9; done) | (show (I 10 1 (elt E P 25 k9)).toInt ≤ (I 10 1 (elt E P 25 m4.toNatClampNeg)).toInt; rw [← ho4, ← Option.some.inj hk9]; omega)) (congrArg some ho4)
              · show (none : Option Nat) = none ∨ (∃ o9 : Nat, (none : Option Nat) = some o9 ∧ (10, o9) ∈ dy)
                exact Or.inl rfl
      · have hl : lv_has ls 6 [(4, .int m4), (3, .ref oq1), (0, .ref (g.2.2.1 12)), (1, .int a0), (2, .int a1)] := hl
        refine lv_iload hx hb dX11_inForce_5 (lv_at hl 0 rfl) ?_
        refine lv_aload_n hx hb dX11_inForce_7 rfl (lv_at hl 2 rfl) ?_
        refine rg_12_3 C hW (mx_ rfl) tw_367 dX11_inForce_8 ?_
        refine ci_ C hW (runV (x := (g.2.2.1 25)) (As := []) (rest := [.int m4]) (T := ((J, L, I, P, E, N), sgX g ++ dy)) C hW (c_Jx4a65c_size_8abf5 l g J L I P E N dy H.size 25 rfl ) mi_Jx4a65c_size_8abf5 tw_485 (recv_ (T := ((J, L, I, P, E, N), sgX g ++ dy)) C hW (mx_ rfl) (cel_list rfl) rfl) ⟨rfl, rfl, Nat.le_of_ble_eq_true rfl, Nat.le_of_ble_eq_true rfl⟩ rfl hl.1 rfl (Nat.le_of_ble_eq_true rfl) dX11_inForce_11 ⟨Nat.le_of_ble_eq_true rfl, Nat.le_of_ble_eq_true rfl⟩) (fun r12 u12 H locs hp12 hW => ?_)
        have hc12 : ((r12 = J 25 2)) := hp12
        clear hp12
        have hr12 : r12 = J 25 2 := hc12
        refine lv_as (J 25 2) hr12 ?_
        have hW : WB g A s.heap H locs (J, L, I, P, E, N) (sgX g ++ dy) := hW
        refine lv_icmp_ge (tgt := 77) hx hb dX11_inForce_14 (by decide) (fun c13 => ?_) (fun c13 => ?_)
        · have c13 : (J 25 2).toInt ≤ m4.toInt := tle rfl rfl c13
          refine lv_aload_n hx hb dX11_inForce_77 rfl (lv_at hl 1 rfl) ?_
          exact end_q (v := some oq1) C hr (Or.inl ⟨_, rfl⟩) hlocks () hW (Or.inr ⟨_, rfl, mq1, by exact if_end_s hin (by omega)⟩) dX11_inForce_78
        · have c13 : m4.toInt < (J 25 2).toInt := tnle rfl rfl c13
          refine lv_aload_n hx hb dX11_inForce_17 rfl (lv_at hl 2 rfl) ?_
          refine rg_12_3 C hW (mx_ rfl) tw_367 dX11_inForce_18 ?_
          refine lv_iload hx hb dX11_inForce_21 (lv_at hl 0 rfl) ?_
          refine cq_ C hW (runV (x := (g.2.2.1 25)) (As := [.int m4]) (rest := []) (T := ((J, L, I, P, E, N), sgX g ++ dy)) C hW ((c_Jx4a65c_get_915e3 10) l g J L I P E N dy H.size 25 rfl m4 (show LWF g J P E N dy 25 10 from hwf.2.1.2.1) (show 0 ≤ m4.toInt ∧ m4.toInt < (J 25 2).toInt from by omega)) mi_Jx4a65c_get_915e3 tw_618 (recv_ (T := ((J, L, I, P, E, N), sgX g ++ dy)) C hW (mx_ rfl) (cel_list rfl) rfl) ⟨rfl, rfl, Nat.le_of_ble_eq_true rfl, Nat.le_of_ble_eq_true rfl⟩ rfl hl.1 rfl (Nat.le_of_ble_eq_true rfl) dX11_inForce_23 ⟨Nat.le_of_ble_eq_true rfl, Nat.le_of_ble_eq_true rfl⟩) (fun q14 u14 H locs hp14 hW => ?_)
          have hq14 : (q14 = some (elt E P 25 m4.toNatClampNeg)) := hp14
          clear hp14
          have hW : WB g A s.heap H locs (J, L, I, P, E, N) (sgX g ++ dy) := hW
          subst hq14
          obtain ⟨o14, ho14⟩ : ∃ z : Nat, z = elt E P 25 m4.toNatClampNeg := ⟨_, rfl⟩
          have hm14 : (10, o14) ∈ dy := by rw [ho14]; exact (lw_mem (er := 10) hwf.2.1.2.1 (show (m4.toNatClampNeg : Int) < (J 25 2).toInt from by have := tcl m4; omega))
          refine lv_asv (v' := .ref o14) (by rw [ho14]; rfl) ?_
          refine g_cast C hW (List.mem_append_right _ hm14) rfl rfl tw_662 dX11_inForce_26 ?_
          refine lv_astore (lv' := [(5, .ref o14), (4, .int m4), (3, .ref oq1), (0, .ref (g.2.2.1 12)), (1, .int a0), (2, .int a1)]) hx hb dX11_inForce_29 hl (by decide) rfl (fun ls hl => ?_)
          refine lv_aload hx hb dX11_inForce_31 (lv_at hl 0 rfl) ?_
          refine rg_10_0 C hW (List.mem_append_right _ hm14) tw_801 dX11_inForce_33 ?_
          refine lv_topi (fun x15 (e15 : x15 = I 10 0 o14) => ?_)
          have t15 : x15.toInt = (I 10 0 o14).toInt := by rw [e15]
          refine lv_iload_n hx hb dX11_inForce_36 rfl (lv_at hl 4 rfl) ?_
          refine lv_icmp_ne (tgt := 71) hx hb dX11_inForce_37 (by decide) (fun c16 => ?_) (fun c16 => ?_)
          · have c16 : ¬ x15.toInt = a0.toInt := tne rfl rfl c16
            obtain ⟨x17, e17⟩ : ∃ y : Int32, y = m4 + 1 := ⟨_, rfl⟩
            refine lv_iinc (v := x17) (lv' := [(4, .int x17), (5, .ref o14), (3, .ref oq1), (0, .ref (g.2.2.1 12)), (1, .int a0), (2, .int a1)]) hx hb dX11_inForce_71 hl (k := 1) rfl (by rw [e17]; rfl) (by decide) rfl (fun ls hl => ?_)
            try have t17 : x17.toInt = m4.toInt + 1 := tadd e17 rfl kp1 (by omega)
            refine lv_goto (tgt := 5) hx hb dX11_inForce_74 (by decide) ?_
            refine ih x17 (some oq1) H locs ls ?_ ?_ ?_ ?_ hW (lv_sub hl [0, 2, 3, 4, 5] rfl)
            · show ((J 25 2).toInt - x17.toInt).toNat < n
              omega
            · show 0 ≤ x17.toInt ∧ x17.toInt ≤ (J 25 2).toInt
              first | omega | exact hi | assumption
            · show ((some oq1) = none ∧ INN (TPU I E P) (TFR I E P) x17.toInt a0.toInt a1.toInt) ∨ ∃ k : Nat, (some oq1) = some (elt E P 25 k) ∧ INF (TPU I E P) (TFR I E P) x17.toInt a0.toInt a1.toInt k
              first | exact if_skip (c := m4.toNatClampNeg) hin (by have h8 := tcl m4; omega) (by omega) (Or.inl (by show ¬ (I 10 0 (elt E P 25 m4.toNatClampNeg)).toInt = _; rw [← ho14]; omega)) | exact if_skip (c := m4.toNatClampNeg) hin (by have h8 := tcl m4; omega) (by omega) (Or.inr (Or.inl (by show _ < (I 10 1 (elt E P 25 m4.toNatClampNeg)).toInt; rw [← ho14]; omega))) | exact if_skip (c := m4.toNatClampNeg) hin (by have h8 := tcl m4; omega) (by omega) (Or.inr (Or.inr ⟨fun h => (by cases h), fun k9 hk9 => (by show (I 10 1 (elt E P 25 m4.toNatClampNeg)).toInt < (I 10 1 (elt E P 25 k9)).toInt; rw [← ho14, ← Option.some.inj hk9]; omega)⟩)) | exact if_take (c := m4.toNatClampNeg) hin (by have h8 := tcl m4; omega) (by omega) (by show (I 10 0 (elt E P 25 m4.toNatClampNeg)).toInt = _; rw [← ho14]; omega) (by show (I 10 1 (elt E P 25 m4.toNatClampNeg)).toInt ≤ _; rw [← ho14]; omega) (fun k9 hk9 => by first | (cases hk9; done) | (show (I 10 1 (elt E P 25 k9)).toInt ≤ (I 10 1 (elt E P 25 m4.toNatClampNeg)).toInt; rw [← ho14, ← Option.some.inj hk9]; omega)) (congrArg some ho14)
            · show (some oq1) = none ∨ (∃ o9 : Nat, (some oq1) = some o9 ∧ (10, o9) ∈ dy)
              exact Or.inr ⟨_, rfl, mq1⟩
          · have c16 : x15.toInt = a0.toInt := teq rfl rfl c16
            refine lv_aload hx hb dX11_inForce_40 (lv_at hl 0 rfl) ?_
            refine rg_10_1 C hW (List.mem_append_right _ hm14) tw_803 dX11_inForce_42 ?_
            refine lv_topi (fun x18 (e18 : x18 = I 10 1 o14) => ?_)
            have t18 : x18.toInt = (I 10 1 o14).toInt := by rw [e18]
            refine lv_iload_n hx hb dX11_inForce_45 rfl (lv_at hl 5 rfl) ?_
            refine lv_icmp_le (tgt := 52) hx hb dX11_inForce_46 (by decide) (fun c19 => ?_) (fun c19 => ?_)
            · have c19 : x18.toInt ≤ a1.toInt := tle rfl rfl c19
              refine lv_aload_n hx hb dX11_inForce_52 rfl (lv_at hl 2 rfl) ?_
              refine lv_ifnull hx hb dX11_inForce_53 ?_
              refine lv_aload hx hb dX11_inForce_56 (lv_at hl 0 rfl) ?_
              refine rg_10_1 C hW (List.mem_append_right _ hm14) tw_803 dX11_inForce_58 ?_
              refine lv_topi (fun x20 (e20 : x20 = I 10 1 o14) => ?_)
              have t20 : x20.toInt = (I 10 1 o14).toInt := by rw [e20]
              refine lv_aload_n hx hb dX11_inForce_61 rfl (lv_at hl 2 rfl) ?_
              refine rg_10_1 C hW (List.mem_append_right _ mq1) tw_803 dX11_inForce_62 ?_
              refine lv_topi (fun x21 (e21 : x21 = I 10 1 oq1) => ?_)
              have t21 : x21.toInt = (I 10 1 oq1).toInt := by rw [e21]
              refine lv_icmp_lt (tgt := 71) hx hb dX11_inForce_65 (by decide) (fun c22 => ?_) (fun c22 => ?_)
              · have c22 : x20.toInt < x21.toInt := tlt rfl rfl c22
                obtain ⟨x23, e23⟩ : ∃ y : Int32, y = m4 + 1 := ⟨_, rfl⟩
                refine lv_iinc (v := x23) (lv' := [(4, .int x23), (5, .ref o14), (3, .ref oq1), (0, .ref (g.2.2.1 12)), (1, .int a0), (2, .int a1)]) hx hb dX11_inForce_71 hl (k := 1) rfl (by rw [e23]; rfl) (by decide) rfl (fun ls hl => ?_)
                try have t23 : x23.toInt = m4.toInt + 1 := tadd e23 rfl kp1 (by omega)
                refine lv_goto (tgt := 5) hx hb dX11_inForce_74 (by decide) ?_
                refine ih x23 (some oq1) H locs ls ?_ ?_ ?_ ?_ hW (lv_sub hl [0, 2, 3, 4, 5] rfl)
                · show ((J 25 2).toInt - x23.toInt).toNat < n
                  omega
                · show 0 ≤ x23.toInt ∧ x23.toInt ≤ (J 25 2).toInt
                  first | omega | exact hi | assumption
                · show ((some oq1) = none ∧ INN (TPU I E P) (TFR I E P) x23.toInt a0.toInt a1.toInt) ∨ ∃ k : Nat, (some oq1) = some (elt E P 25 k) ∧ INF (TPU I E P) (TFR I E P) x23.toInt a0.toInt a1.toInt k
                  first | exact if_skip (c := m4.toNatClampNeg) hin (by have h8 := tcl m4; omega) (by omega) (Or.inl (by show ¬ (I 10 0 (elt E P 25 m4.toNatClampNeg)).toInt = _; rw [← ho14]; omega)) | exact if_skip (c := m4.toNatClampNeg) hin (by have h8 := tcl m4; omega) (by omega) (Or.inr (Or.inl (by show _ < (I 10 1 (elt E P 25 m4.toNatClampNeg)).toInt; rw [← ho14]; omega))) | exact if_skip (c := m4.toNatClampNeg) hin (by have h8 := tcl m4; omega) (by omega) (Or.inr (Or.inr ⟨fun h => (by cases h), fun k9 hk9 => (by show (I 10 1 (elt E P 25 m4.toNatClampNeg)).toInt < (I 10 1 (elt E P 25 k9)).toInt; rw [← ho14, ← Option.some.inj hk9]; omega)⟩)) | exact if_take (c := m4.toNatClampNeg) hin (by have h8 := tcl m4; omega) (by omega) (by show (I 10 0 (elt E P 25 m4.toNatClampNeg)).toInt = _; rw [← ho14]; omega) (by show (I 10 1 (elt E P 25 m4.toNatClampNeg)).toInt ≤ _; rw [← ho14]; omega) (fun k9 hk9 => by first | (cases hk9; done) | (show (I 10 1 (elt E P 25 k9)).toInt ≤ (I 10 1 (elt E P 25 m4.toNatClampNeg)).toInt; rw [← ho14, ← Option.some.inj hk9]; omega)) (congrArg some ho14)
                · show (some oq1) = none ∨ (∃ o9 : Nat, (some oq1) = some o9 ∧ (10, o9) ∈ dy)
                  exact Or.inr ⟨_, rfl, mq1⟩
              · have c22 : x21.toInt ≤ x20.toInt := tnlt rfl rfl c22
                refine lv_aload hx hb dX11_inForce_68 (lv_at hl 0 rfl) ?_
                refine lv_astore_n (lv' := [(3, .ref o14), (5, .ref o14), (4, .int m4), (0, .ref (g.2.2.1 12)), (1, .int a0), (2, .int a1)]) hx hb dX11_inForce_70 rfl hl (by decide) rfl (fun ls hl => ?_)
                obtain ⟨x24, e24⟩ : ∃ y : Int32, y = m4 + 1 := ⟨_, rfl⟩
                refine lv_iinc (v := x24) (lv' := [(4, .int x24), (3, .ref o14), (5, .ref o14), (0, .ref (g.2.2.1 12)), (1, .int a0), (2, .int a1)]) hx hb dX11_inForce_71 hl (k := 2) rfl (by rw [e24]; rfl) (by decide) rfl (fun ls hl => ?_)
                try have t24 : x24.toInt = m4.toInt + 1 := tadd e24 rfl kp1 (by omega)
                refine lv_goto (tgt := 5) hx hb dX11_inForce_74 (by decide) ?_
                refine ih x24 (some o14) H locs ls ?_ ?_ ?_ ?_ hW (lv_sub hl [0, 1, 3, 4, 5] rfl)
                · show ((J 25 2).toInt - x24.toInt).toNat < n
                  omega
                · show 0 ≤ x24.toInt ∧ x24.toInt ≤ (J 25 2).toInt
                  first | omega | exact hi | assumption
                · show ((some o14) = none ∧ INN (TPU I E P) (TFR I E P) x24.toInt a0.toInt a1.toInt) ∨ ∃ k : Nat, (some o14) = some (elt E P 25 k) ∧ INF (TPU I E P) (TFR I E P) x24.toInt a0.toInt a1.toInt k
                  first | exact if_skip (c := m4.toNatClampNeg) hin (by have h8 := tcl m4; omega) (by omega) (Or.inl (by show ¬ (I 10 0 (elt E P 25 m4.toNatClampNeg)).toInt = _; rw [← ho14]; omega)) | exact if_skip (c := m4.toNatClampNeg) hin (by have h8 := tcl m4; omega) (by omega) (Or.inr (Or.inl (by show _ < (I 10 1 (elt E P 25 m4.toNatClampNeg)).toInt; rw [← ho14]; omega))) | exact if_skip (c := m4.toNatClampNeg) hin (by have h8 := tcl m4; omega) (by omega) (Or.inr (Or.inr ⟨fun h => (by cases h), fun k9 hk9 => (by show (I 10 1 (elt E P 25 m4.toNatClampNeg)).toInt < (I 10 1 (elt E P 25 k9)).toInt; rw [← ho14, ← Option.some.inj hk9]; omega)⟩)) | exact if_take (c := m4.toNatClampNeg) hin (by have h8 := tcl m4; omega) (by omega) (by show (I 10 0 (elt E P 25 m4.toNatClampNeg)).toInt = _; rw [← ho14]; omega) (by show (I 10 1 (elt E P 25 m4.toNatClampNeg)).toInt ≤ _; rw [← ho14]; omega) (fun k9 hk9 => by first | (cases hk9; done) | (show (I 10 1 (elt E P 25 k9)).toInt ≤ (I 10 1 (elt E P 25 m4.toNatClampNeg)).toInt; rw [← ho14, ← Option.some.inj hk9]; omega)) (congrArg some ho14)
                · show (some o14) = none ∨ (∃ o9 : Nat, (some o14) = some o9 ∧ (10, o9) ∈ dy)
                  exact Or.inr ⟨_, rfl, hm14⟩
            · have c19 : a1.toInt < x18.toInt := tnle rfl rfl c19
              refine lv_goto (tgt := 71) hx hb dX11_inForce_49 (by decide) ?_
              obtain ⟨x25, e25⟩ : ∃ y : Int32, y = m4 + 1 := ⟨_, rfl⟩
              refine lv_iinc (v := x25) (lv' := [(4, .int x25), (5, .ref o14), (3, .ref oq1), (0, .ref (g.2.2.1 12)), (1, .int a0), (2, .int a1)]) hx hb dX11_inForce_71 hl (k := 1) rfl (by rw [e25]; rfl) (by decide) rfl (fun ls hl => ?_)
              try have t25 : x25.toInt = m4.toInt + 1 := tadd e25 rfl kp1 (by omega)
              refine lv_goto (tgt := 5) hx hb dX11_inForce_74 (by decide) ?_
              refine ih x25 (some oq1) H locs ls ?_ ?_ ?_ ?_ hW (lv_sub hl [0, 2, 3, 4, 5] rfl)
              · show ((J 25 2).toInt - x25.toInt).toNat < n
                omega
              · show 0 ≤ x25.toInt ∧ x25.toInt ≤ (J 25 2).toInt
                first | omega | exact hi | assumption
              · show ((some oq1) = none ∧ INN (TPU I E P) (TFR I E P) x25.toInt a0.toInt a1.toInt) ∨ ∃ k : Nat, (some oq1) = some (elt E P 25 k) ∧ INF (TPU I E P) (TFR I E P) x25.toInt a0.toInt a1.toInt k
                first | exact if_skip (c := m4.toNatClampNeg) hin (by have h8 := tcl m4; omega) (by omega) (Or.inl (by show ¬ (I 10 0 (elt E P 25 m4.toNatClampNeg)).toInt = _; rw [← ho14]; omega)) | exact if_skip (c := m4.toNatClampNeg) hin (by have h8 := tcl m4; omega) (by omega) (Or.inr (Or.inl (by show _ < (I 10 1 (elt E P 25 m4.toNatClampNeg)).toInt; rw [← ho14]; omega))) | exact if_skip (c := m4.toNatClampNeg) hin (by have h8 := tcl m4; omega) (by omega) (Or.inr (Or.inr ⟨fun h => (by cases h), fun k9 hk9 => (by show (I 10 1 (elt E P 25 m4.toNatClampNeg)).toInt < (I 10 1 (elt E P 25 k9)).toInt; rw [← ho14, ← Option.some.inj hk9]; omega)⟩)) | exact if_take (c := m4.toNatClampNeg) hin (by have h8 := tcl m4; omega) (by omega) (by show (I 10 0 (elt E P 25 m4.toNatClampNeg)).toInt = _; rw [← ho14]; omega) (by show (I 10 1 (elt E P 25 m4.toNatClampNeg)).toInt ≤ _; rw [← ho14]; omega) (fun k9 hk9 => by first | (cases hk9; done) | (show (I 10 1 (elt E P 25 k9)).toInt ≤ (I 10 1 (elt E P 25 m4.toNatClampNeg)).toInt; rw [← ho14, ← Option.some.inj hk9]; omega)) (congrArg some ho14)
              · show (some oq1) = none ∨ (∃ o9 : Nat, (some oq1) = some o9 ∧ (10, o9) ∈ dy)
                exact Or.inr ⟨_, rfl, mq1⟩
  -- into the loop
  refine loop5 (((J 25 2).toInt - (0 : Int32).toInt).toNat + 1) 0 (none : Option Nat) H locs ls ?_ ?_ ?_ ?_ hW (lv_sub hl [0, 1, 2, 3, 4] rfl)
  · exact Nat.lt_succ_self _
  · show 0 ≤ (0 : Int32).toInt ∧ (0 : Int32).toInt ≤ (J 25 2).toInt
    try rw [kp0]
    first | omega | exact hi | assumption
  · show ((none : Option Nat) = none ∧ INN (TPU I E P) (TFR I E P) (0 : Int32).toInt a0.toInt a1.toInt) ∨ ∃ k : Nat, (none : Option Nat) = some (elt E P 25 k) ∧ INF (TPU I E P) (TFR I E P) (0 : Int32).toInt a0.toInt a1.toInt k
    try rw [kp0]
    exact Or.inl ⟨rfl, inn_0 kp0⟩
  · show (none : Option Nat) = none ∨ (∃ o9 : Nat, (none : Option Nat) = some o9 ∧ (10, o9) ∈ dy)
    try rw [kp0]
    exact Or.inl rfl

set_option maxHeartbeats 4000000 in
set_option maxRecDepth 100000 in
theorem c_X11_mayBreak_e (l : Launch) (g : gG) (J : Nat → Nat → Int32) (L : Nat → Nat → Int64) (I : Nat → Nat → Nat → Int32) (P : Nat → Nat → Nat → Option Nat) (E : Nat → Option Nat) (N : Nat → Nat) (dy : List (Nat × Nat)) (sz : Nat) (a0 : Nat) (hm0 : (7, a0) ∈ dy) (hwf : WXF g J P E N dy) (hnw : 0 ≤ (J 3 1).toInt) (hcdb : CDB I P E N (J 25 2).toInt) : Met l yX11_mayBreak (WS yX11_mayBreak cX11_mayBreak 3 (some .boolean)) (RM (5) 0 0) (PC g [.ref (g.2.2.1 12), .ref a0] ((J, L, I, P, E, N), sgX g ++ dy) sz) (va_Qi (fun (r : Int32) (u : (Nat → Nat → Int32)) => ((r.toInt = 1 ∧ MBK I P E N (J 25 2).toInt (J 3 1).toInt (hrw (J 3 1).toInt) (I 7 0 a0) (J 4 4) (J 22 2)) ∨ (r.toInt = 0 ∧ ¬ MBK I P E N (J 25 2).toInt (J 3 1).toInt (hrw (J 3 1).toInt) (I 7 0 a0) (J 4 4) (J 22 2)))) (fun u t => at_ g (FR g ((J, L, I, P, E, N), sgX g ++ dy) sz) (((hv J [45] [(8, 1), (8, 2), (8, 3), (8, 4), (8, 5), (8, 6), (8, 7), (8, 8), (8, 9)] u), L, I, P, E, N), sgX g ++ dy) t) (FR g ((J, L, I, P, E, N), sgX g ++ dy) sz)) 0 0 (FR g ((J, L, I, P, E, N), sgX g ++ dy) sz) := by
  refine ent (by decide +kernel) (Nat.le_of_ble_eq_true rfl) ?_
  intro p e s m below meth c ls hsz C hW hr hlocks hname hl
  generalize FR g ((J, L, I, P, E, N), sgX g ++ dy) sz = A at C hW ⊢
  have hx := C.1.1
  have hb := C.1.2.1
  have hts := C.1.2.2.2.2
  have hl : lv_has ls 3 [(0, .ref (g.2.2.1 12)), (1, .ref a0)] := hl
  obtain ⟨H, hH⟩ : ∃ H : Heap, H = s.heap := ⟨_, rfl⟩
  obtain ⟨locs, hlocs⟩ : ∃ q : List Loc, q = [] := ⟨_, rfl⟩
  have hW : WB g A s.heap H locs (J, L, I, P, E, N) (sgX g ++ dy) := by rw [hH, hlocs]; exact hW
  refine start_ hH hlocs ?_
  refine lv_aload_n hx hb dX11_mayBreak_0 rfl (lv_at hl 0 rfl) ?_
  refine lv_iconst (v := 3) hx hb dX11_mayBreak_1 (by decide) ?_
  refine lv_aload_n hx hb dX11_mayBreak_2 rfl (lv_at hl 0 rfl) ?_
  refine rg_12_1 C hW (mx_ rfl) tw_365 dX11_mayBreak_3 ?_
  refine rg_3_1 C hW (mx_ rfl) tw_278 dX11_mayBreak_6 ?_
  refine cq_ C hW (runV (x := (g.2.2.1 12)) (As := [.int 3, .int (J 3 1)]) (rest := []) (T := ((J, L, I, P, E, N), sgX g ++ dy)) C hW (c_X11_inForce_e l g J L I P E N dy H.size 3 (J 3 1) hwf) mi_X11_inForce tw_658 (recv_ (T := ((J, L, I, P, E, N), sgX g ++ dy)) C hW (mx_ rfl) rfl rfl) ⟨rfl, rfl, Nat.le_of_ble_eq_true rfl, Nat.le_of_ble_eq_true rfl⟩ rfl hl.1 rfl (Nat.le_of_ble_eq_true rfl) dX11_mayBreak_9 ⟨Nat.le_of_ble_eq_true rfl, Nat.le_of_ble_eq_true rfl⟩) (fun q1 u1 H locs hp1 hW => ?_)
  have hq1 : ((q1 = none ∧ (INN (TPU I E P) (TFR I E P) (J 25 2).toInt 3 (J 3 1).toInt)) ∨ (∃ o9 : Nat, q1 = some o9 ∧ (10, o9) ∈ dy ∧ (∃ k : Nat, o9 = elt E P 25 k ∧ INF (TPU I E P) (TFR I E P) (J 25 2).toInt 3 (J 3 1).toInt k))) := hp1
  clear hp1
  have hW : WB g A s.heap H locs (J, L, I, P, E, N) (sgX g ++ dy) := hW
  rcases hq1 with ⟨ho1, hn1⟩ | ⟨o1, ho1, hm1, hs1⟩ <;> subst ho1
  · refine lv_asv (v' := .null) rfl ?_
    refine lv_astore_nN (lv' := [(2, .null), (0, .ref (g.2.2.1 12)), (1, .ref a0)]) hx hb dX11_mayBreak_12 rfl hl (by decide) rfl (fun ls hl => ?_)
    refine lv_aload_nN hx hb dX11_mayBreak_13 rfl (lv_at hl 0 rfl) ?_
    refine lv_ifnonnullN hx hb dX11_mayBreak_14 ?_
    refine lv_iconst (v := 1) hx hb dX11_mayBreak_17 (by decide) ?_
    have hWr : WB g A s.heap H locs ((hv J [45] [(8, 1), (8, 2), (8, 3), (8, 4), (8, 5), (8, 6), (8, 7), (8, 8), (8, 9)] J), L, I, P, E, N) (sgX g ++ dy) := by
      rw [← ag_hvE (J := J) (R := [45]) (F := [(8, 1), (8, 2), (8, 3), (8, 4), (8, 5), (8, 6), (8, 7), (8, 8), (8, 9)]) ag_rf]
      exact hW
    exact end_z C hr hlocks (by decide) J hWr (by first | exact Or.inl ⟨by decide, show MBK I P E N (J 25 2).toInt (J 3 1).toInt (hrw (J 3 1).toInt) (I 7 0 a0) (J 4 4) (J 22 2) from by exact Or.inl hn1⟩) dX11_mayBreak_18
  · refine lv_asv (v' := .ref o1) rfl ?_
    refine lv_astore_n (lv' := [(2, .ref o1), (0, .ref (g.2.2.1 12)), (1, .ref a0)]) hx hb dX11_mayBreak_12 rfl hl (by decide) rfl (fun ls hl => ?_)
    refine lv_aload_n hx hb dX11_mayBreak_13 rfl (lv_at hl 0 rfl) ?_
    refine lv_ifnonnull (tgt := 19) hx hb dX11_mayBreak_14 (by decide) ?_
    refine lv_aload_n hx hb dX11_mayBreak_19 rfl (lv_at hl 1 rfl) ?_
    refine rg_12_6 C hW (mx_ rfl) tw_370 dX11_mayBreak_20 ?_
    refine lv_iconst (v := 2) hx hb dX11_mayBreak_23 (by decide) ?_
    refine rp_8_2 C hW (mx_ rfl) tw_328 dX11_mayBreak_24 (fun H locs hW => ?_)
    refine lv_aload_n hx hb dX11_mayBreak_27 rfl (lv_at hl 1 rfl) ?_
    refine rg_12_6 C hW (mx_ rfl) tw_370 dX11_mayBreak_28 ?_
    refine lv_aload_n hx hb dX11_mayBreak_31 rfl (lv_at hl 1 rfl) ?_
    refine rg_12_1 C hW (mx_ rfl) tw_365 dX11_mayBreak_32 ?_
    refine rg_3_1 C hW (mx_ rfl) tw_278 dX11_mayBreak_35 ?_
    refine lv_as (J 3 1) rfl ?_
    refine ci_ C hW (runS (As := [.int (J 3 1)]) (rest := [.ref (g.2.2.1 8)]) (T := (((up2 J 8 2 2), L, I, P, E, N), sgX g ++ dy)) C hW (c_X11_hourOf_e l g (up2 J 8 2 2) L I P E N dy H.size (J 3 1) (show 0 ≤ (J 3 1).toInt from by omega)) mi_X11_hourOf tw_663 ⟨rfl, rfl, Nat.le_of_ble_eq_true rfl, Nat.le_of_ble_eq_true rfl⟩ rfl hl.1 rfl (Nat.le_of_ble_eq_true rfl) dX11_mayBreak_38 ⟨Nat.le_of_ble_eq_true rfl, Nat.le_of_ble_eq_true rfl⟩) (fun r2 u2 H locs hp2 hW => ?_)
    have hc2 : ((r2 = hrw (J 3 1).toInt)) := hp2
    clear hp2
    have hr2 : r2 = hrw (J 3 1).toInt := hc2
    refine lv_as (hrw (J 3 1).toInt) hr2 ?_
    have hW : WB g A s.heap H locs ((up2 J 8 2 2), L, I, P, E, N) (sgX g ++ dy) := hW
    refine rp_8_3 C hW (mx_ rfl) tw_330 dX11_mayBreak_41 (fun H locs hW => ?_)
    refine lv_aload_n hx hb dX11_mayBreak_44 rfl (lv_at hl 1 rfl) ?_
    refine rg_12_6 C hW (mx_ rfl) tw_370 dX11_mayBreak_45 ?_
    refine lv_aload_n hx hb dX11_mayBreak_48 rfl (lv_at hl 2 rfl) ?_
    refine rg_7_0 C hW (List.mem_append_right _ hm0) tw_596 dX11_mayBreak_49 ?_
    refine lv_topi (fun x3 (e3 : x3 = I 7 0 a0) => ?_)
    have t3 : x3.toInt = (I 7 0 a0).toInt := by rw [e3]
    refine rp_8_4 C hW (mx_ rfl) tw_332 dX11_mayBreak_52 (fun H locs hW => ?_)
    refine lv_aload_n hx hb dX11_mayBreak_55 rfl (lv_at hl 1 rfl) ?_
    refine rg_12_6 C hW (mx_ rfl) tw_370 dX11_mayBreak_56 ?_
    refine lv_iconst (v := 0) hx hb dX11_mayBreak_59 (by decide) ?_
    refine rp_8_5 C hW (mx_ rfl) tw_334 dX11_mayBreak_60 (fun H locs hW => ?_)
    refine lv_aload_n hx hb dX11_mayBreak_63 rfl (lv_at hl 1 rfl) ?_
    refine rg_12_6 C hW (mx_ rfl) tw_370 dX11_mayBreak_64 ?_
    refine lv_iconst (v := 0) hx hb dX11_mayBreak_67 (by decide) ?_
    refine rp_8_6 C hW (mx_ rfl) tw_336 dX11_mayBreak_68 (fun H locs hW => ?_)
    refine lv_aload_n hx hb dX11_mayBreak_71 rfl (lv_at hl 1 rfl) ?_
    refine rg_12_6 C hW (mx_ rfl) tw_370 dX11_mayBreak_72 ?_
    refine lv_aload_n hx hb dX11_mayBreak_75 rfl (lv_at hl 1 rfl) ?_
    refine rg_12_0 C hW (mx_ rfl) tw_364 dX11_mayBreak_76 ?_
    refine rg_4_4 C hW (mx_ rfl) tw_240 dX11_mayBreak_79 ?_
    refine lv_as (J 4 4) rfl ?_
    refine rp_8_7 C hW (mx_ rfl) tw_338 dX11_mayBreak_82 (fun H locs hW => ?_)
    refine lv_aload_n hx hb dX11_mayBreak_85 rfl (lv_at hl 1 rfl) ?_
    refine rg_12_6 C hW (mx_ rfl) tw_370 dX11_mayBreak_86 ?_
    refine lv_iconst (v := 0) hx hb dX11_mayBreak_89 (by decide) ?_
    refine rp_8_8 C hW (mx_ rfl) tw_340 dX11_mayBreak_90 (fun H locs hW => ?_)
    refine lv_aload_n hx hb dX11_mayBreak_93 rfl (lv_at hl 1 rfl) ?_
    refine rg_12_6 C hW (mx_ rfl) tw_370 dX11_mayBreak_94 ?_
    refine lv_aload_n hx hb dX11_mayBreak_97 rfl (lv_at hl 1 rfl) ?_
    refine rg_12_0 C hW (mx_ rfl) tw_364 dX11_mayBreak_98 ?_
    refine rg_4_2 C hW (mx_ rfl) tw_237 dX11_mayBreak_101 ?_
    refine ci_ C hW (runV (x := (g.2.2.1 22)) (As := []) (rest := [.ref (g.2.2.1 8)]) (T := (((up2 (up2 (up2 (up2 (up2 (up2 (up2 J 8 2 2) 8 3 (hrw (J 3 1).toInt)) 8 4 x3) 8 5 0) 8 6 0) 8 7 (J 4 4)) 8 8 0), L, I, P, E, N), sgX g ++ dy)) C hW (c_Jx4a65c_size_8abf5 l g (up2 (up2 (up2 (up2 (up2 (up2 (up2 J 8 2 2) 8 3 (hrw (J 3 1).toInt)) 8 4 x3) 8 5 0) 8 6 0) 8 7 (J 4 4)) 8 8 0) L I P E N dy H.size 22 rfl ) mi_Jx4a65c_size_8abf5 tw_485 (recv_ (T := (((up2 (up2 (up2 (up2 (up2 (up2 (up2 J 8 2 2) 8 3 (hrw (J 3 1).toInt)) 8 4 x3) 8 5 0) 8 6 0) 8 7 (J 4 4)) 8 8 0), L, I, P, E, N), sgX g ++ dy)) C hW (mx_ rfl) (cel_list rfl) rfl) ⟨rfl, rfl, Nat.le_of_ble_eq_true rfl, Nat.le_of_ble_eq_true rfl⟩ rfl hl.1 rfl (Nat.le_of_ble_eq_true rfl) dX11_mayBreak_104 ⟨Nat.le_of_ble_eq_true rfl, Nat.le_of_ble_eq_true rfl⟩) (fun r4 u4 H locs hp4 hW => ?_)
    have hc4 : ((r4 = J 22 2)) := hp4
    clear hp4
    have hr4 : r4 = J 22 2 := hc4
    refine lv_as (J 22 2) hr4 ?_
    have hW : WB g A s.heap H locs ((up2 (up2 (up2 (up2 (up2 (up2 (up2 J 8 2 2) 8 3 (hrw (J 3 1).toInt)) 8 4 x3) 8 5 0) 8 6 0) 8 7 (J 4 4)) 8 8 0), L, I, P, E, N) (sgX g ++ dy) := hW
    refine rp_8_9 C hW (mx_ rfl) tw_342 dX11_mayBreak_107 (fun H locs hW => ?_)
    refine lv_aload_n hx hb dX11_mayBreak_110 rfl (lv_at hl 1 rfl) ?_
    refine rg_12_6 C hW (mx_ rfl) tw_370 dX11_mayBreak_111 ?_
    refine lv_aload_n hx hb dX11_mayBreak_114 rfl (lv_at hl 0 rfl) ?_
    refine rg_10_2 C hW (List.mem_append_right _ hm1) tw_805 dX11_mayBreak_115 ?_
    obtain ⟨b5, hb5, hbm5⟩ := hwf.2.2.2.2.2 o1 hm1
    obtain ⟨hbm5, hbn5⟩ := hbm5
    refine lv_asv (v' := .ref b5) (by show va_rf (P 10 2 o1) = _; rw [hb5]; rfl) ?_
    refine ci_ C hW (runV (x := (g.2.2.1 8)) (As := [.ref b5]) (rest := []) (T := (((up2 (up2 (up2 (up2 (up2 (up2 (up2 (up2 J 8 2 2) 8 3 (hrw (J 3 1).toInt)) 8 4 x3) 8 5 0) 8 6 0) 8 7 (J 4 4)) 8 8 0) 8 9 (J 22 2)), L, I, P, E, N), sgX g ++ dy)) C hW (c_X7_weigh_e l g (up2 (up2 (up2 (up2 (up2 (up2 (up2 (up2 J 8 2 2) 8 3 (hrw (J 3 1).toInt)) 8 4 x3) 8 5 0) 8 6 0) 8 7 (J 4 4)) 8 8 0) 8 9 (J 22 2)) L I P E N dy H.size b5 hbm5 (show N b5 ≤ 60 from by omega) (show ∀ i : Nat, i < N b5 → -200 ≤ (I 46 i b5).toInt from cdb_at hcdb hs1 hb5)) mi_X7_weigh tw_666 (recv_ (T := (((up2 (up2 (up2 (up2 (up2 (up2 (up2 (up2 J 8 2 2) 8 3 (hrw (J 3 1).toInt)) 8 4 x3) 8 5 0) 8 6 0) 8 7 (J 4 4)) 8 8 0) 8 9 (J 22 2)), L, I, P, E, N), sgX g ++ dy)) C hW (mx_ rfl) rfl rfl) ⟨rfl, rfl, Nat.le_of_ble_eq_true rfl, Nat.le_of_ble_eq_true rfl⟩ rfl hl.1 rfl (Nat.le_of_ble_eq_true rfl) dX11_mayBreak_118 ⟨Nat.le_of_ble_eq_true rfl, Nat.le_of_ble_eq_true rfl⟩) (fun r6 u6 H locs hp6 hW => ?_)
    have hf6_0 : (r6 = WGH (SCL ((2 : Int32)) (hrw (J 3 1).toInt) (x3) ((0 : Int32)) ((0 : Int32)) (J 4 4) ((0 : Int32)) (J 22 2)) (cs (fun i => I 46 i b5) 0 (N b5))) := hp6
    clear hp6
    have hW : WB g A s.heap H locs ((hv (up2 (up2 (up2 (up2 (up2 (up2 (up2 (up2 J 8 2 2) 8 3 (hrw (J 3 1).toInt)) 8 4 x3) 8 5 0) 8 6 0) 8 7 (J 4 4)) 8 8 0) 8 9 (J 22 2)) [45] [(8, 1)] u6), L, I, P, E, N) (sgX g ++ dy) := hW
    have hWG := hf6_0
    refine lv_if_le (tgt := 128) hx hb dX11_mayBreak_121 (by decide) (fun c7 => ?_) (fun c7 => ?_)
    · have c7 : r6.toInt ≤ 0 := tle rfl kp0 c7
      refine lv_iconst (v := 0) hx hb dX11_mayBreak_128 (by decide) ?_
      have hWr : WB g A s.heap H locs ((hv J [45] [(8, 1), (8, 2), (8, 3), (8, 4), (8, 5), (8, 6), (8, 7), (8, 8), (8, 9)] (hv (up2 (up2 (up2 (up2 (up2 (up2 (up2 (up2 J 8 2 2) 8 3 (hrw (J 3 1).toInt)) 8 4 x3) 8 5 0) 8 6 0) 8 7 (J 4 4)) 8 8 0) 8 9 (J 22 2)) [45] [(8, 1)] u6)), L, I, P, E, N) (sgX g ++ dy) := by
        rw [← ag_hvE (J := J) (R := [45]) (F := [(8, 1), (8, 2), (8, 3), (8, 4), (8, 5), (8, 6), (8, 7), (8, 8), (8, 9)]) (ag_hv rfl rfl (ag_up (Or.inr rfl) (ag_up (Or.inr rfl) (ag_up (Or.inr rfl) (ag_up (Or.inr rfl) (ag_up (Or.inr rfl) (ag_up (Or.inr rfl) (ag_up (Or.inr rfl) (ag_up (Or.inr rfl) ag_rf)))))))))]
        exact hW
      exact end_z C hr hlocks (by decide) (hv (up2 (up2 (up2 (up2 (up2 (up2 (up2 (up2 J 8 2 2) 8 3 (hrw (J 3 1).toInt)) 8 4 x3) 8 5 0) 8 6 0) 8 7 (J 4 4)) 8 8 0) 8 9 (J 22 2)) [45] [(8, 1)] u6) hWr (by first | exact Or.inr (⟨by decide, show ¬ MBK I P E N (J 25 2).toInt (J 3 1).toInt (hrw (J 3 1).toInt) (I 7 0 a0) (J 4 4) (J 22 2) from by rw [e3] at hWG; exact mb_n hs1 (by assumption) hWG (by omega)⟩)) dX11_mayBreak_129
    · have c7 : 0 < r6.toInt := tnle rfl kp0 c7
      refine lv_iconst (v := 1) hx hb dX11_mayBreak_124 (by decide) ?_
      refine lv_goto (tgt := 129) hx hb dX11_mayBreak_125 (by decide) ?_
      have hWr : WB g A s.heap H locs ((hv J [45] [(8, 1), (8, 2), (8, 3), (8, 4), (8, 5), (8, 6), (8, 7), (8, 8), (8, 9)] (hv (up2 (up2 (up2 (up2 (up2 (up2 (up2 (up2 J 8 2 2) 8 3 (hrw (J 3 1).toInt)) 8 4 x3) 8 5 0) 8 6 0) 8 7 (J 4 4)) 8 8 0) 8 9 (J 22 2)) [45] [(8, 1)] u6)), L, I, P, E, N) (sgX g ++ dy) := by
        rw [← ag_hvE (J := J) (R := [45]) (F := [(8, 1), (8, 2), (8, 3), (8, 4), (8, 5), (8, 6), (8, 7), (8, 8), (8, 9)]) (ag_hv rfl rfl (ag_up (Or.inr rfl) (ag_up (Or.inr rfl) (ag_up (Or.inr rfl) (ag_up (Or.inr rfl) (ag_up (Or.inr rfl) (ag_up (Or.inr rfl) (ag_up (Or.inr rfl) (ag_up (Or.inr rfl) ag_rf)))))))))]
        exact hW
      exact end_z C hr hlocks (by decide) (hv (up2 (up2 (up2 (up2 (up2 (up2 (up2 (up2 J 8 2 2) 8 3 (hrw (J 3 1).toInt)) 8 4 x3) 8 5 0) 8 6 0) 8 7 (J 4 4)) 8 8 0) 8 9 (J 22 2)) [45] [(8, 1)] u6) hWr (by first | exact Or.inl ⟨by decide, show MBK I P E N (J 25 2).toInt (J 3 1).toInt (hrw (J 3 1).toInt) (I 7 0 a0) (J 4 4) (J 22 2) from by rw [e3] at hWG; exact mb_y hs1 (by assumption) hWG (by omega)⟩) dX11_mayBreak_129
