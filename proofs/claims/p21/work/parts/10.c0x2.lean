/-- what a purpose is worth over minutes -/
def SUMS (V : Int → Int32 → Prop) (a : Int) : Nat → Int → Prop
  | 0, v => v = 0
  | n + 1, v => ∃ (w : Int) (r : Int32), SUMS V a n w ∧ V (a + (n : Int)) r ∧ v = w + r.toInt
section SUMZ
variable {V V' : Int → Int32 → Prop} {a m m' x : Int} {n : Nat} {v w : Int} {r : Int32}
theorem sums_n (h : SUMS V a n w) (h2 : V (a + (n : Int)) r) (e : v = w + r.toInt) : SUMS V a (n + 1) v := ⟨w, r, h, h2, e⟩
theorem sums_app (h : SUMS V a n v) : ∀ (k : Nat) (w : Int), SUMS V (a + (n : Int)) k w → SUMS V a (n + k) (v + w)
  | 0, w, h2 => by
    have e : w = 0 := h2
    subst e; rw [Int.add_zero]; exact h
  | k + 1, w, h2 => by
    obtain ⟨w1, r, h3, h4, e⟩ := h2
    have e2 : a + (n : Int) + (k : Int) = a + ((n + k : Nat) : Int) := by omega
    rw [e2] at h4
    exact sums_n (sums_app h k w1 h3) h4 (by omega)
theorem sums_s (h : SUMS V a (m - a).toNat v) (ha : a ≤ m) (hm : m' = m + 1) (hV : V m r) : SUMS V a (m' - a).toNat (v + r.toInt) := by
  have e : (m' - a).toNat = (m - a).toNat + 1 := by omega
  have e2 : a + ((m - a).toNat : Int) = m := by omega
  rw [e]
  exact sums_n h (by rw [e2]; exact hV) rfl
theorem sums_j (h : SUMS V a (m - a).toNat v) (ha : a ≤ m) (hm : m ≤ x + 1) (e : m' = x + 1) (h2 : SUMS V m (x + 1 - m).toNat w) : SUMS V a (m' - a).toNat (v + w) := by
  subst e
  have e1 : (x + 1 - a).toNat = (m - a).toNat + (x + 1 - m).toNat := by omega
  have e2 : a + ((m - a).toNat : Int) = m := by omega
  rw [e1]
  exact sums_app h _ _ (by rw [e2]; exact h2)
theorem sums_c : ∀ n : Nat, (∀ i : Nat, i < n → V (a + (i : Int)) r) → SUMS V a n ((n : Int) * r.toInt)
  | 0, _ => by
    show ((0 : Nat) : Int) * r.toInt = 0
    rw [Int.natCast_zero, Int.zero_mul]
  | n + 1, h => sums_n (sums_c n (fun i hi => h i (by omega))) (h n (by omega)) (by rw [Int.natCast_add, Int.add_mul]; show _ + 1 * r.toInt = _; rw [Int.one_mul])
theorem sums_0 (h : ∀ i : Nat, i < n → V (a + (i : Int)) 0) : SUMS V a n 0 := by
  have h1 := sums_c n h
  rw [show (0 : Int32).toInt = 0 by decide, Int.mul_zero] at h1; exact h1
theorem sums_congr : ∀ (n : Nat) (v : Int), (∀ i : Nat, i < n → ∀ r, V (a + (i : Int)) r → V' (a + (i : Int)) r) → SUMS V a n v → SUMS V' a n v
  | 0, _, _, h2 => h2
  | n + 1, v, h, h2 => by
    obtain ⟨w, r, h3, h4, e⟩ := h2
    exact sums_n (sums_congr n w (fun i hi => h i (by omega)) h3) (h n (by omega) r h4) e
theorem sums_det : ∀ (n : Nat) (v w : Int), (∀ i : Nat, i < n → ∀ r r', V (a + (i : Int)) r → V' (a + (i : Int)) r' → r = r') → SUMS V a n v → SUMS V' a n w → v = w
  | 0, v, w, _, h1, h2 => by
    have e1 : v = 0 := h1
    have e2 : w = 0 := h2
    rw [e1, e2]
  | n + 1, v, w, hd, h1, h2 => by
    obtain ⟨v1, r, h3, h4, e⟩ := h1
    obtain ⟨w1, r', h5, h6, e'⟩ := h2
    have q1 := sums_det n v1 w1 (fun i hi => hd i (by omega)) h3 h5
    have q2 := hd n (by omega) r r' h4 h6
    rw [e, e', q1, q2]
end SUMZ
section ZS
variable {m z za zb z1 z0 : Int64} {v v1 v0 w1 w0 : Int} {x y r r1 r0 : Int32} {n : Nat}
theorem z_mul (e : z = x.toInt64 * y.toInt64) (hn : (n : Int) = y.toInt) : z = Int64.ofInt ((n : Int) * x.toInt) := by
  rw [e, hn, Int64.ofInt_mul, Int64.ofInt_int32ToInt, Int64.ofInt_int32ToInt, Int64.mul_comm]
theorem z_add (h : m = Int64.ofInt v) (e : z = m + r.toInt64) : z = Int64.ofInt (v + r.toInt) := by
  rw [e, h, Int64.ofInt_add, Int64.ofInt_int32ToInt]
theorem z_acc (h : m = Int64.ofInt (v1 - v0)) (h1 : z1 = Int64.ofInt w1) (h0 : z0 = Int64.ofInt w0) (ea : za = z1 - z0) (eb : zb = m + za) : zb = Int64.ofInt (v1 + w1 - (v0 + w0)) := by
  rw [eb, ea, h, h1, h0, ← Int64.ofInt_sub, ← Int64.ofInt_add]; congr 1; omega
theorem z_stp (h : m = Int64.ofInt (v1 - v0)) (ea : za = m + r1.toInt64) (eb : zb = za - r0.toInt64) : zb = Int64.ofInt (v1 + r1.toInt - (v0 + r0.toInt)) := by
  rw [eb, ea, h, ← Int64.ofInt_int32ToInt, ← Int64.ofInt_int32ToInt, ← Int64.ofInt_add, ← Int64.ofInt_sub]; congr 1; omega
theorem z_skp (h : m = Int64.ofInt (v1 - v0)) : m = Int64.ofInt (v1 + (0 : Int32).toInt - (v0 + (0 : Int32).toInt)) := by
  have e : (0 : Int32).toInt = 0 := by decide
  rw [h, e]; congr 1; omega
end ZS
section SHIFT
variable {pu fr : Nat → Int} {n p m j f : Int} {k : Nat}
theorem inn_sh (h : INN pu fr n p m) (hu : ∀ k : Nat, (k : Int) < n → ¬ (m < fr k ∧ fr k ≤ j)) : INN pu fr n p j := fun i hi q1 q2 => h i hi q1 (by have := hu i hi; omega)
theorem inf_sh (h : INF pu fr n p m k) (hj : m ≤ j) (hu : ∀ k : Nat, (k : Int) < n → ¬ (m < fr k ∧ fr k ≤ j)) : INF pu fr n p j k := ⟨h.1, h.2.1, by have := h.2.2.1; omega, fun i hi q1 q2 => h.2.2.2 i hi q1 (by have := hu i hi; omega)⟩
theorem ifi_sh (h : IFI f pu fr n p m) (hj : m ≤ j) (hu : ∀ k : Nat, (k : Int) < n → ¬ (m < fr k ∧ fr k ≤ j)) : IFI f pu fr n p j := h.imp (fun q => ⟨q.1, inn_sh q.2 hu⟩) (fun ⟨k, q1, q2⟩ => ⟨k, q1, inf_sh q2 hj hu⟩)
theorem ifi_n (h : IFI f pu fr n p m) (h0 : f < 0) : INN pu fr n p m := h.elim (fun q => q.2) (fun ⟨k, q, _⟩ => by omega)
end SHIFT
theorem hrw_c {x y : Int} (h : x / 60 = y / 60) : hrw x = hrw y := by unfold hrw; rw [h]
theorem scl_a {k h v s m w a a' n : Int32} {c : Int} (hc : isl c) (h1 : ¬ c = 97) : SCL k h v s m w a n c = SCL k h v s m w a' n c := by
  rcases hc with e | e | e | e | e | e | e | e <;> subst e <;> first | rfl | omega
theorem tly_6 {q q' : (Nat → Int32) → Prop} {kd : Int32} {hf hf' : (Nat → Int32) → Nat → Int} {nh nh' : Nat} {s m : Int32} (h6 : kd.toInt = 6) (h : TLY q kd hf nh s m) : TLY q' kd hf' nh' s m := ⟨h.1, fun y => absurd h6 y⟩
section ACL
variable {I I' : Nat → Nat → Nat → Int32} {E E' : Nat → Option Nat} {P P' : Nat → Nat → Nat → Option Nat} {N N' : Nat → Nat} {n n' p m j now lst : Int} {o b k : Nat} {r kd vo wt hm h h' ag ag' f rd ov : Int32} {T T' : Int32 → Int32 → Prop} {K R V O Tw sz pu fr x : Nat → Int32} {dy : List (Nat × Nat)} {L : Int32 → Int32 → Int → Int32}
/-- a term that doesn't ask for the age is worth the same while nothing else changes -/
theorem wif_j (hk : ∃ k : Nat, o = elt E P 25 k ∧ INF (TPU I E P) (TFR I E P) n p m k) (hb : P 10 2 o = some b) (hK : ASK I P E N n) (ha : (I 10 4 o).toInt = 0) (hv : ∀ b : Nat, P 10 2 o = some b → ∃ s m' : Int32, r = WGH (SCL kd h vo s m' wt ag hm) (cs (fun i => I 46 i b) 0 (N b)) ∧ (¬ (I 10 3 o).toInt = 0 → T s m')) (hT : ∀ s m', T s m' → T' s m') (hj : m ≤ j) (hu : ∀ k : Nat, (k : Int) < n → ¬ (m < TFR I E P k ∧ TFR I E P k ≤ j)) (eh : h = h') : WIF I P E N n p j (fun s m9 => SCL kd h' vo s m9 wt ag' hm) T' r := by
  obtain ⟨k, ho, hi⟩ := hk
  obtain ⟨s, m', e, ht⟩ := hv b hb
  subst eh
  refine Or.inr ⟨k, inf_sh hi hj hu, s, m', ?_, fun q => hT _ _ (ht (by rw [ho]; exact q))⟩
  rw [e, ← cd_eq ho hb]
  refine wgh_congr (fun c hc hl => ?_)
  have h4 := (hK k hi.1).2 (by rw [← ho]; exact ha) c hc
  exact scl_a hl (by omega)
theorem wif_s (hk : ∃ k : Nat, o = elt E P 25 k ∧ INF (TPU I E P) (TFR I E P) n p m k) (hb : P 10 2 o = some b) (hv : ∀ b : Nat, P 10 2 o = some b → ∃ s m' : Int32, r = WGH (L s m') (cs (fun i => I 46 i b) 0 (N b)) ∧ (¬ (I 10 3 o).toInt = 0 → T s m')) (hj : m ≤ j) (hu : ∀ k : Nat, (k : Int) < n → ¬ (m < TFR I E P k ∧ TFR I E P k ≤ j)) : WIF I P E N n p j L T r := by
  obtain ⟨k, q1, q2⟩ := hk
  exact Or.inr (wi_some ⟨k, q1, inf_sh q2 hj hu⟩ hb hv)
theorem wif_t {x nw : Int32} (h9 : WIF I P E N n p x.toInt (fun s m9 => SCL kd h vo s m9 wt (nw - x) hm) T r) : WIF I P E N n p x.toInt (fun s m9 => SCL kd h vo s m9 wt (nw - Int32.ofInt x.toInt) hm) T r := by
  rw [Int32.ofInt_toInt]; exact h9
theorem wif_n (h : INN (TPU I E P) (TFR I E P) n p m) (hp : ¬ p = 2) (hu : ∀ k : Nat, (k : Int) < n → ¬ (m < TFR I E P k ∧ TFR I E P k ≤ j)) : WIF I P E N n p j L T 0 := Or.inl ⟨inn_sh h hu, Or.inl ⟨hp, by decide⟩⟩
theorem wif_0 (hT : TMR I P E N n sz pu fr x) (hn : n' = n) (hC : WIF I P E N n p m L T r) (hN : INN (MJ pu) (MJ fr) n' p m) (hp : ¬ p = 2) : r.toInt = 0 := by
  subst hn
  rcases hC with ⟨-, h2⟩ | ⟨k, h1, -⟩
  · exact h2.elim (fun q => q.2) (fun q => absurd q.1 hp)
  · exact (inf_inn h1 (inn_congr rfl (fun j hj => ⟨(hT j hj).1, (hT j hj).2.1⟩) hN)).elim
theorem spo_j (hs : SPO I o now K R V O Tw) (h1 : (I 9 0 o).toInt ≤ j) (h2 : j ≤ (I 9 1 o).toInt) : I 9 2 o = K j.toNat ∧ I 9 5 o = V j.toNat ∧ I 9 3 o = Tw j.toNat := by
  obtain ⟨q0, -, -, q⟩ := hs
  obtain ⟨a, -, c, -, e⟩ := q j.toNat (by omega) (by omega)
  exact ⟨a, c, e⟩
/-- only minutes in which nothing was said go by together -/
def SPK (I : Nat → Nat → Nat → Int32) (E : Nat → Option Nat) (P : Nat → Nat → Nat → Option Nat) (n : Int) : Prop := ∀ k : Nat, (k : Int) < n → (I 9 2 (elt E P 27 k)).toInt = 6 ∨ (I 9 1 (elt E P 27 k)).toInt = (I 9 0 (elt E P 27 k)).toInt
theorem spk_keep (h : SPK I E P n) (hn : n' = n) (he : ∀ k : Nat, (k : Int) < n → elt E' P' 27 k = elt E P 27 k) (hI : I' 9 = I 9) : SPK I' E' P' n' := by
  subst hn
  intro k hk
  rw [he k hk, hI]; exact h k hk
theorem spk_new (h : SPK I E P n) (hN : NOBJ I I' E E' P P' 27 9 n dy) (hF : ∀ j : Nat, (j : Int) = n → I' 9 0 (elt E' P' 27 j) = f ∧ (I' 9 1 (elt E' P' 27 j)).toInt = lst ∧ I' 9 2 (elt E' P' 27 j) = kd ∧ I' 9 3 (elt E' P' 27 j) = wt ∧ I' 9 4 (elt E' P' 27 j) = rd ∧ I' 9 5 (elt E' P' 27 j) = vo ∧ I' 9 6 (elt E' P' 27 j) = ov) (hd : ∀ k : Nat, (k : Int) < n → (9, elt E P 27 k) ∈ dy) (hn : n' = n + 1) (hk : kd.toInt = 6 ∨ lst = f.toInt) : SPK I' E' P' n' := by
  subst hn
  intro k hk9
  by_cases e : (k : Int) < n
  · rw [hN.1 k e, hN.2.1 _ (hd k e) 0, hN.2.1 _ (hd k e) 1, hN.2.1 _ (hd k e) 2]; exact h k e
  · obtain ⟨q0, q1, q2, -⟩ := hF k (by omega)
    rw [q0, q1, q2]; exact hk
end ACL
set_option maxHeartbeats 4000000 in
set_option maxRecDepth 100000 in
theorem c_X2_spanOf_a (l : Launch) (g : gG) (J : Nat → Nat → Int32) (L : Nat → Nat → Int64) (I : Nat → Nat → Nat → Int32) (P : Nat → Nat → Nat → Option Nat) (E : Nat → Option Nat) (N : Nat → Nat) (dy : List (Nat × Nat)) (sz : Nat) (a0 : Int32) (hwf : WXF g J P E N dy) (hspr : SPR I E P (J 27 2).toInt (J 3 1).toInt (J 116) (J 117) (J 118) (J 119) (J 120)) (hspk : SPK I E P (J 27 2).toInt) : Met l yX2_spanOf (WS yX2_spanOf cX2_spanOf 6 (some (.object "EarPaper$Span"))) (RM (4) 0 0) (PC g [.ref (g.2.2.1 3), .int a0] ((J, L, I, P, E, N), sgX g ++ dy) sz) (va_Qq (fun (r : Option Nat) (u : Unit) => ((r = none ∧ (¬ (0 ≤ a0.toInt ∧ a0.toInt < (J 3 1).toInt))) ∨ (∃ o9 : Nat, r = some o9 ∧ (9, o9) ∈ dy ∧ (((I 9 2 o9).toInt = 6 ∨ (I 9 1 o9).toInt = (I 9 0 o9).toInt) ∧ 0 ≤ a0.toInt ∧ a0.toInt < (J 3 1).toInt ∧ (I 9 0 o9).toInt ≤ a0.toInt ∧ a0.toInt ≤ (I 9 1 o9).toInt ∧ SPO I o9 (J 3 1).toInt (J 116) (J 117) (J 118) (J 119) (J 120))))) (fun u t => at_ g (FR g ((J, L, I, P, E, N), sgX g ++ dy) sz) ((J, L, I, P, E, N), sgX g ++ dy) t) (FR g ((J, L, I, P, E, N), sgX g ++ dy) sz)) 0 0 (FR g ((J, L, I, P, E, N), sgX g ++ dy) sz) := by
  refine ent (by decide +kernel) (Nat.le_of_ble_eq_true rfl) ?_
  intro p e s m below meth c ls hsz C hW hr hlocks hname hl
  generalize FR g ((J, L, I, P, E, N), sgX g ++ dy) sz = A at C hW ⊢
  generalize hQ9 : (va_Qq (fun (r : Option Nat) (u : Unit) => ((r = none ∧ (¬ (0 ≤ a0.toInt ∧ a0.toInt < (J 3 1).toInt))) ∨ (∃ o9 : Nat, r = some o9 ∧ (9, o9) ∈ dy ∧ (((I 9 2 o9).toInt = 6 ∨ (I 9 1 o9).toInt = (I 9 0 o9).toInt) ∧ 0 ≤ a0.toInt ∧ a0.toInt < (J 3 1).toInt ∧ (I 9 0 o9).toInt ≤ a0.toInt ∧ a0.toInt ≤ (I 9 1 o9).toInt ∧ SPO I o9 (J 3 1).toInt (J 116) (J 117) (J 118) (J 119) (J 120))))) (fun u t => at_ g A ((J, L, I, P, E, N), sgX g ++ dy) t) A) = Q9
  have hx := C.1.1
  have hb := C.1.2.1
  have hts := C.1.2.2.2.2
  have hl : lv_has ls 6 [(0, .ref (g.2.2.1 3)), (1, .int a0)] := hl
  obtain ⟨H, hH⟩ : ∃ H : Heap, H = s.heap := ⟨_, rfl⟩
  obtain ⟨locs, hlocs⟩ : ∃ q : List Loc, q = [] := ⟨_, rfl⟩
  have hW : WB g A s.heap H locs (J, L, I, P, E, N) (sgX g ++ dy) := by rw [hH, hlocs]; exact hW
  obtain ⟨h25a, h25b, -⟩ := hwf.2.1.2.1
  obtain ⟨h27a, h27b, -⟩ := hwf.2.1.2.2.2
  have hsp1 := hspr.1
  refine start_ hH hlocs ?_
  refine lv_iload_n hx hb dX2_spanOf_0 rfl (lv_at hl 1 rfl) ?_
  refine lv_if_lt (tgt := 22) hx hb dX2_spanOf_1 (by decide) (fun c1 => ?_) (fun c1 => ?_)
  · have c1 : a0.toInt < 0 := tlt rfl kp0 c1
    refine lv_null hx hb dX2_spanOf_22 ?_
    subst hQ9
    exact end_q (v := none) C hr (Or.inl ⟨_, rfl⟩) hlocks () hW (Or.inl ⟨rfl, by omega⟩) dX2_spanOf_23
  · have c1 : 0 ≤ a0.toInt := tnlt rfl kp0 c1
    refine lv_iload_n hx hb dX2_spanOf_4 rfl (lv_at hl 1 rfl) ?_
    refine lv_aload_n hx hb dX2_spanOf_5 rfl (lv_at hl 0 rfl) ?_
    refine rg_3_1 C hW (mx_ rfl) tw_277 dX2_spanOf_6 ?_
    refine lv_icmp_ge (tgt := 22) hx hb dX2_spanOf_9 (by decide) (fun c2 => ?_) (fun c2 => ?_)
    · have c2 : (J 3 1).toInt ≤ a0.toInt := tle rfl rfl c2
      refine lv_null hx hb dX2_spanOf_22 ?_
      subst hQ9
      exact end_q (v := none) C hr (Or.inl ⟨_, rfl⟩) hlocks () hW (Or.inl ⟨rfl, by omega⟩) dX2_spanOf_23
    · have c2 : a0.toInt < (J 3 1).toInt := tnle rfl rfl c2
      refine lv_aload_n hx hb dX2_spanOf_12 rfl (lv_at hl 0 rfl) ?_
      refine rg_3_0 C hW (mx_ rfl) tw_276 dX2_spanOf_13 ?_
      refine ci_ C hW (runV (x := (g.2.2.1 27)) (As := []) (rest := []) (T := ((J, L, I, P, E, N), sgX g ++ dy)) C hW (c_Jx4a65c_isEmpty_aae02 l g J L I P E N dy H.size 27 rfl ) mi_Jx4a65c_isEmpty_aae02 tw_643 (recv_ (T := ((J, L, I, P, E, N), sgX g ++ dy)) C hW (mx_ rfl) (cel_list rfl) rfl) ⟨rfl, rfl, Nat.le_of_ble_eq_true rfl, Nat.le_of_ble_eq_true rfl⟩ rfl hl.1 rfl (Nat.le_of_ble_eq_true rfl) dX2_spanOf_16 ⟨Nat.le_of_ble_eq_true rfl, Nat.le_of_ble_eq_true rfl⟩) (fun r3 u3 H locs hp3 hW => ?_)
      have hc3 : ((r3.toInt = 1 ∧ ((J 27 2).toInt = 0)) ∨ (r3.toInt = 0 ∧ (¬ (J 27 2).toInt = 0))) := hp3
      clear hp3
      have hW : WB g A s.heap H locs (J, L, I, P, E, N) (sgX g ++ dy) := hW
      refine lv_if_eq (tgt := 24) hx hb dX2_spanOf_19 (by decide) (fun c4 => ?_) (fun c4 => ?_)
      · have c4 : r3.toInt = 0 := teq rfl kp0 c4
        refine lv_iconst (v := 0) hx hb dX2_spanOf_24 (by decide) ?_
        refine lv_istore_n (lv' := [(2, .int 0), (0, .ref (g.2.2.1 3)), (1, .int a0)]) hx hb dX2_spanOf_25 rfl hl (by decide) rfl (fun ls hl => ?_)
        refine lv_aload_n hx hb dX2_spanOf_26 rfl (lv_at hl 1 rfl) ?_
        refine rg_3_0 C hW (mx_ rfl) tw_276 dX2_spanOf_27 ?_
        refine ci_ C hW (runV (x := (g.2.2.1 27)) (As := []) (rest := []) (T := ((J, L, I, P, E, N), sgX g ++ dy)) C hW (c_Jx4a65c_size_8abf5 l g J L I P E N dy H.size 27 rfl ) mi_Jx4a65c_size_8abf5 tw_647 (recv_ (T := ((J, L, I, P, E, N), sgX g ++ dy)) C hW (mx_ rfl) (cel_list rfl) rfl) ⟨rfl, rfl, Nat.le_of_ble_eq_true rfl, Nat.le_of_ble_eq_true rfl⟩ rfl hl.1 rfl (Nat.le_of_ble_eq_true rfl) dX2_spanOf_30 ⟨Nat.le_of_ble_eq_true rfl, Nat.le_of_ble_eq_true rfl⟩) (fun r5 u5 H locs hp5 hW => ?_)
        have hc5 : ((r5 = J 27 2)) := hp5
        clear hp5
        have hr5 : r5 = J 27 2 := hc5
        refine lv_as (J 27 2) hr5 ?_
        have hW : WB g A s.heap H locs (J, L, I, P, E, N) (sgX g ++ dy) := hW
        refine lv_iconst (v := 1) hx hb dX2_spanOf_33 (by decide) ?_
        refine lv_isub hx hb dX2_spanOf_34 ?_
        refine lv_topi (fun x6 (e6 : x6 = (J 27 2) - 1) => ?_)
        try have t6 : x6.toInt = (J 27 2).toInt - 1 := tsub e6 rfl kp1 (by omega)
        refine lv_istore_n (lv' := [(3, .int x6), (2, .int 0), (0, .ref (g.2.2.1 3)), (1, .int a0)]) hx hb dX2_spanOf_35 rfl hl (by decide) rfl (fun ls hl => ?_)
        refine lv_iconst (v := 0) hx hb dX2_spanOf_36 (by decide) ?_
        refine lv_istore (lv' := [(4, .int 0), (3, .int x6), (2, .int 0), (0, .ref (g.2.2.1 3)), (1, .int a0)]) hx hb dX2_spanOf_37 hl (by decide) rfl (fun ls hl => ?_)
        have loop39 : ∀ (n : Nat) (m2 : Int32) (m3 : Int32) (m4 : Int32) (H : Heap) (locs : List Loc) (ls : Array Slot), (32 - m4.toInt).toNat < n → 0 ≤ m2.toInt ∧ m2.toInt ≤ m3.toInt ∧ m3.toInt < (J 27 2).toInt ∧ 0 ≤ m4.toInt ∧ m4.toInt ≤ 32 → (I 9 0 (elt E P 27 m2.toNatClampNeg)).toInt ≤ a0.toInt → (∀ k : Nat, (k : Int) = m3.toInt + 1 → (k : Int) < (J 27 2).toInt → a0.toInt < (I 9 0 (elt E P 27 k)).toInt) → BS (m3.toInt - m2.toInt) m4.toInt → WB g A s.heap H locs (J, L, I, P, E, N) (sgX g ++ dy) → lv_has ls 6 [(4, .int m4), (3, .int m3), (2, .int m2), (0, .ref (g.2.2.1 3)), (1, .int a0)] → W p l e (RM (4) 0 0) s m ([.ref (g.2.2.1 3), .int a0] : List Value).toArray below meth c H locs 0 0 (MQ below Q9 ([.ref (g.2.2.1 3), .int a0] : List Value).toArray s 0 0 A) (F0 m 39 ls []) := by
          intro n
          induction n with
          | zero => intro m2 m3 m4 H locs ls hmeas; exact absurd hmeas (Nat.not_lt_zero _)
          | succ n ih =>
            intro m2 m3 m4 H locs ls hmeas hi hlo hhi hpw hW hl
            refine lv_iload hx hb dX2_spanOf_39 (lv_at hl 0 rfl) ?_
            refine lv_bipush (v := 32) hx hb dX2_spanOf_41 (by decide) ?_
            refine lv_icmp_ge (tgt := 96) hx hb dX2_spanOf_43 (by decide) (fun c7 => ?_) (fun c7 => ?_)
            · have c7 : 32 ≤ m4.toInt := tle kp32 rfl c7
              refine lv_aload_n hx hb dX2_spanOf_96 rfl (lv_at hl 3 rfl) ?_
              refine rg_3_0 C hW (mx_ rfl) tw_276 dX2_spanOf_97 ?_
              refine lv_iload_n hx hb dX2_spanOf_100 rfl (lv_at hl 2 rfl) ?_
              refine cq_ C hW (runV (x := (g.2.2.1 27)) (As := [.int m2]) (rest := []) (T := ((J, L, I, P, E, N), sgX g ++ dy)) C hW ((c_Jx4a65c_get_915e3 9) l g J L I P E N dy H.size 27 rfl m2 (show LWF g J P E N dy 27 9 from hwf.2.1.2.2.2) (show 0 ≤ m2.toInt ∧ m2.toInt < (J 27 2).toInt from by omega)) mi_Jx4a65c_get_915e3 tw_648 (recv_ (T := ((J, L, I, P, E, N), sgX g ++ dy)) C hW (mx_ rfl) (cel_list rfl) rfl) ⟨rfl, rfl, Nat.le_of_ble_eq_true rfl, Nat.le_of_ble_eq_true rfl⟩ rfl hl.1 rfl (Nat.le_of_ble_eq_true rfl) dX2_spanOf_101 ⟨Nat.le_of_ble_eq_true rfl, Nat.le_of_ble_eq_true rfl⟩) (fun q8 u8 H locs hp8 hW => ?_)
              have hq8 : (q8 = some (elt E P 27 m2.toNatClampNeg)) := hp8
              clear hp8
              have hW : WB g A s.heap H locs (J, L, I, P, E, N) (sgX g ++ dy) := hW
              subst hq8
              obtain ⟨o8, ho8⟩ : ∃ z : Nat, z = elt E P 27 m2.toNatClampNeg := ⟨_, rfl⟩
              have hm8 : (9, o8) ∈ dy := by rw [ho8]; exact (lw_mem (er := 9) hwf.2.1.2.2.2 (show (m2.toNatClampNeg : Int) < (J 27 2).toInt from by have := tcl m2; omega))
              refine lv_asv (v' := .ref o8) (by rw [ho8]; rfl) ?_
              refine g_cast C hW (List.mem_append_right _ hm8) rfl rfl tw_649 dX2_spanOf_104 ?_
              subst hQ9
              exact end_q (v := some o8) C hr (Or.inl ⟨_, rfl⟩) hlocks () hW (Or.inr ⟨_, rfl, hm8, by (have h8 := tcl m2; have he9 : m3.toInt = m2.toInt := (by first | omega | (have h7 := bs_e hpw (by omega) (by omega); omega)); exact ⟨(by rw [ho8]; exact hspk _ (by omega)), by omega, by omega, sp_fin hspr ho8 (by omega) (by rw [ho8]; exact hlo) (fun j hj => hhi j (by omega)) (by omega)⟩)⟩) dX2_spanOf_107
            · have c7 : m4.toInt < 32 := tnle kp32 rfl c7
              refine lv_iload_n hx hb dX2_spanOf_46 rfl (lv_at hl 2 rfl) ?_
              refine lv_iload_n hx hb dX2_spanOf_47 rfl (lv_at hl 1 rfl) ?_
              refine lv_icmp_ge (tgt := 96) hx hb dX2_spanOf_48 (by decide) (fun c9 => ?_) (fun c9 => ?_)
              · have c9 : m3.toInt ≤ m2.toInt := tle rfl rfl c9
                refine lv_aload_n hx hb dX2_spanOf_96 rfl (lv_at hl 3 rfl) ?_
                refine rg_3_0 C hW (mx_ rfl) tw_276 dX2_spanOf_97 ?_
                refine lv_iload_n hx hb dX2_spanOf_100 rfl (lv_at hl 2 rfl) ?_
                refine cq_ C hW (runV (x := (g.2.2.1 27)) (As := [.int m2]) (rest := []) (T := ((J, L, I, P, E, N), sgX g ++ dy)) C hW ((c_Jx4a65c_get_915e3 9) l g J L I P E N dy H.size 27 rfl m2 (show LWF g J P E N dy 27 9 from hwf.2.1.2.2.2) (show 0 ≤ m2.toInt ∧ m2.toInt < (J 27 2).toInt from by omega)) mi_Jx4a65c_get_915e3 tw_648 (recv_ (T := ((J, L, I, P, E, N), sgX g ++ dy)) C hW (mx_ rfl) (cel_list rfl) rfl) ⟨rfl, rfl, Nat.le_of_ble_eq_true rfl, Nat.le_of_ble_eq_true rfl⟩ rfl hl.1 rfl (Nat.le_of_ble_eq_true rfl) dX2_spanOf_101 ⟨Nat.le_of_ble_eq_true rfl, Nat.le_of_ble_eq_true rfl⟩) (fun q10 u10 H locs hp10 hW => ?_)
                have hq10 : (q10 = some (elt E P 27 m2.toNatClampNeg)) := hp10
                clear hp10
                have hW : WB g A s.heap H locs (J, L, I, P, E, N) (sgX g ++ dy) := hW
                subst hq10
                obtain ⟨o10, ho10⟩ : ∃ z : Nat, z = elt E P 27 m2.toNatClampNeg := ⟨_, rfl⟩
                have hm10 : (9, o10) ∈ dy := by rw [ho10]; exact (lw_mem (er := 9) hwf.2.1.2.2.2 (show (m2.toNatClampNeg : Int) < (J 27 2).toInt from by have := tcl m2; omega))
                refine lv_asv (v' := .ref o10) (by rw [ho10]; rfl) ?_
                refine g_cast C hW (List.mem_append_right _ hm10) rfl rfl tw_649 dX2_spanOf_104 ?_
                subst hQ9
                exact end_q (v := some o10) C hr (Or.inl ⟨_, rfl⟩) hlocks () hW (Or.inr ⟨_, rfl, hm10, by (have h8 := tcl m2; have he9 : m3.toInt = m2.toInt := (by first | omega | (have h7 := bs_e hpw (by omega) (by omega); omega)); exact ⟨(by rw [ho10]; exact hspk _ (by omega)), by omega, by omega, sp_fin hspr ho10 (by omega) (by rw [ho10]; exact hlo) (fun j hj => hhi j (by omega)) (by omega)⟩)⟩) dX2_spanOf_107
              · have c9 : m2.toInt < m3.toInt := tnle rfl rfl c9
                refine lv_iload_n hx hb dX2_spanOf_51 rfl (lv_at hl 2 rfl) ?_
                refine lv_iload_n hx hb dX2_spanOf_52 rfl (lv_at hl 1 rfl) ?_
                refine lv_iadd hx hb dX2_spanOf_53 ?_
                refine lv_topi (fun x11 (e11 : x11 = m2 + m3) => ?_)
                try have t11 : x11.toInt = m2.toInt + m3.toInt := tadd e11 rfl rfl (by omega)
                refine lv_iconst (v := 1) hx hb dX2_spanOf_54 (by decide) ?_
                refine lv_iadd hx hb dX2_spanOf_55 ?_
                refine lv_topi (fun x12 (e12 : x12 = x11 + 1) => ?_)
                try have t12 : x12.toInt = x11.toInt + 1 := tadd e12 rfl kp1 (by omega)
                refine lv_iconst (v := 2) hx hb dX2_spanOf_56 (by decide) ?_
                refine lv_idiv hx hb dX2_spanOf_57 (by decide) ?_
                refine lv_topi (fun x13 (e13 : x13 = x12 / 2) => ?_)
                have t13 : x13.toInt = x12.toInt.tdiv 2 := tdiv e13 rfl kp2 (by decide)
                try rw [tdp (a := x12.toInt) (by omega)] at t13
                refine lv_istore (lv' := [(5, .int x13), (4, .int m4), (3, .int m3), (2, .int m2), (0, .ref (g.2.2.1 3)), (1, .int a0)]) hx hb dX2_spanOf_58 hl (by decide) rfl (fun ls hl => ?_)
                refine lv_aload_n hx hb dX2_spanOf_60 rfl (lv_at hl 4 rfl) ?_
                refine rg_3_0 C hW (mx_ rfl) tw_276 dX2_spanOf_61 ?_
                refine lv_iload hx hb dX2_spanOf_64 (lv_at hl 0 rfl) ?_
                refine cq_ C hW (runV (x := (g.2.2.1 27)) (As := [.int x13]) (rest := []) (T := ((J, L, I, P, E, N), sgX g ++ dy)) C hW ((c_Jx4a65c_get_915e3 9) l g J L I P E N dy H.size 27 rfl x13 (show LWF g J P E N dy 27 9 from hwf.2.1.2.2.2) (show 0 ≤ x13.toInt ∧ x13.toInt < (J 27 2).toInt from by omega)) mi_Jx4a65c_get_915e3 tw_648 (recv_ (T := ((J, L, I, P, E, N), sgX g ++ dy)) C hW (mx_ rfl) (cel_list rfl) rfl) ⟨rfl, rfl, Nat.le_of_ble_eq_true rfl, Nat.le_of_ble_eq_true rfl⟩ rfl hl.1 rfl (Nat.le_of_ble_eq_true rfl) dX2_spanOf_66 ⟨Nat.le_of_ble_eq_true rfl, Nat.le_of_ble_eq_true rfl⟩) (fun q14 u14 H locs hp14 hW => ?_)
                have hq14 : (q14 = some (elt E P 27 x13.toNatClampNeg)) := hp14
                clear hp14
                have hW : WB g A s.heap H locs (J, L, I, P, E, N) (sgX g ++ dy) := hW
                subst hq14
                obtain ⟨o14, ho14⟩ : ∃ z : Nat, z = elt E P 27 x13.toNatClampNeg := ⟨_, rfl⟩
                have hm14 : (9, o14) ∈ dy := by rw [ho14]; exact (lw_mem (er := 9) hwf.2.1.2.2.2 (show (x13.toNatClampNeg : Int) < (J 27 2).toInt from by have := tcl x13; omega))
                refine lv_asv (v' := .ref o14) (by rw [ho14]; rfl) ?_
                refine g_cast C hW (List.mem_append_right _ hm14) rfl rfl tw_649 dX2_spanOf_69 ?_
                refine rg_9_0 C hW (List.mem_append_right _ hm14) tw_422 dX2_spanOf_72 ?_
                refine lv_topi (fun x15 (e15 : x15 = I 9 0 o14) => ?_)
                have t15 : x15.toInt = (I 9 0 o14).toInt := by rw [e15]
                refine lv_iload_n hx hb dX2_spanOf_75 rfl (lv_at hl 5 rfl) ?_
                refine lv_icmp_gt (tgt := 85) hx hb dX2_spanOf_76 (by decide) (fun c16 => ?_) (fun c16 => ?_)
                · have c16 : a0.toInt < x15.toInt := tlt rfl rfl c16
                  refine lv_iload hx hb dX2_spanOf_85 (lv_at hl 0 rfl) ?_
                  refine lv_iconst (v := 1) hx hb dX2_spanOf_87 (by decide) ?_
                  refine lv_isub hx hb dX2_spanOf_88 ?_
                  refine lv_topi (fun x17 (e17 : x17 = x13 - 1) => ?_)
                  try have t17 : x17.toInt = x13.toInt - 1 := tsub e17 rfl kp1 (by omega)
                  refine lv_istore_n (lv' := [(3, .int x17), (5, .int x13), (4, .int m4), (2, .int m2), (0, .ref (g.2.2.1 3)), (1, .int a0)]) hx hb dX2_spanOf_89 rfl hl (by decide) rfl (fun ls hl => ?_)
                  obtain ⟨x18, e18⟩ : ∃ y : Int32, y = m4 + 1 := ⟨_, rfl⟩
                  refine lv_iinc (v := x18) (lv' := [(4, .int x18), (3, .int x17), (5, .int x13), (2, .int m2), (0, .ref (g.2.2.1 3)), (1, .int a0)]) hx hb dX2_spanOf_90 hl (k := 2) rfl (by rw [e18]; rfl) (by decide) rfl (fun ls hl => ?_)
                  try have t18 : x18.toInt = m4.toInt + 1 := tadd e18 rfl kp1 (by omega)
                  refine lv_goto (tgt := 39) hx hb dX2_spanOf_93 (by decide) ?_
                  refine ih m2 x17 x18 H locs ls ?_ ?_ ?_ ?_ ?_ hW (lv_sub hl [0, 1, 3, 4, 5] rfl)
                  · show (32 - x18.toInt).toNat < n
                    omega
                  · show 0 ≤ m2.toInt ∧ m2.toInt ≤ x17.toInt ∧ x17.toInt < (J 27 2).toInt ∧ 0 ≤ x18.toInt ∧ x18.toInt ≤ 32
                    first | omega | exact hi | assumption
                  · show (I 9 0 (elt E P 27 m2.toNatClampNeg)).toInt ≤ a0.toInt
                    first | exact hlo | (rw [← ho14]; omega)
                  · show ∀ k : Nat, (k : Int) = x17.toInt + 1 → (k : Int) < (J 27 2).toInt → a0.toInt < (I 9 0 (elt E P 27 k)).toInt
                    first | exact hhi | (intro k hk hk2; have h8 := tcl x13; have e9 : k = x13.toNatClampNeg := (by omega); rw [e9, ← ho14]; omega)
                  · show BS (x17.toInt - m2.toInt) x18.toInt
                    exact bs_s hpw (by omega) (by omega) (by omega)
                · have c16 : x15.toInt ≤ a0.toInt := tnlt rfl rfl c16
                  refine lv_iload hx hb dX2_spanOf_79 (lv_at hl 0 rfl) ?_
                  refine lv_istore_n (lv' := [(2, .int x13), (5, .int x13), (4, .int m4), (3, .int m3), (0, .ref (g.2.2.1 3)), (1, .int a0)]) hx hb dX2_spanOf_81 rfl hl (by decide) rfl (fun ls hl => ?_)
                  refine lv_goto (tgt := 90) hx hb dX2_spanOf_82 (by decide) ?_
                  obtain ⟨x19, e19⟩ : ∃ y : Int32, y = m4 + 1 := ⟨_, rfl⟩
                  refine lv_iinc (v := x19) (lv' := [(4, .int x19), (2, .int x13), (5, .int x13), (3, .int m3), (0, .ref (g.2.2.1 3)), (1, .int a0)]) hx hb dX2_spanOf_90 hl (k := 2) rfl (by rw [e19]; rfl) (by decide) rfl (fun ls hl => ?_)
                  try have t19 : x19.toInt = m4.toInt + 1 := tadd e19 rfl kp1 (by omega)
                  refine lv_goto (tgt := 39) hx hb dX2_spanOf_93 (by decide) ?_
                  refine ih x13 m3 x19 H locs ls ?_ ?_ ?_ ?_ ?_ hW (lv_sub hl [0, 3, 1, 4, 5] rfl)
                  · show (32 - x19.toInt).toNat < n
                    omega
                  · show 0 ≤ x13.toInt ∧ x13.toInt ≤ m3.toInt ∧ m3.toInt < (J 27 2).toInt ∧ 0 ≤ x19.toInt ∧ x19.toInt ≤ 32
                    first | omega | exact hi | assumption
                  · show (I 9 0 (elt E P 27 x13.toNatClampNeg)).toInt ≤ a0.toInt
                    first | exact hlo | (rw [← ho14]; omega)
                  · show ∀ k : Nat, (k : Int) = m3.toInt + 1 → (k : Int) < (J 27 2).toInt → a0.toInt < (I 9 0 (elt E P 27 k)).toInt
                    first | exact hhi | (intro k hk hk2; have h8 := tcl x13; have e9 : k = x13.toNatClampNeg := (by omega); rw [e9, ← ho14]; omega)
                  · show BS (m3.toInt - x13.toInt) x19.toInt
                    exact bs_s hpw (by omega) (by omega) (by omega)
        -- into the loop
        refine loop39 ((32 - (0 : Int32).toInt).toNat + 1) 0 x6 0 H locs ls ?_ ?_ ?_ ?_ ?_ hW (lv_sub hl [0, 1, 2, 3, 4] rfl)
        · exact Nat.lt_succ_self _
        · show 0 ≤ (0 : Int32).toInt ∧ (0 : Int32).toInt ≤ x6.toInt ∧ x6.toInt < (J 27 2).toInt ∧ 0 ≤ (0 : Int32).toInt ∧ (0 : Int32).toInt ≤ 32
          try rw [kp0]
          try rw [kp0]
          first | omega | exact hi | assumption
        · show (I 9 0 (elt E P 27 (0 : Int32).toNatClampNeg)).toInt ≤ a0.toInt
          try rw [kp0]
          try rw [kp0]
          (have h7 := (hspr.2.2 0 (by omega)).2.1 rfl; show (I 9 0 (elt E P 27 0)).toInt ≤ a0.toInt; omega)
        · show ∀ k : Nat, (k : Int) = x6.toInt + 1 → (k : Int) < (J 27 2).toInt → a0.toInt < (I 9 0 (elt E P 27 k)).toInt
          try rw [kp0]
          try rw [kp0]
          (intro k hk hk2; exfalso; omega)
        · show BS (x6.toInt - (0 : Int32).toInt) (0 : Int32).toInt
          try rw [kp0]
          try rw [kp0]
          exact bs_0 (by omega) rfl
      · have c4 : ¬ r3.toInt = 0 := tne rfl kp0 c4
        refine lv_null hx hb dX2_spanOf_22 ?_
        subst hQ9
        exact end_q (v := none) C hr (Or.inl ⟨_, rfl⟩) hlocks () hW (Or.inl ⟨rfl, by omega⟩) dX2_spanOf_23

set_option maxHeartbeats 4000000 in
set_option maxRecDepth 100000 in
theorem c_X11_evenUntil_a (l : Launch) (g : gG) (J : Nat → Nat → Int32) (L : Nat → Nat → Int64) (I : Nat → Nat → Nat → Int32) (P : Nat → Nat → Nat → Option Nat) (E : Nat → Option Nat) (N : Nat → Nat) (dy : List (Nat × Nat)) (sz : Nat) (a0 : Nat) (hm0 : (9, a0) ∈ dy) (a1 : Int32) (hwf : WXF g J P E N dy) (hmn9 : 0 ≤ a1.toInt ∧ a1.toInt ≤ (I 9 1 a0).toInt ∧ (I 9 1 a0).toInt ≤ 9998) : Met l yX11_evenUntil (WS yX11_evenUntil cX11_evenUntil 6 (some .int)) (RM (4) 0 0) (PC g [.ref (g.2.2.1 12), .ref a0, .int a1] ((J, L, I, P, E, N), sgX g ++ dy) sz) (va_Qi (fun (r : Int32) (u : Unit) => (a1.toInt ≤ r.toInt ∧ r.toInt ≤ (I 9 1 a0).toInt ∧ r.toInt ≤ a1.toInt / 60 * 60 + 59) ∧ (∀ k : Nat, (k : Int) < (J 25 2).toInt → ¬ (a1.toInt < (I 10 1 (elt E P 25 k)).toInt ∧ (I 10 1 (elt E P 25 k)).toInt ≤ r.toInt))) (fun u t => at_ g (FR g ((J, L, I, P, E, N), sgX g ++ dy) sz) ((J, L, I, P, E, N), sgX g ++ dy) t) (FR g ((J, L, I, P, E, N), sgX g ++ dy) sz)) 0 0 (FR g ((J, L, I, P, E, N), sgX g ++ dy) sz) := by
  refine ent (by decide +kernel) (Nat.le_of_ble_eq_true rfl) ?_
  intro p e s m below meth c ls hsz C hW hr hlocks hname hl
  generalize FR g ((J, L, I, P, E, N), sgX g ++ dy) sz = A at C hW ⊢
  generalize hQ9 : (va_Qi (fun (r : Int32) (u : Unit) => (a1.toInt ≤ r.toInt ∧ r.toInt ≤ (I 9 1 a0).toInt ∧ r.toInt ≤ a1.toInt / 60 * 60 + 59) ∧ (∀ k : Nat, (k : Int) < (J 25 2).toInt → ¬ (a1.toInt < (I 10 1 (elt E P 25 k)).toInt ∧ (I 10 1 (elt E P 25 k)).toInt ≤ r.toInt))) (fun u t => at_ g A ((J, L, I, P, E, N), sgX g ++ dy) t) A) = Q9
  have hx := C.1.1
  have hb := C.1.2.1
  have hts := C.1.2.2.2.2
  have hl : lv_has ls 6 [(0, .ref (g.2.2.1 12)), (1, .ref a0), (2, .int a1)] := hl
  obtain ⟨H, hH⟩ : ∃ H : Heap, H = s.heap := ⟨_, rfl⟩
  obtain ⟨locs, hlocs⟩ : ∃ q : List Loc, q = [] := ⟨_, rfl⟩
  have hW : WB g A s.heap H locs (J, L, I, P, E, N) (sgX g ++ dy) := by rw [hH, hlocs]; exact hW
  obtain ⟨h25a, h25b, -⟩ := hwf.2.1.2.1
  refine start_ hH hlocs ?_
  refine lv_aload_n hx hb dX11_evenUntil_0 rfl (lv_at hl 1 rfl) ?_
  refine rg_9_1 C hW (List.mem_append_right _ hm0) tw_425 dX11_evenUntil_1 ?_
  refine lv_topi (fun x1 (e1 : x1 = I 9 1 a0) => ?_)
  have t1 : x1.toInt = (I 9 1 a0).toInt := by rw [e1]
  refine lv_iload_n hx hb dX11_evenUntil_4 rfl (lv_at hl 2 rfl) ?_
  refine lv_bipush (v := 60) hx hb dX11_evenUntil_5 (by decide) ?_
  refine lv_idiv hx hb dX11_evenUntil_7 (by decide) ?_
  refine lv_topi (fun x2 (e2 : x2 = a1 / 60) => ?_)
  have t2 : x2.toInt = a1.toInt.tdiv 60 := tdiv e2 rfl kp60 (by decide)
  try rw [tdp (a := a1.toInt) (by omega)] at t2
  refine lv_bipush (v := 60) hx hb dX11_evenUntil_8 (by decide) ?_
  refine lv_imul hx hb dX11_evenUntil_10 ?_
  refine lv_topi (fun x3 (e3 : x3 = x2 * 60) => ?_)
  try have t3 : x3.toInt = x2.toInt * 60 := tmul e3 rfl kp60 (by omega)
  refine lv_bipush (v := 60) hx hb dX11_evenUntil_11 (by decide) ?_
  refine lv_iadd hx hb dX11_evenUntil_13 ?_
  refine lv_topi (fun x4 (e4 : x4 = x3 + 60) => ?_)
  try have t4 : x4.toInt = x3.toInt + 60 := tadd e4 rfl kp60 (by omega)
  refine lv_iconst (v := 1) hx hb dX11_evenUntil_14 (by decide) ?_
  refine lv_isub hx hb dX11_evenUntil_15 ?_
  refine lv_topi (fun x5 (e5 : x5 = x4 - 1) => ?_)
  try have t5 : x5.toInt = x4.toInt - 1 := tsub e5 rfl kp1 (by omega)
  refine va_mmin hx hb (C.1.2.2.1.trans hl.1.symm) C.1.2.2.2.1 (hts _ tw_843) (hts _ tw_225) (hts _ tw_74) (hts _ tw_226) (Nat.le_of_ble_eq_true rfl) (Nat.le_of_ble_eq_true rfl) (Nat.le_of_ble_eq_true rfl) (Nat.le_of_ble_eq_true rfl) dX11_evenUntil_16 ?_
  refine lv_topi (fun x6 (e6 : x6 = if x5 < x1 then x5 else x1) => ?_)
  have t6 : x6.toInt = min x1.toInt x5.toInt := tmin e6 rfl rfl
  refine lv_istore_n (lv' := [(3, .int x6), (0, .ref (g.2.2.1 12)), (1, .ref a0), (2, .int a1)]) hx hb dX11_evenUntil_19 rfl hl (by decide) rfl (fun ls hl => ?_)
  refine lv_iconst (v := 0) hx hb dX11_evenUntil_20 (by decide) ?_
  refine lv_istore (lv' := [(4, .int 0), (3, .int x6), (0, .ref (g.2.2.1 12)), (1, .ref a0), (2, .int a1)]) hx hb dX11_evenUntil_21 hl (by decide) rfl (fun ls hl => ?_)
  have loop23 : ∀ (n : Nat) (m3 : Int32) (m4 : Int32) (H : Heap) (locs : List Loc) (ls : Array Slot), ((J 25 2).toInt - m4.toInt).toNat < n → 0 ≤ m4.toInt ∧ a1.toInt ≤ m3.toInt ∧ m3.toInt ≤ (I 9 1 a0).toInt ∧ m3.toInt ≤ a1.toInt / 60 * 60 + 59 → (∀ k : Nat, (k : Int) < m4.toInt → ¬ (a1.toInt < (I 10 1 (elt E P 25 k)).toInt ∧ (I 10 1 (elt E P 25 k)).toInt ≤ m3.toInt)) → WB g A s.heap H locs (J, L, I, P, E, N) (sgX g ++ dy) → lv_has ls 6 [(4, .int m4), (3, .int m3), (0, .ref (g.2.2.1 12)), (1, .ref a0), (2, .int a1)] → W p l e (RM (4) 0 0) s m ([.ref (g.2.2.1 12), .ref a0, .int a1] : List Value).toArray below meth c H locs 0 0 (MQ below Q9 ([.ref (g.2.2.1 12), .ref a0, .int a1] : List Value).toArray s 0 0 A) (F0 m 23 ls []) := by
    intro n
    induction n with
    | zero => intro m3 m4 H locs ls hmeas; exact absurd hmeas (Nat.not_lt_zero _)
    | succ n ih =>
      intro m3 m4 H locs ls hmeas hi hno hW hl
      refine lv_iload hx hb dX11_evenUntil_23 (lv_at hl 0 rfl) ?_
      refine lv_aload_n hx hb dX11_evenUntil_25 rfl (lv_at hl 2 rfl) ?_
      refine rg_12_3 C hW (mx_ rfl) tw_367 dX11_evenUntil_26 ?_
      refine ci_ C hW (runV (x := (g.2.2.1 25)) (As := []) (rest := [.int m4]) (T := ((J, L, I, P, E, N), sgX g ++ dy)) C hW (c_Jx4a65c_size_8abf5 l g J L I P E N dy H.size 25 rfl ) mi_Jx4a65c_size_8abf5 tw_485 (recv_ (T := ((J, L, I, P, E, N), sgX g ++ dy)) C hW (mx_ rfl) (cel_list rfl) rfl) ⟨rfl, rfl, Nat.le_of_ble_eq_true rfl, Nat.le_of_ble_eq_true rfl⟩ rfl hl.1 rfl (Nat.le_of_ble_eq_true rfl) dX11_evenUntil_29 ⟨Nat.le_of_ble_eq_true rfl, Nat.le_of_ble_eq_true rfl⟩) (fun r7 u7 H locs hp7 hW => ?_)
      have hc7 : ((r7 = J 25 2)) := hp7
      clear hp7
      have hr7 : r7 = J 25 2 := hc7
      refine lv_as (J 25 2) hr7 ?_
      have hW : WB g A s.heap H locs (J, L, I, P, E, N) (sgX g ++ dy) := hW
      refine lv_icmp_ge (tgt := 75) hx hb dX11_evenUntil_32 (by decide) (fun c8 => ?_) (fun c8 => ?_)
      · have c8 : (J 25 2).toInt ≤ m4.toInt := tle rfl rfl c8
        refine lv_iload_n hx hb dX11_evenUntil_75 rfl (lv_at hl 1 rfl) ?_
        subst hQ9
        exact end_i C hr hlocks () hW ⟨show a1.toInt ≤ m3.toInt ∧ m3.toInt ≤ (I 9 1 a0).toInt ∧ m3.toInt ≤ a1.toInt / 60 * 60 + 59 from by omega, show ∀ k : Nat, (k : Int) < (J 25 2).toInt → ¬ (a1.toInt < (I 10 1 (elt E P 25 k)).toInt ∧ (I 10 1 (elt E P 25 k)).toInt ≤ m3.toInt) from by exact fun k hk => hno k (by omega)⟩ dX11_evenUntil_76
      · have c8 : m4.toInt < (J 25 2).toInt := tnle rfl rfl c8
        refine lv_aload_n hx hb dX11_evenUntil_35 rfl (lv_at hl 2 rfl) ?_
        refine rg_12_3 C hW (mx_ rfl) tw_367 dX11_evenUntil_36 ?_
        refine lv_iload hx hb dX11_evenUntil_39 (lv_at hl 0 rfl) ?_
        refine cq_ C hW (runV (x := (g.2.2.1 25)) (As := [.int m4]) (rest := []) (T := ((J, L, I, P, E, N), sgX g ++ dy)) C hW ((c_Jx4a65c_get_915e3 10) l g J L I P E N dy H.size 25 rfl m4 (show LWF g J P E N dy 25 10 from hwf.2.1.2.1) (show 0 ≤ m4.toInt ∧ m4.toInt < (J 25 2).toInt from by omega)) mi_Jx4a65c_get_915e3 tw_618 (recv_ (T := ((J, L, I, P, E, N), sgX g ++ dy)) C hW (mx_ rfl) (cel_list rfl) rfl) ⟨rfl, rfl, Nat.le_of_ble_eq_true rfl, Nat.le_of_ble_eq_true rfl⟩ rfl hl.1 rfl (Nat.le_of_ble_eq_true rfl) dX11_evenUntil_41 ⟨Nat.le_of_ble_eq_true rfl, Nat.le_of_ble_eq_true rfl⟩) (fun q9 u9 H locs hp9 hW => ?_)
        have hq9 : (q9 = some (elt E P 25 m4.toNatClampNeg)) := hp9
        clear hp9
        have hW : WB g A s.heap H locs (J, L, I, P, E, N) (sgX g ++ dy) := hW
        subst hq9
        obtain ⟨o9, ho9⟩ : ∃ z : Nat, z = elt E P 25 m4.toNatClampNeg := ⟨_, rfl⟩
        have hm9 : (10, o9) ∈ dy := by rw [ho9]; exact (lw_mem (er := 10) hwf.2.1.2.1 (show (m4.toNatClampNeg : Int) < (J 25 2).toInt from by have := tcl m4; omega))
        refine lv_asv (v' := .ref o9) (by rw [ho9]; rfl) ?_
        refine g_cast C hW (List.mem_append_right _ hm9) rfl rfl tw_662 dX11_evenUntil_44 ?_
        refine rg_10_1 C hW (List.mem_append_right _ hm9) tw_803 dX11_evenUntil_47 ?_
        refine lv_topi (fun x10 (e10 : x10 = I 10 1 o9) => ?_)
        have t10 : x10.toInt = (I 10 1 o9).toInt := by rw [e10]
        refine lv_istore (lv' := [(5, .int x10), (4, .int m4), (3, .int m3), (0, .ref (g.2.2.1 12)), (1, .ref a0), (2, .int a1)]) hx hb dX11_evenUntil_50 hl (by decide) rfl (fun ls hl => ?_)
        refine lv_iload hx hb dX11_evenUntil_52 (lv_at hl 0 rfl) ?_
        refine lv_iload_n hx hb dX11_evenUntil_54 rfl (lv_at hl 5 rfl) ?_
        refine lv_icmp_le (tgt := 69) hx hb dX11_evenUntil_55 (by decide) (fun c11 => ?_) (fun c11 => ?_)
        · have c11 : x10.toInt ≤ a1.toInt := tle rfl rfl c11
          obtain ⟨x12, e12⟩ : ∃ y : Int32, y = m4 + 1 := ⟨_, rfl⟩
          refine lv_iinc (v := x12) (lv' := [(4, .int x12), (5, .int x10), (3, .int m3), (0, .ref (g.2.2.1 12)), (1, .ref a0), (2, .int a1)]) hx hb dX11_evenUntil_69 hl (k := 1) rfl (by rw [e12]; rfl) (by decide) rfl (fun ls hl => ?_)
          try have t12 : x12.toInt = m4.toInt + 1 := tadd e12 rfl kp1 (by omega)
          refine lv_goto (tgt := 23) hx hb dX11_evenUntil_72 (by decide) ?_
          refine ih m3 x12 H locs ls ?_ ?_ ?_ hW (lv_sub hl [0, 2, 3, 4, 5] rfl)
          · show ((J 25 2).toInt - x12.toInt).toNat < n
            omega
          · show 0 ≤ x12.toInt ∧ a1.toInt ≤ m3.toInt ∧ m3.toInt ≤ (I 9 1 a0).toInt ∧ m3.toInt ≤ a1.toInt / 60 * 60 + 59
            first | omega | exact hi | assumption
          · show ∀ k : Nat, (k : Int) < x12.toInt → ¬ (a1.toInt < (I 10 1 (elt E P 25 k)).toInt ∧ (I 10 1 (elt E P 25 k)).toInt ≤ m3.toInt)
            (intro k hk; by_cases e9 : k = m4.toNatClampNeg; (rw [e9, ← ho9]; omega); (have h7 := hno k (by have h8 := tcl m4; omega); omega))
        · have c11 : a1.toInt < x10.toInt := tnle rfl rfl c11
          refine lv_iload hx hb dX11_evenUntil_58 (lv_at hl 0 rfl) ?_
          refine lv_iload_n hx hb dX11_evenUntil_60 rfl (lv_at hl 2 rfl) ?_
          refine lv_icmp_gt (tgt := 69) hx hb dX11_evenUntil_61 (by decide) (fun c13 => ?_) (fun c13 => ?_)
          · have c13 : m3.toInt < x10.toInt := tlt rfl rfl c13
            obtain ⟨x14, e14⟩ : ∃ y : Int32, y = m4 + 1 := ⟨_, rfl⟩
            refine lv_iinc (v := x14) (lv' := [(4, .int x14), (5, .int x10), (3, .int m3), (0, .ref (g.2.2.1 12)), (1, .ref a0), (2, .int a1)]) hx hb dX11_evenUntil_69 hl (k := 1) rfl (by rw [e14]; rfl) (by decide) rfl (fun ls hl => ?_)
            try have t14 : x14.toInt = m4.toInt + 1 := tadd e14 rfl kp1 (by omega)
            refine lv_goto (tgt := 23) hx hb dX11_evenUntil_72 (by decide) ?_
            refine ih m3 x14 H locs ls ?_ ?_ ?_ hW (lv_sub hl [0, 2, 3, 4, 5] rfl)
            · show ((J 25 2).toInt - x14.toInt).toNat < n
              omega
            · show 0 ≤ x14.toInt ∧ a1.toInt ≤ m3.toInt ∧ m3.toInt ≤ (I 9 1 a0).toInt ∧ m3.toInt ≤ a1.toInt / 60 * 60 + 59
              first | omega | exact hi | assumption
            · show ∀ k : Nat, (k : Int) < x14.toInt → ¬ (a1.toInt < (I 10 1 (elt E P 25 k)).toInt ∧ (I 10 1 (elt E P 25 k)).toInt ≤ m3.toInt)
              (intro k hk; by_cases e9 : k = m4.toNatClampNeg; (rw [e9, ← ho9]; omega); (have h7 := hno k (by have h8 := tcl m4; omega); omega))
          · have c13 : x10.toInt ≤ m3.toInt := tnlt rfl rfl c13
            refine lv_iload hx hb dX11_evenUntil_64 (lv_at hl 0 rfl) ?_
            refine lv_iconst (v := 1) hx hb dX11_evenUntil_66 (by decide) ?_
            refine lv_isub hx hb dX11_evenUntil_67 ?_
            refine lv_topi (fun x15 (e15 : x15 = x10 - 1) => ?_)
            try have t15 : x15.toInt = x10.toInt - 1 := tsub e15 rfl kp1 (by omega)
            refine lv_istore_n (lv' := [(3, .int x15), (5, .int x10), (4, .int m4), (0, .ref (g.2.2.1 12)), (1, .ref a0), (2, .int a1)]) hx hb dX11_evenUntil_68 rfl hl (by decide) rfl (fun ls hl => ?_)
            obtain ⟨x16, e16⟩ : ∃ y : Int32, y = m4 + 1 := ⟨_, rfl⟩
            refine lv_iinc (v := x16) (lv' := [(4, .int x16), (3, .int x15), (5, .int x10), (0, .ref (g.2.2.1 12)), (1, .ref a0), (2, .int a1)]) hx hb dX11_evenUntil_69 hl (k := 2) rfl (by rw [e16]; rfl) (by decide) rfl (fun ls hl => ?_)
            try have t16 : x16.toInt = m4.toInt + 1 := tadd e16 rfl kp1 (by omega)
            refine lv_goto (tgt := 23) hx hb dX11_evenUntil_72 (by decide) ?_
            refine ih x15 x16 H locs ls ?_ ?_ ?_ hW (lv_sub hl [0, 1, 3, 4, 5] rfl)
            · show ((J 25 2).toInt - x16.toInt).toNat < n
              omega
            · show 0 ≤ x16.toInt ∧ a1.toInt ≤ x15.toInt ∧ x15.toInt ≤ (I 9 1 a0).toInt ∧ x15.toInt ≤ a1.toInt / 60 * 60 + 59
              first | omega | exact hi | assumption
            · show ∀ k : Nat, (k : Int) < x16.toInt → ¬ (a1.toInt < (I 10 1 (elt E P 25 k)).toInt ∧ (I 10 1 (elt E P 25 k)).toInt ≤ x15.toInt)
              (intro k hk; by_cases e9 : k = m4.toNatClampNeg; (rw [e9, ← ho9]; omega); (have h7 := hno k (by have h8 := tcl m4; omega); omega))
  -- into the loop
  refine loop23 (((J 25 2).toInt - (0 : Int32).toInt).toNat + 1) x6 0 H locs ls ?_ ?_ ?_ hW (lv_sub hl [0, 1, 2, 3, 4] rfl)
  · exact Nat.lt_succ_self _
  · show 0 ≤ (0 : Int32).toInt ∧ a1.toInt ≤ x6.toInt ∧ x6.toInt ≤ (I 9 1 a0).toInt ∧ x6.toInt ≤ a1.toInt / 60 * 60 + 59
    try rw [kp0]
    first | omega | exact hi | assumption
  · show ∀ k : Nat, (k : Int) < (0 : Int32).toInt → ¬ (a1.toInt < (I 10 1 (elt E P 25 k)).toInt ∧ (I 10 1 (elt E P 25 k)).toInt ≤ x6.toInt)
    try rw [kp0]
    intro k hk; exfalso; omega

set_option maxHeartbeats 4000000 in
set_option maxRecDepth 100000 in
theorem c_X11_sumOf_a (l : Launch) (g : gG) (J : Nat → Nat → Int32) (L : Nat → Nat → Int64) (I : Nat → Nat → Nat → Int32) (P : Nat → Nat → Nat → Option Nat) (E : Nat → Option Nat) (N : Nat → Nat) (dy : List (Nat × Nat)) (sz : Nat) (a0 : Int32) (a1 : Nat) (hma1 : (9, a1) ∈ dy) (a2 : Int32) (a3 : Int32) (hwf : WXF g J P E N dy) (hnt : NTR (P 6 0) (elt E P 20) (J 101) (J 20 2).toInt) (hij : INJ E P 20 (J 20 2).toInt) (hcu : CUR (P 1 0) (I 1 1) (I 1 2) (elt E P 21) (elt E P 20) (J 105) (J 106) (J 107) (J 21 2).toInt (J 20 2).toInt) (hhm : HMR (P 2 0) (I 2 1) (I 2 2) (I 2 3) (elt E P 22) (elt E P 20) (J 108) (J 109) (J 110) (J 111) (J 22 2).toInt (J 20 2).toInt) (hmn9 : 0 ≤ a2.toInt ∧ a2.toInt ≤ a3.toInt ∧ a3.toInt ≤ 9998) (hcdb : CDB I P E N (J 25 2).toInt) (hnw9 : 0 ≤ (J 3 1).toInt ∧ (J 3 1).toInt ≤ 9999) (hask : ASK I P E N (J 25 2).toInt) (hkd : (I 9 2 a1).toInt = 6 ∨ a2.toInt = a3.toInt) (hev : ∀ k : Nat, (k : Int) < (J 25 2).toInt → ¬ (a2.toInt < (I 10 1 (elt E P 25 k)).toInt ∧ (I 10 1 (elt E P 25 k)).toInt ≤ a3.toInt)) (hho : a3.toInt ≤ a2.toInt / 60 * 60 + 59) (hpu9 : a0.toInt = 0 ∨ a0.toInt = 1) : Met l yX11_sumOf (WS yX11_sumOf cX11_sumOf 9 (some .long)) (RM (7) 0 0) (PC g [.ref (g.2.2.1 12), .int a0, .ref a1, .int a2, .int a3] ((J, L, I, P, E, N), sgX g ++ dy) sz) (va_Ql (fun (r : Int64) (u : (Nat → Nat → Int32) × (Nat → Nat → Nat → Int32)) => (∃ v : Int, r = Int64.ofInt v ∧ SUMS (fun jj rr => WIF I P E N (J 25 2).toInt a0.toInt jj (fun s m9 => SCL (I 9 2 a1) (hrw jj) (I 9 5 a1) s m9 (I 9 3 a1) (J 3 1 - Int32.ofInt jj) (J 22 2)) (TLY (fun x => SND x (J 101) (fun k => I 6 1 (elt E P 20 k)) (fun k => I 6 3 (elt E P 20 k)) (fun k => I 6 5 (elt E P 20 k)) (CUTP (J 105) (J 106) (J 107) (J 21 2).toInt jj) (I 9 5 a1) (I 9 3 a1) (J 20 2).toInt) (I 9 2 a1) (fun x => HF (I 9 2 a1) (J 110) (J 111) jj (J 4 5) (J 109) (J 108) x) (J 22 2).toInt.toNat) rr) a2.toInt (a3.toInt + 1 - a2.toInt).toNat v)) (fun u t => at_ g (FR g ((J, L, I, P, E, N), sgX g ++ dy) sz) (((hv J [45] [(4, 6), (4, 7), (8, 1), (8, 2), (8, 3), (8, 4), (8, 5), (8, 6), (8, 7), (8, 8), (8, 9)] u.1), L, (hv I [] [(6, 6), (6, 7)] u.2), P, E, N), sgX g ++ dy) t) (FR g ((J, L, I, P, E, N), sgX g ++ dy) sz)) 0 0 (FR g ((J, L, I, P, E, N), sgX g ++ dy) sz) := by
  refine ent (by decide +kernel) (Nat.le_of_ble_eq_true rfl) ?_
  intro p e s m below meth c ls hsz C hW hr hlocks hname hl
  generalize FR g ((J, L, I, P, E, N), sgX g ++ dy) sz = A at C hW ⊢
  generalize hQ9 : (va_Ql (fun (r : Int64) (u : (Nat → Nat → Int32) × (Nat → Nat → Nat → Int32)) => (∃ v : Int, r = Int64.ofInt v ∧ SUMS (fun jj rr => WIF I P E N (J 25 2).toInt a0.toInt jj (fun s m9 => SCL (I 9 2 a1) (hrw jj) (I 9 5 a1) s m9 (I 9 3 a1) (J 3 1 - Int32.ofInt jj) (J 22 2)) (TLY (fun x => SND x (J 101) (fun k => I 6 1 (elt E P 20 k)) (fun k => I 6 3 (elt E P 20 k)) (fun k => I 6 5 (elt E P 20 k)) (CUTP (J 105) (J 106) (J 107) (J 21 2).toInt jj) (I 9 5 a1) (I 9 3 a1) (J 20 2).toInt) (I 9 2 a1) (fun x => HF (I 9 2 a1) (J 110) (J 111) jj (J 4 5) (J 109) (J 108) x) (J 22 2).toInt.toNat) rr) a2.toInt (a3.toInt + 1 - a2.toInt).toNat v)) (fun u t => at_ g A (((hv J [45] [(4, 6), (4, 7), (8, 1), (8, 2), (8, 3), (8, 4), (8, 5), (8, 6), (8, 7), (8, 8), (8, 9)] u.1), L, (hv I [] [(6, 6), (6, 7)] u.2), P, E, N), sgX g ++ dy) t) A) = Q9
  have hx := C.1.1
  have hb := C.1.2.1
  have hts := C.1.2.2.2.2
  have hl : lv_has ls 9 [(0, .ref (g.2.2.1 12)), (1, .int a0), (2, .ref a1), (3, .int a2), (4, .int a3)] := hl
  obtain ⟨H, hH⟩ : ∃ H : Heap, H = s.heap := ⟨_, rfl⟩
  obtain ⟨locs, hlocs⟩ : ∃ q : List Loc, q = [] := ⟨_, rfl⟩
  have hW : WB g A s.heap H locs (J, L, I, P, E, N) (sgX g ++ dy) := by rw [hH, hlocs]; exact hW
  refine start_ hH hlocs ?_
  refine lv_aload_n hx hb dX11_sumOf_0 rfl (lv_at hl 0 rfl) ?_
  refine lv_iload_n hx hb dX11_sumOf_1 rfl (lv_at hl 1 rfl) ?_
  refine lv_iload_n hx hb dX11_sumOf_2 rfl (lv_at hl 3 rfl) ?_
  refine cq_ C hW (runV (x := (g.2.2.1 12)) (As := [.int a0, .int a2]) (rest := []) (T := ((J, L, I, P, E, N), sgX g ++ dy)) C hW (c_X11_inForce_e l g J L I P E N dy H.size a0 a2 hwf) mi_X11_inForce tw_658 (recv_ (T := ((J, L, I, P, E, N), sgX g ++ dy)) C hW (mx_ rfl) rfl rfl) ⟨rfl, rfl, Nat.le_of_ble_eq_true rfl, Nat.le_of_ble_eq_true rfl⟩ rfl hl.1 rfl (Nat.le_of_ble_eq_true rfl) dX11_sumOf_3 ⟨Nat.le_of_ble_eq_true rfl, Nat.le_of_ble_eq_true rfl⟩) (fun q1 u1 H locs hp1 hW => ?_)
  have hq1 : ((q1 = none ∧ (INN (TPU I E P) (TFR I E P) (J 25 2).toInt a0.toInt a2.toInt)) ∨ (∃ o9 : Nat, q1 = some o9 ∧ (10, o9) ∈ dy ∧ (∃ k : Nat, o9 = elt E P 25 k ∧ INF (TPU I E P) (TFR I E P) (J 25 2).toInt a0.toInt a2.toInt k))) := hp1
  clear hp1
  have hW : WB g A s.heap H locs (J, L, I, P, E, N) (sgX g ++ dy) := hW
  rcases hq1 with ⟨ho1, hn1⟩ | ⟨o1, ho1, hm1, hs1⟩ <;> subst ho1
  · refine lv_asv (v' := .null) rfl ?_
    refine lv_astoreN (lv' := [(5, .null), (0, .ref (g.2.2.1 12)), (1, .int a0), (2, .ref a1), (3, .int a2), (4, .int a3)]) hx hb dX11_sumOf_6 hl (by decide) rfl (fun ls hl => ?_)
    refine lv_aloadN hx hb dX11_sumOf_8 (lv_at hl 0 rfl) ?_
    refine lv_ifnonnullN hx hb dX11_sumOf_10 ?_
    refine lv_lconst (v := 0) hx hb dX11_sumOf_13 (by decide) ?_
    have hWr : WB g A s.heap H locs ((hv J [45] [(4, 6), (4, 7), (8, 1), (8, 2), (8, 3), (8, 4), (8, 5), (8, 6), (8, 7), (8, 8), (8, 9)] J), L, (hv I [] [(6, 6), (6, 7)] I), P, E, N) (sgX g ++ dy) := by
      rw [← ag_hvE (J := J) (R := [45]) (F := [(4, 6), (4, 7), (8, 1), (8, 2), (8, 3), (8, 4), (8, 5), (8, 6), (8, 7), (8, 8), (8, 9)]) ag_rf]
      rw [← ag_hvE (J := I) (R := []) (F := [(6, 6), (6, 7)]) ag_rf]
      exact hW
    subst hQ9
    exact end_l C hr hlocks (J, I) hWr (show ∃ v : Int, (0 : Int64) = Int64.ofInt v ∧ SUMS (fun jj rr => WIF I P E N (J 25 2).toInt a0.toInt jj (fun s m9 => SCL (I 9 2 a1) (hrw jj) (I 9 5 a1) s m9 (I 9 3 a1) (J 3 1 - Int32.ofInt jj) (J 22 2)) (TLY (fun x => SND x (J 101) (fun k => I 6 1 (elt E P 20 k)) (fun k => I 6 3 (elt E P 20 k)) (fun k => I 6 5 (elt E P 20 k)) (CUTP (J 105) (J 106) (J 107) (J 21 2).toInt jj) (I 9 5 a1) (I 9 3 a1) (J 20 2).toInt) (I 9 2 a1) (fun x => HF (I 9 2 a1) (J 110) (J 111) jj (J 4 5) (J 109) (J 108) x) (J 22 2).toInt.toNat) rr) a2.toInt (a3.toInt + 1 - a2.toInt).toNat v from by (exact ⟨0, by decide, sums_0 (fun i hi => wif_n hn1 (by omega) (fun k hk h8 => hev k hk ⟨h8.1, Int.le_trans h8.2 (by omega)⟩))⟩)) dX11_sumOf_14
  · refine lv_asv (v' := .ref o1) rfl ?_
    refine lv_astore (lv' := [(5, .ref o1), (0, .ref (g.2.2.1 12)), (1, .int a0), (2, .ref a1), (3, .int a2), (4, .int a3)]) hx hb dX11_sumOf_6 hl (by decide) rfl (fun ls hl => ?_)
    refine lv_aload hx hb dX11_sumOf_8 (lv_at hl 0 rfl) ?_
    refine lv_ifnonnull (tgt := 15) hx hb dX11_sumOf_10 (by decide) ?_
    refine lv_aload hx hb dX11_sumOf_15 (lv_at hl 0 rfl) ?_
    refine rg_10_4 C hW (List.mem_append_right _ hm1) tw_809 dX11_sumOf_17 ?_
    refine lv_topi (fun x2 (e2 : x2 = I 10 4 o1) => ?_)
    have t2 : x2.toInt = (I 10 4 o1).toInt := by rw [e2]
    refine lv_if_ne (tgt := 41) hx hb dX11_sumOf_20 (by decide) (fun c3 => ?_) (fun c3 => ?_)
    · have c3 : ¬ x2.toInt = 0 := tne rfl kp0 c3
      refine lv_lconst (v := 0) hx hb dX11_sumOf_41 (by decide) ?_
      refine lv_lstore (lv' := [(6, .long (0 : Int64)), (5, .ref o1), (0, .ref (g.2.2.1 12)), (1, .int a0), (2, .ref a1), (3, .int a2), (4, .int a3)]) hx hb dX11_sumOf_42 hl (by decide) rfl (fun ls hl => ?_)
      refine lv_iload_n hx hb dX11_sumOf_44 rfl (lv_at hl 5 rfl) ?_
      refine lv_istore (lv' := [(8, .int a2), (6, .long (0 : Int64)), (5, .ref o1), (0, .ref (g.2.2.1 12)), (1, .int a0), (2, .ref a1), (3, .int a2), (4, .int a3)]) hx hb dX11_sumOf_45 hl (by decide) rfl (fun ls hl => ?_)
      have loop47 : ∀ (n : Nat) (m6 : Int64) (m8 : Int32) (Gl4 : Nat → Nat → Int32) (Kl5 : Nat → Nat → Nat → Int32) (H : Heap) (locs : List Loc) (ls : Array Slot), (10000 - m8.toInt).toNat < n → a2.toInt ≤ m8.toInt ∧ m8.toInt ≤ a3.toInt + 1 → (∃ v : Int, m6 = Int64.ofInt v ∧ SUMS (fun jj rr => WIF I P E N (J 25 2).toInt a0.toInt jj (fun s m9 => SCL (I 9 2 a1) (hrw jj) (I 9 5 a1) s m9 (I 9 3 a1) (J 3 1 - Int32.ofInt jj) (J 22 2)) (TLY (fun x => SND x (J 101) (fun k => I 6 1 (elt E P 20 k)) (fun k => I 6 3 (elt E P 20 k)) (fun k => I 6 5 (elt E P 20 k)) (CUTP (J 105) (J 106) (J 107) (J 21 2).toInt jj) (I 9 5 a1) (I 9 3 a1) (J 20 2).toInt) (I 9 2 a1) (fun x => HF (I 9 2 a1) (J 110) (J 111) jj (J 4 5) (J 109) (J 108) x) (J 22 2).toInt.toNat) rr) a2.toInt (m8.toInt - a2.toInt).toNat v) → WB g A s.heap H locs ((hv J [45] [(4, 6), (4, 7), (8, 1), (8, 2), (8, 3), (8, 4), (8, 5), (8, 6), (8, 7), (8, 8), (8, 9)] Gl4), L, (hv I [] [(6, 6), (6, 7)] Kl5), P, E, N) (sgX g ++ dy) → lv_has ls 9 [(8, .int m8), (6, .long m6), (5, .ref o1), (0, .ref (g.2.2.1 12)), (1, .int a0), (2, .ref a1), (3, .int a2), (4, .int a3)] → W p l e (RM (7) 0 0) s m ([.ref (g.2.2.1 12), .int a0, .ref a1, .int a2, .int a3] : List Value).toArray below meth c H locs 0 0 (MQ below Q9 ([.ref (g.2.2.1 12), .int a0, .ref a1, .int a2, .int a3] : List Value).toArray s 0 0 A) (F0 m 47 ls []) := by
        intro n
        induction n with
        | zero => intro m6 m8 Gl4 Kl5 H locs ls hmeas; exact absurd hmeas (Nat.not_lt_zero _)
        | succ n ih =>
          intro m6 m8 Gl4 Kl5 H locs ls hmeas hi hsm hW hl
          refine lv_iload hx hb dX11_sumOf_47 (lv_at hl 0 rfl) ?_
          refine lv_iload hx hb dX11_sumOf_49 (lv_at hl 7 rfl) ?_
          refine lv_icmp_gt (tgt := 75) hx hb dX11_sumOf_51 (by decide) (fun c6 => ?_) (fun c6 => ?_)
          · have c6 : a3.toInt < m8.toInt := tlt rfl rfl c6
            refine lv_lload hx hb dX11_sumOf_75 (lv_at hl 1 rfl) ?_
            have hWr : WB g A s.heap H locs ((hv J [45] [(4, 6), (4, 7), (8, 1), (8, 2), (8, 3), (8, 4), (8, 5), (8, 6), (8, 7), (8, 8), (8, 9)] (hv J [45] [(4, 6), (4, 7), (8, 1), (8, 2), (8, 3), (8, 4), (8, 5), (8, 6), (8, 7), (8, 8), (8, 9)] Gl4)), L, (hv I [] [(6, 6), (6, 7)] (hv I [] [(6, 6), (6, 7)] Kl5)), P, E, N) (sgX g ++ dy) := by
              rw [← ag_hvE (J := J) (R := [45]) (F := [(4, 6), (4, 7), (8, 1), (8, 2), (8, 3), (8, 4), (8, 5), (8, 6), (8, 7), (8, 8), (8, 9)]) (ag_hv rfl rfl ag_rf)]
              rw [← ag_hvE (J := I) (R := []) (F := [(6, 6), (6, 7)]) (ag_hv rfl rfl ag_rf)]
              exact hW
            subst hQ9
            exact end_l C hr hlocks ((hv J [45] [(4, 6), (4, 7), (8, 1), (8, 2), (8, 3), (8, 4), (8, 5), (8, 6), (8, 7), (8, 8), (8, 9)] Gl4), (hv I [] [(6, 6), (6, 7)] Kl5)) hWr (show ∃ v : Int, m6 = Int64.ofInt v ∧ SUMS (fun jj rr => WIF I P E N (J 25 2).toInt a0.toInt jj (fun s m9 => SCL (I 9 2 a1) (hrw jj) (I 9 5 a1) s m9 (I 9 3 a1) (J 3 1 - Int32.ofInt jj) (J 22 2)) (TLY (fun x => SND x (J 101) (fun k => I 6 1 (elt E P 20 k)) (fun k => I 6 3 (elt E P 20 k)) (fun k => I 6 5 (elt E P 20 k)) (CUTP (J 105) (J 106) (J 107) (J 21 2).toInt jj) (I 9 5 a1) (I 9 3 a1) (J 20 2).toInt) (I 9 2 a1) (fun x => HF (I 9 2 a1) (J 110) (J 111) jj (J 4 5) (J 109) (J 108) x) (J 22 2).toInt.toNat) rr) a2.toInt (a3.toInt + 1 - a2.toInt).toNat v from by (obtain ⟨v9, q1, q2⟩ := hsm; have e9 : m8.toInt = a3.toInt + 1 := (by omega); rw [e9] at q2; exact ⟨v9, q1, q2⟩)) dX11_sumOf_77
          · have c6 : m8.toInt ≤ a3.toInt := tnlt rfl rfl c6
            refine lv_lload hx hb dX11_sumOf_54 (lv_at hl 1 rfl) ?_
            refine lv_aload_n hx hb dX11_sumOf_56 rfl (lv_at hl 3 rfl) ?_
            refine lv_aload hx hb dX11_sumOf_57 (lv_at hl 2 rfl) ?_
            refine lv_aload_n hx hb dX11_sumOf_59 rfl (lv_at hl 5 rfl) ?_
            refine lv_iload hx hb dX11_sumOf_60 (lv_at hl 0 rfl) ?_
            refine ci_ C hW (runV (x := (g.2.2.1 12)) (As := [.ref o1, .ref a1, .int m8]) (rest := [.long m6]) (T := (((hv J [45] [(4, 6), (4, 7), (8, 1), (8, 2), (8, 3), (8, 4), (8, 5), (8, 6), (8, 7), (8, 8), (8, 9)] Gl4), L, (hv I [] [(6, 6), (6, 7)] Kl5), P, E, N), sgX g ++ dy)) C hW (c_X11_valueOf_e l g (hv J [45] [(4, 6), (4, 7), (8, 1), (8, 2), (8, 3), (8, 4), (8, 5), (8, 6), (8, 7), (8, 8), (8, 9)] Gl4) L (hv I [] [(6, 6), (6, 7)] Kl5) P E N dy H.size o1 hm1 a1 hma1 m8 hwf (show NTR (P 6 0) (elt E P 20) (J 101) (J 20 2).toInt from hnt) (show INJ E P 20 (J 20 2).toInt from hij) (show CUR (P 1 0) ((hv I [] [(6, 6), (6, 7)] Kl5) 1 1) ((hv I [] [(6, 6), (6, 7)] Kl5) 1 2) (elt E P 21) (elt E P 20) (J 105) (J 106) (J 107) (J 21 2).toInt (J 20 2).toInt from hcu) (show HMR (P 2 0) ((hv I [] [(6, 6), (6, 7)] Kl5) 2 1) ((hv I [] [(6, 6), (6, 7)] Kl5) 2 2) ((hv I [] [(6, 6), (6, 7)] Kl5) 2 3) (elt E P 22) (elt E P 20) (J 108) (J 109) (J 110) (J 111) (J 22 2).toInt (J 20 2).toInt from hhm) (show 0 ≤ m8.toInt ∧ m8.toInt ≤ 9999 from (by omega)) (show ∀ b : Nat, P 10 2 o1 = some b → ∀ i : Nat, i < N b → -200 ≤ ((hv I [] [(6, 6), (6, 7)] Kl5) 46 i b).toInt from fun b9 hb9 => cdb_at hcdb hs1 hb9) (show 0 ≤ (J 3 1).toInt ∧ (J 3 1).toInt ≤ 9999 from hnw9)) mi_X11_valueOf tw_830 (recv_ (T := (((hv J [45] [(4, 6), (4, 7), (8, 1), (8, 2), (8, 3), (8, 4), (8, 5), (8, 6), (8, 7), (8, 8), (8, 9)] Gl4), L, (hv I [] [(6, 6), (6, 7)] Kl5), P, E, N), sgX g ++ dy)) C hW (mx_ rfl) rfl rfl) ⟨rfl, rfl, Nat.le_of_ble_eq_true rfl, Nat.le_of_ble_eq_true rfl⟩ rfl hl.1 rfl (Nat.le_of_ble_eq_true rfl) dX11_sumOf_62 ⟨Nat.le_of_ble_eq_true rfl, Nat.le_of_ble_eq_true rfl⟩) (fun r7 u7 H locs hp7 hW => ?_)
            have hf7_0 : (∀ b : Nat, P 10 2 o1 = some b → ∃ s m : Int32, r7 = WGH (SCL ((hv I [] [(6, 6), (6, 7)] Kl5) 9 2 a1) (hrw m8.toInt) ((hv I [] [(6, 6), (6, 7)] Kl5) 9 5 a1) s m ((hv I [] [(6, 6), (6, 7)] Kl5) 9 3 a1) (J 3 1 - m8) (J 22 2)) (cs (fun i => (hv I [] [(6, 6), (6, 7)] Kl5) 46 i b) 0 (N b)) ∧ (¬ ((hv I [] [(6, 6), (6, 7)] Kl5) 10 3 o1).toInt = 0 → TLY (fun x => SND x (J 101) (fun k => (hv I [] [(6, 6), (6, 7)] Kl5) 6 1 (elt E P 20 k)) (fun k => (hv I [] [(6, 6), (6, 7)] Kl5) 6 3 (elt E P 20 k)) (fun k => (hv I [] [(6, 6), (6, 7)] Kl5) 6 5 (elt E P 20 k)) (CUTP (J 105) (J 106) (J 107) (J 21 2).toInt m8.toInt) ((hv I [] [(6, 6), (6, 7)] Kl5) 9 5 a1) ((hv I [] [(6, 6), (6, 7)] Kl5) 9 3 a1) (J 20 2).toInt) ((hv I [] [(6, 6), (6, 7)] Kl5) 9 2 a1) (fun x => HF ((hv I [] [(6, 6), (6, 7)] Kl5) 9 2 a1) (J 110) (J 111) m8.toInt (J 4 5) (J 109) (J 108) x) (J 22 2).toInt.toNat s m)) := hp7
            clear hp7
            have hW : WB g A s.heap H locs ((hv (hv J [45] [(4, 6), (4, 7), (8, 1), (8, 2), (8, 3), (8, 4), (8, 5), (8, 6), (8, 7), (8, 8), (8, 9)] Gl4) [45] [(4, 6), (4, 7), (8, 1), (8, 2), (8, 3), (8, 4), (8, 5), (8, 6), (8, 7), (8, 8), (8, 9)] u7.1), L, (hv (hv I [] [(6, 6), (6, 7)] Kl5) [] [(6, 6), (6, 7)] u7.2), P, E, N) (sgX g ++ dy) := hW
            have hVL := hf7_0
            refine lv_i2l (v := r7.toInt64) hx hb dX11_sumOf_65 rfl ?_
            refine lv_ladd hx hb dX11_sumOf_66 ?_
            refine lv_topl (fun z8 ez8 => ?_)
            refine lv_lstore (lv' := [(6, .long z8), (8, .int m8), (5, .ref o1), (0, .ref (g.2.2.1 12)), (1, .int a0), (2, .ref a1), (3, .int a2), (4, .int a3)]) hx hb dX11_sumOf_67 hl (by decide) rfl (fun ls hl => ?_)
            obtain ⟨x9, e9⟩ : ∃ y : Int32, y = m8 + 1 := ⟨_, rfl⟩
            refine lv_iinc (v := x9) (lv' := [(8, .int x9), (6, .long z8), (5, .ref o1), (0, .ref (g.2.2.1 12)), (1, .int a0), (2, .ref a1), (3, .int a2), (4, .int a3)]) hx hb dX11_sumOf_69 hl (k := 1) rfl (by rw [e9]; rfl) (by decide) rfl (fun ls hl => ?_)
            try have t9 : x9.toInt = m8.toInt + 1 := tadd e9 rfl kp1 (by omega)
            refine lv_goto (tgt := 47) hx hb dX11_sumOf_72 (by decide) ?_
            have hWl : WB g A s.heap H locs ((hv J [45] [(4, 6), (4, 7), (8, 1), (8, 2), (8, 3), (8, 4), (8, 5), (8, 6), (8, 7), (8, 8), (8, 9)] (hv (hv J [45] [(4, 6), (4, 7), (8, 1), (8, 2), (8, 3), (8, 4), (8, 5), (8, 6), (8, 7), (8, 8), (8, 9)] Gl4) [45] [(4, 6), (4, 7), (8, 1), (8, 2), (8, 3), (8, 4), (8, 5), (8, 6), (8, 7), (8, 8), (8, 9)] u7.1)), L, (hv I [] [(6, 6), (6, 7)] (hv (hv I [] [(6, 6), (6, 7)] Kl5) [] [(6, 6), (6, 7)] u7.2)), P, E, N) (sgX g ++ dy) := by
              rw [← ag_hvE (J := J) (R := [45]) (F := [(4, 6), (4, 7), (8, 1), (8, 2), (8, 3), (8, 4), (8, 5), (8, 6), (8, 7), (8, 8), (8, 9)]) (ag_hv rfl rfl (ag_hv rfl rfl ag_rf))]
              rw [← ag_hvE (J := I) (R := []) (F := [(6, 6), (6, 7)]) (ag_hv rfl rfl (ag_hv rfl rfl ag_rf))]
              exact hW
            refine ih z8 x9 (hv (hv J [45] [(4, 6), (4, 7), (8, 1), (8, 2), (8, 3), (8, 4), (8, 5), (8, 6), (8, 7), (8, 8), (8, 9)] Gl4) [45] [(4, 6), (4, 7), (8, 1), (8, 2), (8, 3), (8, 4), (8, 5), (8, 6), (8, 7), (8, 8), (8, 9)] u7.1) (hv (hv I [] [(6, 6), (6, 7)] Kl5) [] [(6, 6), (6, 7)] u7.2) H locs ls ?_ ?_ ?_ hWl (lv_sub hl [0, 1, 2, 3, 4, 5, 6, 7] rfl)
            · show (10000 - x9.toInt).toNat < n
              omega
            · show a2.toInt ≤ x9.toInt ∧ x9.toInt ≤ a3.toInt + 1
              first | omega | exact hi | assumption
            · show ∃ v : Int, z8 = Int64.ofInt v ∧ SUMS (fun jj rr => WIF I P E N (J 25 2).toInt a0.toInt jj (fun s m9 => SCL (I 9 2 a1) (hrw jj) (I 9 5 a1) s m9 (I 9 3 a1) (J 3 1 - Int32.ofInt jj) (J 22 2)) (TLY (fun x => SND x (J 101) (fun k => I 6 1 (elt E P 20 k)) (fun k => I 6 3 (elt E P 20 k)) (fun k => I 6 5 (elt E P 20 k)) (CUTP (J 105) (J 106) (J 107) (J 21 2).toInt jj) (I 9 5 a1) (I 9 3 a1) (J 20 2).toInt) (I 9 2 a1) (fun x => HF (I 9 2 a1) (J 110) (J 111) jj (J 4 5) (J 109) (J 108) x) (J 22 2).toInt.toNat) rr) a2.toInt (x9.toInt - a2.toInt).toNat v
              (obtain ⟨v9, q1, q2⟩ := hsm; obtain ⟨b9, hb9, -⟩ := (hwf.2.2.2.2.2 o1 hm1); exact ⟨_, z_add q1 ez8, sums_s q2 (by omega) (by omega) (wif_t (wif_s hs1 hb9 hVL (by omega) (fun k hk h8 => hev k hk ⟨h8.1, Int.le_trans h8.2 (by omega)⟩)))⟩)
      -- into the loop
      have hWl : WB g A s.heap H locs ((hv J [45] [(4, 6), (4, 7), (8, 1), (8, 2), (8, 3), (8, 4), (8, 5), (8, 6), (8, 7), (8, 8), (8, 9)] J), L, (hv I [] [(6, 6), (6, 7)] I), P, E, N) (sgX g ++ dy) := by
        rw [← ag_hvE (J := J) (R := [45]) (F := [(4, 6), (4, 7), (8, 1), (8, 2), (8, 3), (8, 4), (8, 5), (8, 6), (8, 7), (8, 8), (8, 9)]) ag_rf]
        rw [← ag_hvE (J := I) (R := []) (F := [(6, 6), (6, 7)]) ag_rf]
        exact hW
      refine loop47 ((10000 - a2.toInt).toNat + 1) (0 : Int64) a2 J I H locs ls ?_ ?_ ?_ hWl (lv_sub hl [0, 1, 2, 3, 4, 5, 6, 7] rfl)
      · exact Nat.lt_succ_self _
      · show a2.toInt ≤ a2.toInt ∧ a2.toInt ≤ a3.toInt + 1
        first | omega | exact hi | assumption
      · show ∃ v : Int, (0 : Int64) = Int64.ofInt v ∧ SUMS (fun jj rr => WIF I P E N (J 25 2).toInt a0.toInt jj (fun s m9 => SCL (I 9 2 a1) (hrw jj) (I 9 5 a1) s m9 (I 9 3 a1) (J 3 1 - Int32.ofInt jj) (J 22 2)) (TLY (fun x => SND x (J 101) (fun k => I 6 1 (elt E P 20 k)) (fun k => I 6 3 (elt E P 20 k)) (fun k => I 6 5 (elt E P 20 k)) (CUTP (J 105) (J 106) (J 107) (J 21 2).toInt jj) (I 9 5 a1) (I 9 3 a1) (J 20 2).toInt) (I 9 2 a1) (fun x => HF (I 9 2 a1) (J 110) (J 111) jj (J 4 5) (J 109) (J 108) x) (J 22 2).toInt.toNat) rr) a2.toInt (a2.toInt - a2.toInt).toNat v
        (refine ⟨0, by decide, ?_⟩; rw [Int.sub_self]; rfl)
    · have c3 : x2.toInt = 0 := teq rfl kp0 c3
      refine lv_aload_n hx hb dX11_sumOf_23 rfl (lv_at hl 1 rfl) ?_
      refine lv_aload hx hb dX11_sumOf_24 (lv_at hl 0 rfl) ?_
      refine lv_aload_n hx hb dX11_sumOf_26 rfl (lv_at hl 3 rfl) ?_
      refine lv_iload_n hx hb dX11_sumOf_27 rfl (lv_at hl 4 rfl) ?_
      refine ci_ C hW (runV (x := (g.2.2.1 12)) (As := [.ref o1, .ref a1, .int a2]) (rest := []) (T := ((J, L, I, P, E, N), sgX g ++ dy)) C hW (c_X11_valueOf_e l g J L I P E N dy H.size o1 hm1 a1 hma1 a2 hwf (show NTR (P 6 0) (elt E P 20) (J 101) (J 20 2).toInt from hnt) (show INJ E P 20 (J 20 2).toInt from hij) (show CUR (P 1 0) (I 1 1) (I 1 2) (elt E P 21) (elt E P 20) (J 105) (J 106) (J 107) (J 21 2).toInt (J 20 2).toInt from hcu) (show HMR (P 2 0) (I 2 1) (I 2 2) (I 2 3) (elt E P 22) (elt E P 20) (J 108) (J 109) (J 110) (J 111) (J 22 2).toInt (J 20 2).toInt from hhm) (show 0 ≤ a2.toInt ∧ a2.toInt ≤ 9999 from (by omega)) (show ∀ b : Nat, P 10 2 o1 = some b → ∀ i : Nat, i < N b → -200 ≤ (I 46 i b).toInt from fun b9 hb9 => cdb_at hcdb hs1 hb9) (show 0 ≤ (J 3 1).toInt ∧ (J 3 1).toInt ≤ 9999 from hnw9)) mi_X11_valueOf tw_830 (recv_ (T := ((J, L, I, P, E, N), sgX g ++ dy)) C hW (mx_ rfl) rfl rfl) ⟨rfl, rfl, Nat.le_of_ble_eq_true rfl, Nat.le_of_ble_eq_true rfl⟩ rfl hl.1 rfl (Nat.le_of_ble_eq_true rfl) dX11_sumOf_28 ⟨Nat.le_of_ble_eq_true rfl, Nat.le_of_ble_eq_true rfl⟩) (fun r10 u10 H locs hp10 hW => ?_)
      have hf10_0 : (∀ b : Nat, P 10 2 o1 = some b → ∃ s m : Int32, r10 = WGH (SCL (I 9 2 a1) (hrw a2.toInt) (I 9 5 a1) s m (I 9 3 a1) (J 3 1 - a2) (J 22 2)) (cs (fun i => I 46 i b) 0 (N b)) ∧ (¬ (I 10 3 o1).toInt = 0 → TLY (fun x => SND x (J 101) (fun k => I 6 1 (elt E P 20 k)) (fun k => I 6 3 (elt E P 20 k)) (fun k => I 6 5 (elt E P 20 k)) (CUTP (J 105) (J 106) (J 107) (J 21 2).toInt a2.toInt) (I 9 5 a1) (I 9 3 a1) (J 20 2).toInt) (I 9 2 a1) (fun x => HF (I 9 2 a1) (J 110) (J 111) a2.toInt (J 4 5) (J 109) (J 108) x) (J 22 2).toInt.toNat s m)) := hp10
      clear hp10
      have hW : WB g A s.heap H locs ((hv J [45] [(4, 6), (4, 7), (8, 1), (8, 2), (8, 3), (8, 4), (8, 5), (8, 6), (8, 7), (8, 8), (8, 9)] u10.1), L, (hv I [] [(6, 6), (6, 7)] u10.2), P, E, N) (sgX g ++ dy) := hW
      have hVO := hf10_0
      refine lv_i2l (v := r10.toInt64) hx hb dX11_sumOf_31 rfl ?_
      refine lv_iload hx hb dX11_sumOf_32 (lv_at hl 5 rfl) ?_
      refine lv_iload_n hx hb dX11_sumOf_34 rfl (lv_at hl 4 rfl) ?_
      refine lv_isub hx hb dX11_sumOf_35 ?_
      refine lv_topi (fun x11 (e11 : x11 = a3 - a2) => ?_)
      try have t11 : x11.toInt = a3.toInt - a2.toInt := tsub e11 rfl rfl (by omega)
      refine lv_iconst (v := 1) hx hb dX11_sumOf_36 (by decide) ?_
      refine lv_iadd hx hb dX11_sumOf_37 ?_
      refine lv_topi (fun x12 (e12 : x12 = x11 + 1) => ?_)
      try have t12 : x12.toInt = x11.toInt + 1 := tadd e12 rfl kp1 (by omega)
      refine lv_i2l (v := x12.toInt64) hx hb dX11_sumOf_38 rfl ?_
      refine lv_lmul hx hb dX11_sumOf_39 ?_
      refine lv_topl (fun z13 ez13 => ?_)
      have hWr : WB g A s.heap H locs ((hv J [45] [(4, 6), (4, 7), (8, 1), (8, 2), (8, 3), (8, 4), (8, 5), (8, 6), (8, 7), (8, 8), (8, 9)] (hv J [45] [(4, 6), (4, 7), (8, 1), (8, 2), (8, 3), (8, 4), (8, 5), (8, 6), (8, 7), (8, 8), (8, 9)] u10.1)), L, (hv I [] [(6, 6), (6, 7)] (hv I [] [(6, 6), (6, 7)] u10.2)), P, E, N) (sgX g ++ dy) := by
        rw [← ag_hvE (J := J) (R := [45]) (F := [(4, 6), (4, 7), (8, 1), (8, 2), (8, 3), (8, 4), (8, 5), (8, 6), (8, 7), (8, 8), (8, 9)]) (ag_hv rfl rfl ag_rf)]
        rw [← ag_hvE (J := I) (R := []) (F := [(6, 6), (6, 7)]) (ag_hv rfl rfl ag_rf)]
        exact hW
      subst hQ9
      exact end_l C hr hlocks ((hv J [45] [(4, 6), (4, 7), (8, 1), (8, 2), (8, 3), (8, 4), (8, 5), (8, 6), (8, 7), (8, 8), (8, 9)] u10.1), (hv I [] [(6, 6), (6, 7)] u10.2)) hWr (show ∃ v : Int, z13 = Int64.ofInt v ∧ SUMS (fun jj rr => WIF I P E N (J 25 2).toInt a0.toInt jj (fun s m9 => SCL (I 9 2 a1) (hrw jj) (I 9 5 a1) s m9 (I 9 3 a1) (J 3 1 - Int32.ofInt jj) (J 22 2)) (TLY (fun x => SND x (J 101) (fun k => I 6 1 (elt E P 20 k)) (fun k => I 6 3 (elt E P 20 k)) (fun k => I 6 5 (elt E P 20 k)) (CUTP (J 105) (J 106) (J 107) (J 21 2).toInt jj) (I 9 5 a1) (I 9 3 a1) (J 20 2).toInt) (I 9 2 a1) (fun x => HF (I 9 2 a1) (J 110) (J 111) jj (J 4 5) (J 109) (J 108) x) (J 22 2).toInt.toNat) rr) a2.toInt (a3.toInt + 1 - a2.toInt).toNat v from by (obtain ⟨b9, hb9, -⟩ := (hwf.2.2.2.2.2 o1 hm1); refine ⟨_, z_mul (n := (a3.toInt + 1 - a2.toInt).toNat) ez13 (by omega), sums_c _ (fun i hi => ?_)⟩; exact wif_j hs1 hb9 hask (by omega) hVO (fun s9 m9 h9 => by rcases hkd with h6 | h6; exact tly_6 h6 h9; (rw [show a2.toInt + (i : Int) = a2.toInt by omega]; exact h9)) (by omega) (fun k hk h8 => hev k hk ⟨h8.1, Int.le_trans h8.2 (by omega)⟩) (hrw_c (by omega)))) dX11_sumOf_40

set_option maxHeartbeats 4000000 in
set_option maxRecDepth 100000 in
theorem c_X11_account_a (l : Launch) (g : gG) (J : Nat → Nat → Int32) (L : Nat → Nat → Int64) (I : Nat → Nat → Nat → Int32) (P : Nat → Nat → Nat → Option Nat) (E : Nat → Option Nat) (N : Nat → Nat) (dy : List (Nat × Nat)) (sz : Nat) (a0 : Int32) (a1 : Int32) (hwf : WXF g J P E N dy) (hnt : NTR (P 6 0) (elt E P 20) (J 101) (J 20 2).toInt) (hij : INJ E P 20 (J 20 2).toInt) (hcu : CUR (P 1 0) (I 1 1) (I 1 2) (elt E P 21) (elt E P 20) (J 105) (J 106) (J 107) (J 21 2).toInt (J 20 2).toInt) (hhm : HMR (P 2 0) (I 2 1) (I 2 2) (I 2 3) (elt E P 22) (elt E P 20) (J 108) (J 109) (J 110) (J 111) (J 22 2).toInt (J 20 2).toInt) (hspr : SPR I E P (J 27 2).toInt (J 3 1).toInt (J 116) (J 117) (J 118) (J 119) (J 120)) (hspk : SPK I E P (J 27 2).toInt) (hcdb : CDB I P E N (J 25 2).toInt) (hnw9 : 0 ≤ (J 3 1).toInt ∧ (J 3 1).toInt ≤ 9999) (hask : ASK I P E N (J 25 2).toInt) : Met l yX11_account (WS yX11_account cX11_account 9 (some .long)) (RM (8) 0 0) (PC g [.ref (g.2.2.1 12), .int a0, .int a1] ((J, L, I, P, E, N), sgX g ++ dy) sz) (va_Ql (fun (r : Int64) (u : (Nat → Nat → Int32) × (Nat → Nat → Nat → Int32)) => ((r = (4000000000000000001 : Int64) ∧ (¬ (0 ≤ a0.toInt ∧ a0.toInt ≤ a1.toInt ∧ a1.toInt < (J 3 1).toInt))) ∨ (r = r ∧ (0 ≤ a0.toInt ∧ a0.toInt ≤ a1.toInt ∧ a1.toInt < (J 3 1).toInt) ∧ (∃ v1 v0 : Int, r = Int64.ofInt (v1 - v0) ∧ SUMS (fun jj rr => WIF I P E N (J 25 2).toInt 1 jj (fun s m9 => SCL (J 116 jj.toNat) (hrw jj) (J 118 jj.toNat) s m9 (J 120 jj.toNat) (J 3 1 - Int32.ofInt jj) (J 22 2)) (TLY (fun x => SND x (J 101) (fun k => I 6 1 (elt E P 20 k)) (fun k => I 6 3 (elt E P 20 k)) (fun k => I 6 5 (elt E P 20 k)) (CUTP (J 105) (J 106) (J 107) (J 21 2).toInt jj) (J 118 jj.toNat) (J 120 jj.toNat) (J 20 2).toInt) (J 116 jj.toNat) (fun x => HF (J 116 jj.toNat) (J 110) (J 111) jj (J 4 5) (J 109) (J 108) x) (J 22 2).toInt.toNat) rr) a0.toInt ((a1.toInt + 1) - a0.toInt).toNat v1 ∧ SUMS (fun jj rr => WIF I P E N (J 25 2).toInt 0 jj (fun s m9 => SCL (J 116 jj.toNat) (hrw jj) (J 118 jj.toNat) s m9 (J 120 jj.toNat) (J 3 1 - Int32.ofInt jj) (J 22 2)) (TLY (fun x => SND x (J 101) (fun k => I 6 1 (elt E P 20 k)) (fun k => I 6 3 (elt E P 20 k)) (fun k => I 6 5 (elt E P 20 k)) (CUTP (J 105) (J 106) (J 107) (J 21 2).toInt jj) (J 118 jj.toNat) (J 120 jj.toNat) (J 20 2).toInt) (J 116 jj.toNat) (fun x => HF (J 116 jj.toNat) (J 110) (J 111) jj (J 4 5) (J 109) (J 108) x) (J 22 2).toInt.toNat) rr) a0.toInt ((a1.toInt + 1) - a0.toInt).toNat v0)))) (fun u t => at_ g (FR g ((J, L, I, P, E, N), sgX g ++ dy) sz) (((hv J [42, 45] [(4, 6), (4, 7), (8, 1), (8, 2), (8, 3), (8, 4), (8, 5), (8, 6), (8, 7), (8, 8), (8, 9)] u.1), L, (hv I [] [(6, 6), (6, 7)] u.2), P, E, N), sgX g ++ dy) t) (FR g ((J, L, I, P, E, N), sgX g ++ dy) sz)) 0 0 (FR g ((J, L, I, P, E, N), sgX g ++ dy) sz) := by
  refine ent (by decide +kernel) (Nat.le_of_ble_eq_true rfl) ?_
  intro p e s m below meth c ls hsz C hW hr hlocks hname hl
  generalize FR g ((J, L, I, P, E, N), sgX g ++ dy) sz = A at C hW ⊢
  generalize hQ9 : (va_Ql (fun (r : Int64) (u : (Nat → Nat → Int32) × (Nat → Nat → Nat → Int32)) => ((r = (4000000000000000001 : Int64) ∧ (¬ (0 ≤ a0.toInt ∧ a0.toInt ≤ a1.toInt ∧ a1.toInt < (J 3 1).toInt))) ∨ (r = r ∧ (0 ≤ a0.toInt ∧ a0.toInt ≤ a1.toInt ∧ a1.toInt < (J 3 1).toInt) ∧ (∃ v1 v0 : Int, r = Int64.ofInt (v1 - v0) ∧ SUMS (fun jj rr => WIF I P E N (J 25 2).toInt 1 jj (fun s m9 => SCL (J 116 jj.toNat) (hrw jj) (J 118 jj.toNat) s m9 (J 120 jj.toNat) (J 3 1 - Int32.ofInt jj) (J 22 2)) (TLY (fun x => SND x (J 101) (fun k => I 6 1 (elt E P 20 k)) (fun k => I 6 3 (elt E P 20 k)) (fun k => I 6 5 (elt E P 20 k)) (CUTP (J 105) (J 106) (J 107) (J 21 2).toInt jj) (J 118 jj.toNat) (J 120 jj.toNat) (J 20 2).toInt) (J 116 jj.toNat) (fun x => HF (J 116 jj.toNat) (J 110) (J 111) jj (J 4 5) (J 109) (J 108) x) (J 22 2).toInt.toNat) rr) a0.toInt ((a1.toInt + 1) - a0.toInt).toNat v1 ∧ SUMS (fun jj rr => WIF I P E N (J 25 2).toInt 0 jj (fun s m9 => SCL (J 116 jj.toNat) (hrw jj) (J 118 jj.toNat) s m9 (J 120 jj.toNat) (J 3 1 - Int32.ofInt jj) (J 22 2)) (TLY (fun x => SND x (J 101) (fun k => I 6 1 (elt E P 20 k)) (fun k => I 6 3 (elt E P 20 k)) (fun k => I 6 5 (elt E P 20 k)) (CUTP (J 105) (J 106) (J 107) (J 21 2).toInt jj) (J 118 jj.toNat) (J 120 jj.toNat) (J 20 2).toInt) (J 116 jj.toNat) (fun x => HF (J 116 jj.toNat) (J 110) (J 111) jj (J 4 5) (J 109) (J 108) x) (J 22 2).toInt.toNat) rr) a0.toInt ((a1.toInt + 1) - a0.toInt).toNat v0)))) (fun u t => at_ g A (((hv J [42, 45] [(4, 6), (4, 7), (8, 1), (8, 2), (8, 3), (8, 4), (8, 5), (8, 6), (8, 7), (8, 8), (8, 9)] u.1), L, (hv I [] [(6, 6), (6, 7)] u.2), P, E, N), sgX g ++ dy) t) A) = Q9
  have hx := C.1.1
  have hb := C.1.2.1
  have hts := C.1.2.2.2.2
  have hl : lv_has ls 9 [(0, .ref (g.2.2.1 12)), (1, .int a0), (2, .int a1)] := hl
  obtain ⟨H, hH⟩ : ∃ H : Heap, H = s.heap := ⟨_, rfl⟩
  obtain ⟨locs, hlocs⟩ : ∃ q : List Loc, q = [] := ⟨_, rfl⟩
  have hW : WB g A s.heap H locs (J, L, I, P, E, N) (sgX g ++ dy) := by rw [hH, hlocs]; exact hW
  have hrn := i32r (J 3 1)
  refine start_ hH hlocs ?_
  refine lv_iload_n hx hb dX11_account_0 rfl (lv_at hl 1 rfl) ?_
  refine lv_if_lt (tgt := 20) hx hb dX11_account_1 (by decide) (fun c1 => ?_) (fun c1 => ?_)
  · have c1 : a0.toInt < 0 := tlt rfl kp0 c1
    refine lv_ldc2 hx hb C.1.2.2.2.1 (hts _ tw_838) dX11_account_20 ?_
    refine lv_aload_n hx hb dX11_account_23 rfl (lv_at hl 0 rfl) ?_
    refine lv_iconst (v := (-1)) hx hb dX11_account_24 (by decide) ?_
    refine ci_ C hW (runV (x := (g.2.2.1 12)) (As := [.int (-1)]) (rest := [.long (4000000000000000000 : Int64)]) (T := ((J, L, I, P, E, N), sgX g ++ dy)) C hW (c_X11_refuse l g J L I P E N dy H.size (-1) hwf) mi_X11_refuse tw_411 (recv_ (T := ((J, L, I, P, E, N), sgX g ++ dy)) C hW (mx_ rfl) rfl rfl) ⟨rfl, rfl, Nat.le_of_ble_eq_true rfl, Nat.le_of_ble_eq_true rfl⟩ rfl hl.1 rfl (Nat.le_of_ble_eq_true rfl) dX11_account_25 ⟨Nat.le_of_ble_eq_true rfl, Nat.le_of_ble_eq_true rfl⟩) (fun r2 u2 H locs hp2 hW => ?_)
    have hc2 : ((r2 = (-1))) := hp2
    clear hp2
    have hr2 : r2.toInt = (-1) := by rw [hc2]; exact kn1
    have hW : WB g A s.heap H locs ((hv J [42] [] u2), L, I, P, E, N) (sgX g ++ dy) := hW
    refine lv_i2l (v := r2.toInt64) hx hb dX11_account_28 rfl ?_
    refine lv_lsub hx hb dX11_account_29 ?_
    refine lv_topl (fun z3 ez3 => ?_)
    have hz9 : z3 = (4000000000000000001 : Int64) := by rw [ez3, hc2]; first | rfl | decide +kernel
    have hWr : WB g A s.heap H locs ((hv J [42, 45] [(4, 6), (4, 7), (8, 1), (8, 2), (8, 3), (8, 4), (8, 5), (8, 6), (8, 7), (8, 8), (8, 9)] (hv J [42] [] u2)), L, (hv I [] [(6, 6), (6, 7)] I), P, E, N) (sgX g ++ dy) := by
      rw [← ag_hvE (J := J) (R := [42, 45]) (F := [(4, 6), (4, 7), (8, 1), (8, 2), (8, 3), (8, 4), (8, 5), (8, 6), (8, 7), (8, 8), (8, 9)]) (ag_hv rfl rfl ag_rf)]
      rw [← ag_hvE (J := I) (R := []) (F := [(6, 6), (6, 7)]) ag_rf]
      exact hW
    subst hQ9
    exact end_l C hr hlocks ((hv J [42] [] u2), I) hWr (by first | exact Or.inl ⟨by first | rfl | assumption, by omega⟩) dX11_account_30
  · have c1 : 0 ≤ a0.toInt := tnlt rfl kp0 c1
    refine lv_iload_n hx hb dX11_account_4 rfl (lv_at hl 2 rfl) ?_
    refine lv_aload_n hx hb dX11_account_5 rfl (lv_at hl 0 rfl) ?_
    refine rg_12_1 C hW (mx_ rfl) tw_365 dX11_account_6 ?_
    refine rg_3_1 C hW (mx_ rfl) tw_278 dX11_account_9 ?_
    refine lv_icmp_ge (tgt := 20) hx hb dX11_account_12 (by decide) (fun c4 => ?_) (fun c4 => ?_)
    · have c4 : (J 3 1).toInt ≤ a1.toInt := tle rfl rfl c4
      refine lv_ldc2 hx hb C.1.2.2.2.1 (hts _ tw_838) dX11_account_20 ?_
      refine lv_aload_n hx hb dX11_account_23 rfl (lv_at hl 0 rfl) ?_
      refine lv_iconst (v := (-1)) hx hb dX11_account_24 (by decide) ?_
      refine ci_ C hW (runV (x := (g.2.2.1 12)) (As := [.int (-1)]) (rest := [.long (4000000000000000000 : Int64)]) (T := ((J, L, I, P, E, N), sgX g ++ dy)) C hW (c_X11_refuse l g J L I P E N dy H.size (-1) hwf) mi_X11_refuse tw_411 (recv_ (T := ((J, L, I, P, E, N), sgX g ++ dy)) C hW (mx_ rfl) rfl rfl) ⟨rfl, rfl, Nat.le_of_ble_eq_true rfl, Nat.le_of_ble_eq_true rfl⟩ rfl hl.1 rfl (Nat.le_of_ble_eq_true rfl) dX11_account_25 ⟨Nat.le_of_ble_eq_true rfl, Nat.le_of_ble_eq_true rfl⟩) (fun r5 u5 H locs hp5 hW => ?_)
      have hc5 : ((r5 = (-1))) := hp5
      clear hp5
      have hr5 : r5.toInt = (-1) := by rw [hc5]; exact kn1
      have hW : WB g A s.heap H locs ((hv J [42] [] u5), L, I, P, E, N) (sgX g ++ dy) := hW
      refine lv_i2l (v := r5.toInt64) hx hb dX11_account_28 rfl ?_
      refine lv_lsub hx hb dX11_account_29 ?_
      refine lv_topl (fun z6 ez6 => ?_)
      have hz9 : z6 = (4000000000000000001 : Int64) := by rw [ez6, hc5]; first | rfl | decide +kernel
      have hWr : WB g A s.heap H locs ((hv J [42, 45] [(4, 6), (4, 7), (8, 1), (8, 2), (8, 3), (8, 4), (8, 5), (8, 6), (8, 7), (8, 8), (8, 9)] (hv J [42] [] u5)), L, (hv I [] [(6, 6), (6, 7)] I), P, E, N) (sgX g ++ dy) := by
        rw [← ag_hvE (J := J) (R := [42, 45]) (F := [(4, 6), (4, 7), (8, 1), (8, 2), (8, 3), (8, 4), (8, 5), (8, 6), (8, 7), (8, 8), (8, 9)]) (ag_hv rfl rfl ag_rf)]
        rw [← ag_hvE (J := I) (R := []) (F := [(6, 6), (6, 7)]) ag_rf]
        exact hW
      subst hQ9
      exact end_l C hr hlocks ((hv J [42] [] u5), I) hWr (by first | exact Or.inl ⟨by first | rfl | assumption, by omega⟩) dX11_account_30
    · have c4 : a1.toInt < (J 3 1).toInt := tnle rfl rfl c4
      refine lv_iload_n hx hb dX11_account_15 rfl (lv_at hl 2 rfl) ?_
      refine lv_iload_n hx hb dX11_account_16 rfl (lv_at hl 1 rfl) ?_
      refine lv_icmp_ge (tgt := 31) hx hb dX11_account_17 (by decide) (fun c7 => ?_) (fun c7 => ?_)
      · have c7 : a0.toInt ≤ a1.toInt := tle rfl rfl c7
        refine lv_lconst (v := 0) hx hb dX11_account_31 (by decide) ?_
        refine lv_lstore_n (lv' := [(3, .long (0 : Int64)), (0, .ref (g.2.2.1 12)), (1, .int a0), (2, .int a1)]) hx hb dX11_account_32 rfl hl (by decide) rfl (fun ls hl => ?_)
        refine lv_iload_n hx hb dX11_account_33 rfl (lv_at hl 2 rfl) ?_
        refine lv_istore (lv' := [(5, .int a0), (3, .long (0 : Int64)), (0, .ref (g.2.2.1 12)), (1, .int a0), (2, .int a1)]) hx hb dX11_account_34 hl (by decide) rfl (fun ls hl => ?_)
        refine lv_iconst (v := 0) hx hb dX11_account_36 (by decide) ?_
        refine lv_istore (lv' := [(6, .int 0), (5, .int a0), (3, .long (0 : Int64)), (0, .ref (g.2.2.1 12)), (1, .int a0), (2, .int a1)]) hx hb dX11_account_37 hl (by decide) rfl (fun ls hl => ?_)
        have loop39 : ∀ (n : Nat) (m3 : Int64) (m5 : Int32) (m6 : Int32) (Gl8 : Nat → Nat → Int32) (Kl9 : Nat → Nat → Nat → Int32) (H : Heap) (locs : List Loc) (ls : Array Slot), (10000 - m6.toInt).toNat < n → 0 ≤ m6.toInt ∧ m6.toInt ≤ 10000 ∧ a0.toInt + m6.toInt ≤ m5.toInt ∧ m5.toInt ≤ a1.toInt + 1 → (∃ v1 v0 : Int, m3 = Int64.ofInt (v1 - v0) ∧ SUMS (fun jj rr => WIF I P E N (J 25 2).toInt 1 jj (fun s m9 => SCL (J 116 jj.toNat) (hrw jj) (J 118 jj.toNat) s m9 (J 120 jj.toNat) (J 3 1 - Int32.ofInt jj) (J 22 2)) (TLY (fun x => SND x (J 101) (fun k => I 6 1 (elt E P 20 k)) (fun k => I 6 3 (elt E P 20 k)) (fun k => I 6 5 (elt E P 20 k)) (CUTP (J 105) (J 106) (J 107) (J 21 2).toInt jj) (J 118 jj.toNat) (J 120 jj.toNat) (J 20 2).toInt) (J 116 jj.toNat) (fun x => HF (J 116 jj.toNat) (J 110) (J 111) jj (J 4 5) (J 109) (J 108) x) (J 22 2).toInt.toNat) rr) a0.toInt (m5.toInt - a0.toInt).toNat v1 ∧ SUMS (fun jj rr => WIF I P E N (J 25 2).toInt 0 jj (fun s m9 => SCL (J 116 jj.toNat) (hrw jj) (J 118 jj.toNat) s m9 (J 120 jj.toNat) (J 3 1 - Int32.ofInt jj) (J 22 2)) (TLY (fun x => SND x (J 101) (fun k => I 6 1 (elt E P 20 k)) (fun k => I 6 3 (elt E P 20 k)) (fun k => I 6 5 (elt E P 20 k)) (CUTP (J 105) (J 106) (J 107) (J 21 2).toInt jj) (J 118 jj.toNat) (J 120 jj.toNat) (J 20 2).toInt) (J 116 jj.toNat) (fun x => HF (J 116 jj.toNat) (J 110) (J 111) jj (J 4 5) (J 109) (J 108) x) (J 22 2).toInt.toNat) rr) a0.toInt (m5.toInt - a0.toInt).toNat v0) → WB g A s.heap H locs ((hv J [42, 45] [(4, 6), (4, 7), (8, 1), (8, 2), (8, 3), (8, 4), (8, 5), (8, 6), (8, 7), (8, 8), (8, 9)] Gl8), L, (hv I [] [(6, 6), (6, 7)] Kl9), P, E, N) (sgX g ++ dy) → lv_has ls 9 [(6, .int m6), (5, .int m5), (3, .long m3), (0, .ref (g.2.2.1 12)), (1, .int a0), (2, .int a1)] → W p l e (RM (8) 0 0) s m ([.ref (g.2.2.1 12), .int a0, .int a1] : List Value).toArray below meth c H locs 0 0 (MQ below Q9 ([.ref (g.2.2.1 12), .int a0, .int a1] : List Value).toArray s 0 0 A) (F0 m 39 ls []) := by
          intro n
          induction n with
          | zero => intro m3 m5 m6 Gl8 Kl9 H locs ls hmeas; exact absurd hmeas (Nat.not_lt_zero _)
          | succ n ih =>
            intro m3 m5 m6 Gl8 Kl9 H locs ls hmeas hi hsm hW hl
            refine lv_iload hx hb dX11_account_39 (lv_at hl 0 rfl) ?_
            refine lv_sipush (v := 9999) hx hb dX11_account_41 (by decide) ?_
            refine lv_icmp_gt (tgt := 124) hx hb dX11_account_44 (by decide) (fun c10 => ?_) (fun c10 => ?_)
            · have c10 : 9999 < m6.toInt := tlt kp9999 rfl c10
              refine lv_lload_n hx hb dX11_account_124 rfl (lv_at hl 2 rfl) ?_
              have hWr : WB g A s.heap H locs ((hv J [42, 45] [(4, 6), (4, 7), (8, 1), (8, 2), (8, 3), (8, 4), (8, 5), (8, 6), (8, 7), (8, 8), (8, 9)] (hv J [42, 45] [(4, 6), (4, 7), (8, 1), (8, 2), (8, 3), (8, 4), (8, 5), (8, 6), (8, 7), (8, 8), (8, 9)] Gl8)), L, (hv I [] [(6, 6), (6, 7)] (hv I [] [(6, 6), (6, 7)] Kl9)), P, E, N) (sgX g ++ dy) := by
                rw [← ag_hvE (J := J) (R := [42, 45]) (F := [(4, 6), (4, 7), (8, 1), (8, 2), (8, 3), (8, 4), (8, 5), (8, 6), (8, 7), (8, 8), (8, 9)]) (ag_hv rfl rfl ag_rf)]
                rw [← ag_hvE (J := I) (R := []) (F := [(6, 6), (6, 7)]) (ag_hv rfl rfl ag_rf)]
                exact hW
              subst hQ9
              exact end_l C hr hlocks ((hv J [42, 45] [(4, 6), (4, 7), (8, 1), (8, 2), (8, 3), (8, 4), (8, 5), (8, 6), (8, 7), (8, 8), (8, 9)] Gl8), (hv I [] [(6, 6), (6, 7)] Kl9)) hWr (by first | exact Or.inr (⟨by first | rfl | assumption, by omega, show (∃ v1 v0 : Int, m3 = Int64.ofInt (v1 - v0) ∧ SUMS (fun jj rr => WIF I P E N (J 25 2).toInt 1 jj (fun s m9 => SCL (J 116 jj.toNat) (hrw jj) (J 118 jj.toNat) s m9 (J 120 jj.toNat) (J 3 1 - Int32.ofInt jj) (J 22 2)) (TLY (fun x => SND x (J 101) (fun k => I 6 1 (elt E P 20 k)) (fun k => I 6 3 (elt E P 20 k)) (fun k => I 6 5 (elt E P 20 k)) (CUTP (J 105) (J 106) (J 107) (J 21 2).toInt jj) (J 118 jj.toNat) (J 120 jj.toNat) (J 20 2).toInt) (J 116 jj.toNat) (fun x => HF (J 116 jj.toNat) (J 110) (J 111) jj (J 4 5) (J 109) (J 108) x) (J 22 2).toInt.toNat) rr) a0.toInt ((a1.toInt + 1) - a0.toInt).toNat v1 ∧ SUMS (fun jj rr => WIF I P E N (J 25 2).toInt 0 jj (fun s m9 => SCL (J 116 jj.toNat) (hrw jj) (J 118 jj.toNat) s m9 (J 120 jj.toNat) (J 3 1 - Int32.ofInt jj) (J 22 2)) (TLY (fun x => SND x (J 101) (fun k => I 6 1 (elt E P 20 k)) (fun k => I 6 3 (elt E P 20 k)) (fun k => I 6 5 (elt E P 20 k)) (CUTP (J 105) (J 106) (J 107) (J 21 2).toInt jj) (J 118 jj.toNat) (J 120 jj.toNat) (J 20 2).toInt) (J 116 jj.toNat) (fun x => HF (J 116 jj.toNat) (J 110) (J 111) jj (J 4 5) (J 109) (J 108) x) (J 22 2).toInt.toNat) rr) a0.toInt ((a1.toInt + 1) - a0.toInt).toNat v0) from (by first | (exfalso; omega) | (obtain ⟨v1, v0, q1, q2, q3⟩ := hsm; have e9 : m5.toInt = a1.toInt + 1 := (by omega); rw [e9] at q2 q3; exact ⟨v1, v0, q1, q2, q3⟩))⟩)) dX11_account_125
            · have c10 : m6.toInt ≤ 9999 := tnlt kp9999 rfl c10
              refine lv_iload hx hb dX11_account_47 (lv_at hl 1 rfl) ?_
              refine lv_iload_n hx hb dX11_account_49 rfl (lv_at hl 5 rfl) ?_
              refine lv_icmp_gt (tgt := 124) hx hb dX11_account_50 (by decide) (fun c11 => ?_) (fun c11 => ?_)
              · have c11 : a1.toInt < m5.toInt := tlt rfl rfl c11
                refine lv_lload_n hx hb dX11_account_124 rfl (lv_at hl 2 rfl) ?_
                have hWr : WB g A s.heap H locs ((hv J [42, 45] [(4, 6), (4, 7), (8, 1), (8, 2), (8, 3), (8, 4), (8, 5), (8, 6), (8, 7), (8, 8), (8, 9)] (hv J [42, 45] [(4, 6), (4, 7), (8, 1), (8, 2), (8, 3), (8, 4), (8, 5), (8, 6), (8, 7), (8, 8), (8, 9)] Gl8)), L, (hv I [] [(6, 6), (6, 7)] (hv I [] [(6, 6), (6, 7)] Kl9)), P, E, N) (sgX g ++ dy) := by
                  rw [← ag_hvE (J := J) (R := [42, 45]) (F := [(4, 6), (4, 7), (8, 1), (8, 2), (8, 3), (8, 4), (8, 5), (8, 6), (8, 7), (8, 8), (8, 9)]) (ag_hv rfl rfl ag_rf)]
                  rw [← ag_hvE (J := I) (R := []) (F := [(6, 6), (6, 7)]) (ag_hv rfl rfl ag_rf)]
                  exact hW
                subst hQ9
                exact end_l C hr hlocks ((hv J [42, 45] [(4, 6), (4, 7), (8, 1), (8, 2), (8, 3), (8, 4), (8, 5), (8, 6), (8, 7), (8, 8), (8, 9)] Gl8), (hv I [] [(6, 6), (6, 7)] Kl9)) hWr (by first | exact Or.inr (⟨by first | rfl | assumption, by omega, show (∃ v1 v0 : Int, m3 = Int64.ofInt (v1 - v0) ∧ SUMS (fun jj rr => WIF I P E N (J 25 2).toInt 1 jj (fun s m9 => SCL (J 116 jj.toNat) (hrw jj) (J 118 jj.toNat) s m9 (J 120 jj.toNat) (J 3 1 - Int32.ofInt jj) (J 22 2)) (TLY (fun x => SND x (J 101) (fun k => I 6 1 (elt E P 20 k)) (fun k => I 6 3 (elt E P 20 k)) (fun k => I 6 5 (elt E P 20 k)) (CUTP (J 105) (J 106) (J 107) (J 21 2).toInt jj) (J 118 jj.toNat) (J 120 jj.toNat) (J 20 2).toInt) (J 116 jj.toNat) (fun x => HF (J 116 jj.toNat) (J 110) (J 111) jj (J 4 5) (J 109) (J 108) x) (J 22 2).toInt.toNat) rr) a0.toInt ((a1.toInt + 1) - a0.toInt).toNat v1 ∧ SUMS (fun jj rr => WIF I P E N (J 25 2).toInt 0 jj (fun s m9 => SCL (J 116 jj.toNat) (hrw jj) (J 118 jj.toNat) s m9 (J 120 jj.toNat) (J 3 1 - Int32.ofInt jj) (J 22 2)) (TLY (fun x => SND x (J 101) (fun k => I 6 1 (elt E P 20 k)) (fun k => I 6 3 (elt E P 20 k)) (fun k => I 6 5 (elt E P 20 k)) (CUTP (J 105) (J 106) (J 107) (J 21 2).toInt jj) (J 118 jj.toNat) (J 120 jj.toNat) (J 20 2).toInt) (J 116 jj.toNat) (fun x => HF (J 116 jj.toNat) (J 110) (J 111) jj (J 4 5) (J 109) (J 108) x) (J 22 2).toInt.toNat) rr) a0.toInt ((a1.toInt + 1) - a0.toInt).toNat v0) from (by first | (exfalso; omega) | (obtain ⟨v1, v0, q1, q2, q3⟩ := hsm; have e9 : m5.toInt = a1.toInt + 1 := (by omega); rw [e9] at q2 q3; exact ⟨v1, v0, q1, q2, q3⟩))⟩)) dX11_account_125
              · have c11 : m5.toInt ≤ a1.toInt := tnlt rfl rfl c11
                refine lv_aload_n hx hb dX11_account_53 rfl (lv_at hl 3 rfl) ?_
                refine rg_12_1 C hW (mx_ rfl) tw_365 dX11_account_54 ?_
                refine lv_iload hx hb dX11_account_57 (lv_at hl 1 rfl) ?_
                refine cq_ C hW (runV (x := (g.2.2.1 3)) (As := [.int m5]) (rest := []) (T := (((hv J [42, 45] [(4, 6), (4, 7), (8, 1), (8, 2), (8, 3), (8, 4), (8, 5), (8, 6), (8, 7), (8, 8), (8, 9)] Gl8), L, (hv I [] [(6, 6), (6, 7)] Kl9), P, E, N), sgX g ++ dy)) C hW (c_X2_spanOf_a l g (hv J [42, 45] [(4, 6), (4, 7), (8, 1), (8, 2), (8, 3), (8, 4), (8, 5), (8, 6), (8, 7), (8, 8), (8, 9)] Gl8) L (hv I [] [(6, 6), (6, 7)] Kl9) P E N dy H.size m5 hwf (show SPR (hv I [] [(6, 6), (6, 7)] Kl9) E P (J 27 2).toInt (J 3 1).toInt (J 116) (J 117) (J 118) (J 119) (J 120) from hspr) (show SPK (hv I [] [(6, 6), (6, 7)] Kl9) E P (J 27 2).toInt from hspk)) mi_X2_spanOf tw_639 (recv_ (T := (((hv J [42, 45] [(4, 6), (4, 7), (8, 1), (8, 2), (8, 3), (8, 4), (8, 5), (8, 6), (8, 7), (8, 8), (8, 9)] Gl8), L, (hv I [] [(6, 6), (6, 7)] Kl9), P, E, N), sgX g ++ dy)) C hW (mx_ rfl) rfl rfl) ⟨rfl, rfl, Nat.le_of_ble_eq_true rfl, Nat.le_of_ble_eq_true rfl⟩ rfl hl.1 rfl (Nat.le_of_ble_eq_true rfl) dX11_account_59 ⟨Nat.le_of_ble_eq_true rfl, Nat.le_of_ble_eq_true rfl⟩) (fun q12 u12 H locs hp12 hW => ?_)
                have hq12 : ((q12 = none ∧ (¬ (0 ≤ m5.toInt ∧ m5.toInt < (J 3 1).toInt))) ∨ (∃ o9 : Nat, q12 = some o9 ∧ (9, o9) ∈ dy ∧ ((((hv I [] [(6, 6), (6, 7)] Kl9) 9 2 o9).toInt = 6 ∨ ((hv I [] [(6, 6), (6, 7)] Kl9) 9 1 o9).toInt = ((hv I [] [(6, 6), (6, 7)] Kl9) 9 0 o9).toInt) ∧ 0 ≤ m5.toInt ∧ m5.toInt < (J 3 1).toInt ∧ ((hv I [] [(6, 6), (6, 7)] Kl9) 9 0 o9).toInt ≤ m5.toInt ∧ m5.toInt ≤ ((hv I [] [(6, 6), (6, 7)] Kl9) 9 1 o9).toInt ∧ SPO (hv I [] [(6, 6), (6, 7)] Kl9) o9 (J 3 1).toInt (J 116) (J 117) (J 118) (J 119) (J 120)))) := hp12
                clear hp12
                have hW : WB g A s.heap H locs ((hv J [42, 45] [(4, 6), (4, 7), (8, 1), (8, 2), (8, 3), (8, 4), (8, 5), (8, 6), (8, 7), (8, 8), (8, 9)] Gl8), L, (hv I [] [(6, 6), (6, 7)] Kl9), P, E, N) (sgX g ++ dy) := hW
                rcases hq12 with ⟨ho12, hn12⟩ | ⟨o12, ho12, hm12, hs12⟩ <;> subst ho12
                · refine lv_asv (v' := .null) rfl ?_
                  refine lv_astoreN (lv' := [(7, .null), (6, .int m6), (5, .int m5), (3, .long m3), (0, .ref (g.2.2.1 12)), (1, .int a0), (2, .int a1)]) hx hb dX11_account_62 hl (by decide) rfl (fun ls hl => ?_)
                  refine lv_aloadN hx hb dX11_account_64 (lv_at hl 0 rfl) ?_
                  refine lv_ifnonnullN hx hb dX11_account_66 ?_
                  refine lv_goto (tgt := 124) hx hb dX11_account_69 (by decide) ?_
                  refine lv_lload_n hx hb dX11_account_124 rfl (lv_at hl 3 rfl) ?_
                  have hWr : WB g A s.heap H locs ((hv J [42, 45] [(4, 6), (4, 7), (8, 1), (8, 2), (8, 3), (8, 4), (8, 5), (8, 6), (8, 7), (8, 8), (8, 9)] (hv J [42, 45] [(4, 6), (4, 7), (8, 1), (8, 2), (8, 3), (8, 4), (8, 5), (8, 6), (8, 7), (8, 8), (8, 9)] Gl8)), L, (hv I [] [(6, 6), (6, 7)] (hv I [] [(6, 6), (6, 7)] Kl9)), P, E, N) (sgX g ++ dy) := by
                    rw [← ag_hvE (J := J) (R := [42, 45]) (F := [(4, 6), (4, 7), (8, 1), (8, 2), (8, 3), (8, 4), (8, 5), (8, 6), (8, 7), (8, 8), (8, 9)]) (ag_hv rfl rfl ag_rf)]
                    rw [← ag_hvE (J := I) (R := []) (F := [(6, 6), (6, 7)]) (ag_hv rfl rfl ag_rf)]
                    exact hW
                  subst hQ9
                  exact end_l C hr hlocks ((hv J [42, 45] [(4, 6), (4, 7), (8, 1), (8, 2), (8, 3), (8, 4), (8, 5), (8, 6), (8, 7), (8, 8), (8, 9)] Gl8), (hv I [] [(6, 6), (6, 7)] Kl9)) hWr (by first | exact Or.inr (⟨by first | rfl | assumption, by omega, show (∃ v1 v0 : Int, m3 = Int64.ofInt (v1 - v0) ∧ SUMS (fun jj rr => WIF I P E N (J 25 2).toInt 1 jj (fun s m9 => SCL (J 116 jj.toNat) (hrw jj) (J 118 jj.toNat) s m9 (J 120 jj.toNat) (J 3 1 - Int32.ofInt jj) (J 22 2)) (TLY (fun x => SND x (J 101) (fun k => I 6 1 (elt E P 20 k)) (fun k => I 6 3 (elt E P 20 k)) (fun k => I 6 5 (elt E P 20 k)) (CUTP (J 105) (J 106) (J 107) (J 21 2).toInt jj) (J 118 jj.toNat) (J 120 jj.toNat) (J 20 2).toInt) (J 116 jj.toNat) (fun x => HF (J 116 jj.toNat) (J 110) (J 111) jj (J 4 5) (J 109) (J 108) x) (J 22 2).toInt.toNat) rr) a0.toInt ((a1.toInt + 1) - a0.toInt).toNat v1 ∧ SUMS (fun jj rr => WIF I P E N (J 25 2).toInt 0 jj (fun s m9 => SCL (J 116 jj.toNat) (hrw jj) (J 118 jj.toNat) s m9 (J 120 jj.toNat) (J 3 1 - Int32.ofInt jj) (J 22 2)) (TLY (fun x => SND x (J 101) (fun k => I 6 1 (elt E P 20 k)) (fun k => I 6 3 (elt E P 20 k)) (fun k => I 6 5 (elt E P 20 k)) (CUTP (J 105) (J 106) (J 107) (J 21 2).toInt jj) (J 118 jj.toNat) (J 120 jj.toNat) (J 20 2).toInt) (J 116 jj.toNat) (fun x => HF (J 116 jj.toNat) (J 110) (J 111) jj (J 4 5) (J 109) (J 108) x) (J 22 2).toInt.toNat) rr) a0.toInt ((a1.toInt + 1) - a0.toInt).toNat v0) from (by first | (exfalso; omega) | (obtain ⟨v1, v0, q1, q2, q3⟩ := hsm; have e9 : m5.toInt = a1.toInt + 1 := (by omega); rw [e9] at q2 q3; exact ⟨v1, v0, q1, q2, q3⟩))⟩)) dX11_account_125
                · refine lv_asv (v' := .ref o12) rfl ?_
                  obtain ⟨hsk612, hs12⟩ := hs12
                  have hsl12 := hs12.2.2.2.2.2.2.1
                  obtain ⟨hsK12, hsR12, hsV12, hsO12, hsT12⟩ := spo_at hs12
                  have hsk12 := congrArg Int32.toInt hsK12
                  refine lv_astore (lv' := [(7, .ref o12), (6, .int m6), (5, .int m5), (3, .long m3), (0, .ref (g.2.2.1 12)), (1, .int a0), (2, .int a1)]) hx hb dX11_account_62 hl (by decide) rfl (fun ls hl => ?_)
                  refine lv_aload hx hb dX11_account_64 (lv_at hl 0 rfl) ?_
                  refine lv_ifnonnull (tgt := 72) hx hb dX11_account_66 (by decide) ?_
                  refine lv_iload_n hx hb dX11_account_72 rfl (lv_at hl 6 rfl) ?_
                  refine lv_aload_n hx hb dX11_account_73 rfl (lv_at hl 4 rfl) ?_
                  refine lv_aload hx hb dX11_account_74 (lv_at hl 0 rfl) ?_
                  refine lv_iload hx hb dX11_account_76 (lv_at hl 2 rfl) ?_
                  refine ci_ C hW (runV (x := (g.2.2.1 12)) (As := [.ref o12, .int m5]) (rest := [.int a1]) (T := (((hv J [42, 45] [(4, 6), (4, 7), (8, 1), (8, 2), (8, 3), (8, 4), (8, 5), (8, 6), (8, 7), (8, 8), (8, 9)] Gl8), L, (hv I [] [(6, 6), (6, 7)] Kl9), P, E, N), sgX g ++ dy)) C hW (c_X11_evenUntil_a l g (hv J [42, 45] [(4, 6), (4, 7), (8, 1), (8, 2), (8, 3), (8, 4), (8, 5), (8, 6), (8, 7), (8, 8), (8, 9)] Gl8) L (hv I [] [(6, 6), (6, 7)] Kl9) P E N dy H.size o12 hm12 m5 hwf (show 0 ≤ m5.toInt ∧ m5.toInt ≤ ((hv I [] [(6, 6), (6, 7)] Kl9) 9 1 o12).toInt ∧ ((hv I [] [(6, 6), (6, 7)] Kl9) 9 1 o12).toInt ≤ 9998 from (by omega))) mi_X11_evenUntil tw_839 (recv_ (T := (((hv J [42, 45] [(4, 6), (4, 7), (8, 1), (8, 2), (8, 3), (8, 4), (8, 5), (8, 6), (8, 7), (8, 8), (8, 9)] Gl8), L, (hv I [] [(6, 6), (6, 7)] Kl9), P, E, N), sgX g ++ dy)) C hW (mx_ rfl) rfl rfl) ⟨rfl, rfl, Nat.le_of_ble_eq_true rfl, Nat.le_of_ble_eq_true rfl⟩ rfl hl.1 rfl (Nat.le_of_ble_eq_true rfl) dX11_account_78 ⟨Nat.le_of_ble_eq_true rfl, Nat.le_of_ble_eq_true rfl⟩) (fun r13 u13 H locs hp13 hW => ?_)
                  obtain ⟨hf13_0, hf13_1⟩ : (m5.toInt ≤ r13.toInt ∧ r13.toInt ≤ ((hv I [] [(6, 6), (6, 7)] Kl9) 9 1 o12).toInt ∧ r13.toInt ≤ m5.toInt / 60 * 60 + 59) ∧ (∀ k : Nat, (k : Int) < (J 25 2).toInt → ¬ (m5.toInt < ((hv I [] [(6, 6), (6, 7)] Kl9) 10 1 (elt E P 25 k)).toInt ∧ ((hv I [] [(6, 6), (6, 7)] Kl9) 10 1 (elt E P 25 k)).toInt ≤ r13.toInt)) := hp13
                  have hW : WB g A s.heap H locs ((hv J [42, 45] [(4, 6), (4, 7), (8, 1), (8, 2), (8, 3), (8, 4), (8, 5), (8, 6), (8, 7), (8, 8), (8, 9)] Gl8), L, (hv I [] [(6, 6), (6, 7)] Kl9), P, E, N) (sgX g ++ dy) := hW
                  have hE0 := hf13_0
                  have hE1 := hf13_1
                  refine va_mmin hx hb (C.1.2.2.1.trans hl.1.symm) C.1.2.2.2.1 (hts _ tw_843) (hts _ tw_225) (hts _ tw_74) (hts _ tw_226) (Nat.le_of_ble_eq_true rfl) (Nat.le_of_ble_eq_true rfl) (Nat.le_of_ble_eq_true rfl) (Nat.le_of_ble_eq_true rfl) dX11_account_81 ?_
                  refine lv_topi (fun x14 (e14 : x14 = if r13 < a1 then r13 else a1) => ?_)
                  have t14 : x14.toInt = min a1.toInt r13.toInt := tmin e14 rfl rfl
                  refine lv_istore (lv' := [(8, .int x14), (7, .ref o12), (6, .int m6), (5, .int m5), (3, .long m3), (0, .ref (g.2.2.1 12)), (1, .int a0), (2, .int a1)]) hx hb dX11_account_84 hl (by decide) rfl (fun ls hl => ?_)
                  have hsp9 := hs12.2.2.2.2
                  have hkd9 : ((hv I [] [(6, 6), (6, 7)] Kl9) 9 2 o12).toInt = 6 ∨ m5.toInt = x14.toInt := by clear hsm; omega
                  have hev9 : ∀ k : Nat, (k : Int) < (J 25 2).toInt → ¬ (m5.toInt < ((hv I [] [(6, 6), (6, 7)] Kl9) 10 1 (elt E P 25 k)).toInt ∧ ((hv I [] [(6, 6), (6, 7)] Kl9) 10 1 (elt E P 25 k)).toInt ≤ x14.toInt) := fun k hk => by have h9 := hE1 k hk; clear hsm; omega
                  have hmm9 : 0 ≤ m5.toInt ∧ m5.toInt ≤ x14.toInt ∧ x14.toInt ≤ 9998 := by clear hsm; omega
                  have hho9 : x14.toInt ≤ m5.toInt / 60 * 60 + 59 := by clear hsm; omega
                  refine lv_lload_n hx hb dX11_account_86 rfl (lv_at hl 4 rfl) ?_
                  refine lv_aload_n hx hb dX11_account_87 rfl (lv_at hl 5 rfl) ?_
                  refine lv_iconst (v := 1) hx hb dX11_account_88 (by decide) ?_
                  refine lv_aload hx hb dX11_account_89 (lv_at hl 1 rfl) ?_
                  refine lv_iload hx hb dX11_account_91 (lv_at hl 3 rfl) ?_
                  refine lv_iload hx hb dX11_account_93 (lv_at hl 0 rfl) ?_
                  refine cl_ C hW (runV (x := (g.2.2.1 12)) (As := [.int 1, .ref o12, .int m5, .int x14]) (rest := [.long m3]) (T := (((hv J [42, 45] [(4, 6), (4, 7), (8, 1), (8, 2), (8, 3), (8, 4), (8, 5), (8, 6), (8, 7), (8, 8), (8, 9)] Gl8), L, (hv I [] [(6, 6), (6, 7)] Kl9), P, E, N), sgX g ++ dy)) C hW (c_X11_sumOf_a l g (hv J [42, 45] [(4, 6), (4, 7), (8, 1), (8, 2), (8, 3), (8, 4), (8, 5), (8, 6), (8, 7), (8, 8), (8, 9)] Gl8) L (hv I [] [(6, 6), (6, 7)] Kl9) P E N dy H.size 1 o12 hm12 m5 x14 hwf (show NTR (P 6 0) (elt E P 20) (J 101) (J 20 2).toInt from hnt) (show INJ E P 20 (J 20 2).toInt from hij) (show CUR (P 1 0) ((hv I [] [(6, 6), (6, 7)] Kl9) 1 1) ((hv I [] [(6, 6), (6, 7)] Kl9) 1 2) (elt E P 21) (elt E P 20) (J 105) (J 106) (J 107) (J 21 2).toInt (J 20 2).toInt from hcu) (show HMR (P 2 0) ((hv I [] [(6, 6), (6, 7)] Kl9) 2 1) ((hv I [] [(6, 6), (6, 7)] Kl9) 2 2) ((hv I [] [(6, 6), (6, 7)] Kl9) 2 3) (elt E P 22) (elt E P 20) (J 108) (J 109) (J 110) (J 111) (J 22 2).toInt (J 20 2).toInt from hhm) (show 0 ≤ m5.toInt ∧ m5.toInt ≤ x14.toInt ∧ x14.toInt ≤ 9998 from hmm9) (show CDB (hv I [] [(6, 6), (6, 7)] Kl9) P E N (J 25 2).toInt from hcdb) (show 0 ≤ (J 3 1).toInt ∧ (J 3 1).toInt ≤ 9999 from hnw9) (show ASK (hv I [] [(6, 6), (6, 7)] Kl9) P E N (J 25 2).toInt from hask) (show ((hv I [] [(6, 6), (6, 7)] Kl9) 9 2 o12).toInt = 6 ∨ m5.toInt = x14.toInt from hkd9) (show ∀ k : Nat, (k : Int) < (J 25 2).toInt → ¬ (m5.toInt < ((hv I [] [(6, 6), (6, 7)] Kl9) 10 1 (elt E P 25 k)).toInt ∧ ((hv I [] [(6, 6), (6, 7)] Kl9) 10 1 (elt E P 25 k)).toInt ≤ x14.toInt) from hev9) (show x14.toInt ≤ m5.toInt / 60 * 60 + 59 from hho9) (show (1 : Int32).toInt = 0 ∨ (1 : Int32).toInt = 1 from (by decide))) mi_X11_sumOf tw_844 (recv_ (T := (((hv J [42, 45] [(4, 6), (4, 7), (8, 1), (8, 2), (8, 3), (8, 4), (8, 5), (8, 6), (8, 7), (8, 8), (8, 9)] Gl8), L, (hv I [] [(6, 6), (6, 7)] Kl9), P, E, N), sgX g ++ dy)) C hW (mx_ rfl) rfl rfl) ⟨rfl, rfl, Nat.le_of_ble_eq_true rfl, Nat.le_of_ble_eq_true rfl⟩ rfl hl.1 rfl (Nat.le_of_ble_eq_true rfl) dX11_account_95 ⟨Nat.le_of_ble_eq_true rfl, Nat.le_of_ble_eq_true rfl⟩) (fun z15 u15 H locs hp15 hW => ?_)
                  have hf15_0 : (∃ v : Int, z15 = Int64.ofInt v ∧ SUMS (fun jj rr => WIF (hv I [] [(6, 6), (6, 7)] Kl9) P E N (J 25 2).toInt 1 jj (fun s m9 => SCL ((hv I [] [(6, 6), (6, 7)] Kl9) 9 2 o12) (hrw jj) ((hv I [] [(6, 6), (6, 7)] Kl9) 9 5 o12) s m9 ((hv I [] [(6, 6), (6, 7)] Kl9) 9 3 o12) (J 3 1 - Int32.ofInt jj) (J 22 2)) (TLY (fun x => SND x (J 101) (fun k => (hv I [] [(6, 6), (6, 7)] Kl9) 6 1 (elt E P 20 k)) (fun k => (hv I [] [(6, 6), (6, 7)] Kl9) 6 3 (elt E P 20 k)) (fun k => (hv I [] [(6, 6), (6, 7)] Kl9) 6 5 (elt E P 20 k)) (CUTP (J 105) (J 106) (J 107) (J 21 2).toInt jj) ((hv I [] [(6, 6), (6, 7)] Kl9) 9 5 o12) ((hv I [] [(6, 6), (6, 7)] Kl9) 9 3 o12) (J 20 2).toInt) ((hv I [] [(6, 6), (6, 7)] Kl9) 9 2 o12) (fun x => HF ((hv I [] [(6, 6), (6, 7)] Kl9) 9 2 o12) (J 110) (J 111) jj (J 4 5) (J 109) (J 108) x) (J 22 2).toInt.toNat) rr) m5.toInt (x14.toInt + 1 - m5.toInt).toNat v) := hp15
                  clear hp15
                  have hW : WB g A s.heap H locs ((hv (hv J [42, 45] [(4, 6), (4, 7), (8, 1), (8, 2), (8, 3), (8, 4), (8, 5), (8, 6), (8, 7), (8, 8), (8, 9)] Gl8) [45] [(4, 6), (4, 7), (8, 1), (8, 2), (8, 3), (8, 4), (8, 5), (8, 6), (8, 7), (8, 8), (8, 9)] u15.1), L, (hv (hv I [] [(6, 6), (6, 7)] Kl9) [] [(6, 6), (6, 7)] u15.2), P, E, N) (sgX g ++ dy) := hW
                  have hS1 := hf15_0
                  refine lv_aload_n hx hb dX11_account_98 rfl (lv_at hl 5 rfl) ?_
                  refine lv_iconst (v := 0) hx hb dX11_account_99 (by decide) ?_
                  refine lv_aload hx hb dX11_account_100 (lv_at hl 1 rfl) ?_
                  refine lv_iload hx hb dX11_account_102 (lv_at hl 3 rfl) ?_
                  refine lv_iload hx hb dX11_account_104 (lv_at hl 0 rfl) ?_
                  refine cl_ C hW (runV (x := (g.2.2.1 12)) (As := [.int 0, .ref o12, .int m5, .int x14]) (rest := [.long z15, .long m3]) (T := (((hv (hv J [42, 45] [(4, 6), (4, 7), (8, 1), (8, 2), (8, 3), (8, 4), (8, 5), (8, 6), (8, 7), (8, 8), (8, 9)] Gl8) [45] [(4, 6), (4, 7), (8, 1), (8, 2), (8, 3), (8, 4), (8, 5), (8, 6), (8, 7), (8, 8), (8, 9)] u15.1), L, (hv (hv I [] [(6, 6), (6, 7)] Kl9) [] [(6, 6), (6, 7)] u15.2), P, E, N), sgX g ++ dy)) C hW (c_X11_sumOf_a l g (hv (hv J [42, 45] [(4, 6), (4, 7), (8, 1), (8, 2), (8, 3), (8, 4), (8, 5), (8, 6), (8, 7), (8, 8), (8, 9)] Gl8) [45] [(4, 6), (4, 7), (8, 1), (8, 2), (8, 3), (8, 4), (8, 5), (8, 6), (8, 7), (8, 8), (8, 9)] u15.1) L (hv (hv I [] [(6, 6), (6, 7)] Kl9) [] [(6, 6), (6, 7)] u15.2) P E N dy H.size 0 o12 hm12 m5 x14 hwf (show NTR (P 6 0) (elt E P 20) (J 101) (J 20 2).toInt from hnt) (show INJ E P 20 (J 20 2).toInt from hij) (show CUR (P 1 0) ((hv (hv I [] [(6, 6), (6, 7)] Kl9) [] [(6, 6), (6, 7)] u15.2) 1 1) ((hv (hv I [] [(6, 6), (6, 7)] Kl9) [] [(6, 6), (6, 7)] u15.2) 1 2) (elt E P 21) (elt E P 20) (J 105) (J 106) (J 107) (J 21 2).toInt (J 20 2).toInt from hcu) (show HMR (P 2 0) ((hv (hv I [] [(6, 6), (6, 7)] Kl9) [] [(6, 6), (6, 7)] u15.2) 2 1) ((hv (hv I [] [(6, 6), (6, 7)] Kl9) [] [(6, 6), (6, 7)] u15.2) 2 2) ((hv (hv I [] [(6, 6), (6, 7)] Kl9) [] [(6, 6), (6, 7)] u15.2) 2 3) (elt E P 22) (elt E P 20) (J 108) (J 109) (J 110) (J 111) (J 22 2).toInt (J 20 2).toInt from hhm) (show 0 ≤ m5.toInt ∧ m5.toInt ≤ x14.toInt ∧ x14.toInt ≤ 9998 from hmm9) (show CDB (hv (hv I [] [(6, 6), (6, 7)] Kl9) [] [(6, 6), (6, 7)] u15.2) P E N (J 25 2).toInt from hcdb) (show 0 ≤ (J 3 1).toInt ∧ (J 3 1).toInt ≤ 9999 from hnw9) (show ASK (hv (hv I [] [(6, 6), (6, 7)] Kl9) [] [(6, 6), (6, 7)] u15.2) P E N (J 25 2).toInt from hask) (show ((hv (hv I [] [(6, 6), (6, 7)] Kl9) [] [(6, 6), (6, 7)] u15.2) 9 2 o12).toInt = 6 ∨ m5.toInt = x14.toInt from hkd9) (show ∀ k : Nat, (k : Int) < (J 25 2).toInt → ¬ (m5.toInt < ((hv (hv I [] [(6, 6), (6, 7)] Kl9) [] [(6, 6), (6, 7)] u15.2) 10 1 (elt E P 25 k)).toInt ∧ ((hv (hv I [] [(6, 6), (6, 7)] Kl9) [] [(6, 6), (6, 7)] u15.2) 10 1 (elt E P 25 k)).toInt ≤ x14.toInt) from hev9) (show x14.toInt ≤ m5.toInt / 60 * 60 + 59 from hho9) (show (0 : Int32).toInt = 0 ∨ (0 : Int32).toInt = 1 from (by decide))) mi_X11_sumOf tw_844 (recv_ (T := (((hv (hv J [42, 45] [(4, 6), (4, 7), (8, 1), (8, 2), (8, 3), (8, 4), (8, 5), (8, 6), (8, 7), (8, 8), (8, 9)] Gl8) [45] [(4, 6), (4, 7), (8, 1), (8, 2), (8, 3), (8, 4), (8, 5), (8, 6), (8, 7), (8, 8), (8, 9)] u15.1), L, (hv (hv I [] [(6, 6), (6, 7)] Kl9) [] [(6, 6), (6, 7)] u15.2), P, E, N), sgX g ++ dy)) C hW (mx_ rfl) rfl rfl) ⟨rfl, rfl, Nat.le_of_ble_eq_true rfl, Nat.le_of_ble_eq_true rfl⟩ rfl hl.1 rfl (Nat.le_of_ble_eq_true rfl) dX11_account_106 ⟨Nat.le_of_ble_eq_true rfl, Nat.le_of_ble_eq_true rfl⟩) (fun z16 u16 H locs hp16 hW => ?_)
                  have hf16_0 : (∃ v : Int, z16 = Int64.ofInt v ∧ SUMS (fun jj rr => WIF (hv (hv I [] [(6, 6), (6, 7)] Kl9) [] [(6, 6), (6, 7)] u15.2) P E N (J 25 2).toInt 0 jj (fun s m9 => SCL ((hv (hv I [] [(6, 6), (6, 7)] Kl9) [] [(6, 6), (6, 7)] u15.2) 9 2 o12) (hrw jj) ((hv (hv I [] [(6, 6), (6, 7)] Kl9) [] [(6, 6), (6, 7)] u15.2) 9 5 o12) s m9 ((hv (hv I [] [(6, 6), (6, 7)] Kl9) [] [(6, 6), (6, 7)] u15.2) 9 3 o12) (J 3 1 - Int32.ofInt jj) (J 22 2)) (TLY (fun x => SND x (J 101) (fun k => (hv (hv I [] [(6, 6), (6, 7)] Kl9) [] [(6, 6), (6, 7)] u15.2) 6 1 (elt E P 20 k)) (fun k => (hv (hv I [] [(6, 6), (6, 7)] Kl9) [] [(6, 6), (6, 7)] u15.2) 6 3 (elt E P 20 k)) (fun k => (hv (hv I [] [(6, 6), (6, 7)] Kl9) [] [(6, 6), (6, 7)] u15.2) 6 5 (elt E P 20 k)) (CUTP (J 105) (J 106) (J 107) (J 21 2).toInt jj) ((hv (hv I [] [(6, 6), (6, 7)] Kl9) [] [(6, 6), (6, 7)] u15.2) 9 5 o12) ((hv (hv I [] [(6, 6), (6, 7)] Kl9) [] [(6, 6), (6, 7)] u15.2) 9 3 o12) (J 20 2).toInt) ((hv (hv I [] [(6, 6), (6, 7)] Kl9) [] [(6, 6), (6, 7)] u15.2) 9 2 o12) (fun x => HF ((hv (hv I [] [(6, 6), (6, 7)] Kl9) [] [(6, 6), (6, 7)] u15.2) 9 2 o12) (J 110) (J 111) jj (J 4 5) (J 109) (J 108) x) (J 22 2).toInt.toNat) rr) m5.toInt (x14.toInt + 1 - m5.toInt).toNat v) := hp16
                  clear hp16
                  have hW : WB g A s.heap H locs ((hv (hv (hv J [42, 45] [(4, 6), (4, 7), (8, 1), (8, 2), (8, 3), (8, 4), (8, 5), (8, 6), (8, 7), (8, 8), (8, 9)] Gl8) [45] [(4, 6), (4, 7), (8, 1), (8, 2), (8, 3), (8, 4), (8, 5), (8, 6), (8, 7), (8, 8), (8, 9)] u15.1) [45] [(4, 6), (4, 7), (8, 1), (8, 2), (8, 3), (8, 4), (8, 5), (8, 6), (8, 7), (8, 8), (8, 9)] u16.1), L, (hv (hv (hv I [] [(6, 6), (6, 7)] Kl9) [] [(6, 6), (6, 7)] u15.2) [] [(6, 6), (6, 7)] u16.2), P, E, N) (sgX g ++ dy) := hW
                  have hS0 := hf16_0
                  refine lv_lsub hx hb dX11_account_109 ?_
                  refine lv_topl (fun z17 ez17 => ?_)
                  refine lv_ladd hx hb dX11_account_110 ?_
                  refine lv_topl (fun z18 ez18 => ?_)
                  refine lv_lstore_n (lv' := [(3, .long z18), (8, .int x14), (7, .ref o12), (6, .int m6), (5, .int m5), (0, .ref (g.2.2.1 12)), (1, .int a0), (2, .int a1)]) hx hb dX11_account_111 rfl hl (by decide) rfl (fun ls hl => ?_)
                  refine lv_iload hx hb dX11_account_112 (lv_at hl 1 rfl) ?_
                  refine lv_iconst (v := 1) hx hb dX11_account_114 (by decide) ?_
                  refine lv_iadd hx hb dX11_account_115 ?_
                  refine lv_topi (fun x19 (e19 : x19 = x14 + 1) => ?_)
                  try have t19 : x19.toInt = x14.toInt + 1 := tadd e19 rfl kp1 (by omega)
                  refine lv_istore (lv' := [(5, .int x19), (3, .long z18), (8, .int x14), (7, .ref o12), (6, .int m6), (0, .ref (g.2.2.1 12)), (1, .int a0), (2, .int a1)]) hx hb dX11_account_116 hl (by decide) rfl (fun ls hl => ?_)
                  obtain ⟨x20, e20⟩ : ∃ y : Int32, y = m6 + 1 := ⟨_, rfl⟩
                  refine lv_iinc (v := x20) (lv' := [(6, .int x20), (5, .int x19), (3, .long z18), (8, .int x14), (7, .ref o12), (0, .ref (g.2.2.1 12)), (1, .int a0), (2, .int a1)]) hx hb dX11_account_118 hl (k := 4) rfl (by rw [e20]; rfl) (by decide) rfl (fun ls hl => ?_)
                  try have t20 : x20.toInt = m6.toInt + 1 := tadd e20 rfl kp1 (by omega)
                  refine lv_goto (tgt := 39) hx hb dX11_account_121 (by decide) ?_
                  have hWl : WB g A s.heap H locs ((hv J [42, 45] [(4, 6), (4, 7), (8, 1), (8, 2), (8, 3), (8, 4), (8, 5), (8, 6), (8, 7), (8, 8), (8, 9)] (hv (hv (hv J [42, 45] [(4, 6), (4, 7), (8, 1), (8, 2), (8, 3), (8, 4), (8, 5), (8, 6), (8, 7), (8, 8), (8, 9)] Gl8) [45] [(4, 6), (4, 7), (8, 1), (8, 2), (8, 3), (8, 4), (8, 5), (8, 6), (8, 7), (8, 8), (8, 9)] u15.1) [45] [(4, 6), (4, 7), (8, 1), (8, 2), (8, 3), (8, 4), (8, 5), (8, 6), (8, 7), (8, 8), (8, 9)] u16.1)), L, (hv I [] [(6, 6), (6, 7)] (hv (hv (hv I [] [(6, 6), (6, 7)] Kl9) [] [(6, 6), (6, 7)] u15.2) [] [(6, 6), (6, 7)] u16.2)), P, E, N) (sgX g ++ dy) := by
                    rw [← ag_hvE (J := J) (R := [42, 45]) (F := [(4, 6), (4, 7), (8, 1), (8, 2), (8, 3), (8, 4), (8, 5), (8, 6), (8, 7), (8, 8), (8, 9)]) (ag_hv rfl rfl (ag_hv rfl rfl (ag_hv rfl rfl ag_rf)))]
                    rw [← ag_hvE (J := I) (R := []) (F := [(6, 6), (6, 7)]) (ag_hv rfl rfl (ag_hv rfl rfl (ag_hv rfl rfl ag_rf)))]
                    exact hW
                  refine ih z18 x19 x20 (hv (hv (hv J [42, 45] [(4, 6), (4, 7), (8, 1), (8, 2), (8, 3), (8, 4), (8, 5), (8, 6), (8, 7), (8, 8), (8, 9)] Gl8) [45] [(4, 6), (4, 7), (8, 1), (8, 2), (8, 3), (8, 4), (8, 5), (8, 6), (8, 7), (8, 8), (8, 9)] u15.1) [45] [(4, 6), (4, 7), (8, 1), (8, 2), (8, 3), (8, 4), (8, 5), (8, 6), (8, 7), (8, 8), (8, 9)] u16.1) (hv (hv (hv I [] [(6, 6), (6, 7)] Kl9) [] [(6, 6), (6, 7)] u15.2) [] [(6, 6), (6, 7)] u16.2) H locs ls ?_ ?_ ?_ hWl (lv_sub hl [0, 1, 2, 5, 6, 7] rfl)
                  · show (10000 - x20.toInt).toNat < n
                    omega
                  · show 0 ≤ x20.toInt ∧ x20.toInt ≤ 10000 ∧ a0.toInt + x20.toInt ≤ x19.toInt ∧ x19.toInt ≤ a1.toInt + 1
                    first | omega | exact hi | assumption
                  · show ∃ v1 v0 : Int, z18 = Int64.ofInt (v1 - v0) ∧ SUMS (fun jj rr => WIF I P E N (J 25 2).toInt 1 jj (fun s m9 => SCL (J 116 jj.toNat) (hrw jj) (J 118 jj.toNat) s m9 (J 120 jj.toNat) (J 3 1 - Int32.ofInt jj) (J 22 2)) (TLY (fun x => SND x (J 101) (fun k => I 6 1 (elt E P 20 k)) (fun k => I 6 3 (elt E P 20 k)) (fun k => I 6 5 (elt E P 20 k)) (CUTP (J 105) (J 106) (J 107) (J 21 2).toInt jj) (J 118 jj.toNat) (J 120 jj.toNat) (J 20 2).toInt) (J 116 jj.toNat) (fun x => HF (J 116 jj.toNat) (J 110) (J 111) jj (J 4 5) (J 109) (J 108) x) (J 22 2).toInt.toNat) rr) a0.toInt (x19.toInt - a0.toInt).toNat v1 ∧ SUMS (fun jj rr => WIF I P E N (J 25 2).toInt 0 jj (fun s m9 => SCL (J 116 jj.toNat) (hrw jj) (J 118 jj.toNat) s m9 (J 120 jj.toNat) (J 3 1 - Int32.ofInt jj) (J 22 2)) (TLY (fun x => SND x (J 101) (fun k => I 6 1 (elt E P 20 k)) (fun k => I 6 3 (elt E P 20 k)) (fun k => I 6 5 (elt E P 20 k)) (CUTP (J 105) (J 106) (J 107) (J 21 2).toInt jj) (J 118 jj.toNat) (J 120 jj.toNat) (J 20 2).toInt) (J 116 jj.toNat) (fun x => HF (J 116 jj.toNat) (J 110) (J 111) jj (J 4 5) (J 109) (J 108) x) (J 22 2).toInt.toNat) rr) a0.toInt (x19.toInt - a0.toInt).toNat v0
                    (obtain ⟨v1, v0, q1, q2, q3⟩ := hsm; obtain ⟨w1, p1, p2⟩ := hS1; obtain ⟨w0, p3, p4⟩ := hS0; exact ⟨v1 + w1, v0 + w0, z_acc q1 p1 p3 ez17 ez18, sums_j (x := x14.toInt) q2 (by omega) (by omega) (by omega) (sums_congr _ _ (fun i9 hi9 r9 h9 => by obtain ⟨y1, y2, y3⟩ := spo_j (j := m5.toInt + (i9 : Int)) hsp9 (by omega) (by omega); rw [← y1, ← y2, ← y3]; exact h9) p2), sums_j (x := x14.toInt) q3 (by omega) (by omega) (by omega) (sums_congr _ _ (fun i9 hi9 r9 h9 => by obtain ⟨y1, y2, y3⟩ := spo_j (j := m5.toInt + (i9 : Int)) hsp9 (by omega) (by omega); rw [← y1, ← y2, ← y3]; exact h9) p4)⟩)
        -- into the loop
        have hWl : WB g A s.heap H locs ((hv J [42, 45] [(4, 6), (4, 7), (8, 1), (8, 2), (8, 3), (8, 4), (8, 5), (8, 6), (8, 7), (8, 8), (8, 9)] J), L, (hv I [] [(6, 6), (6, 7)] I), P, E, N) (sgX g ++ dy) := by
          rw [← ag_hvE (J := J) (R := [42, 45]) (F := [(4, 6), (4, 7), (8, 1), (8, 2), (8, 3), (8, 4), (8, 5), (8, 6), (8, 7), (8, 8), (8, 9)]) ag_rf]
          rw [← ag_hvE (J := I) (R := []) (F := [(6, 6), (6, 7)]) ag_rf]
          exact hW
        refine loop39 ((10000 - (0 : Int32).toInt).toNat + 1) (0 : Int64) a0 0 J I H locs ls ?_ ?_ ?_ hWl (lv_sub hl [0, 1, 2, 3, 4, 5] rfl)
        · exact Nat.lt_succ_self _
        · show 0 ≤ (0 : Int32).toInt ∧ (0 : Int32).toInt ≤ 10000 ∧ a0.toInt + (0 : Int32).toInt ≤ a0.toInt ∧ a0.toInt ≤ a1.toInt + 1
          try rw [kp0]
          first | omega | exact hi | assumption
        · show ∃ v1 v0 : Int, (0 : Int64) = Int64.ofInt (v1 - v0) ∧ SUMS (fun jj rr => WIF I P E N (J 25 2).toInt 1 jj (fun s m9 => SCL (J 116 jj.toNat) (hrw jj) (J 118 jj.toNat) s m9 (J 120 jj.toNat) (J 3 1 - Int32.ofInt jj) (J 22 2)) (TLY (fun x => SND x (J 101) (fun k => I 6 1 (elt E P 20 k)) (fun k => I 6 3 (elt E P 20 k)) (fun k => I 6 5 (elt E P 20 k)) (CUTP (J 105) (J 106) (J 107) (J 21 2).toInt jj) (J 118 jj.toNat) (J 120 jj.toNat) (J 20 2).toInt) (J 116 jj.toNat) (fun x => HF (J 116 jj.toNat) (J 110) (J 111) jj (J 4 5) (J 109) (J 108) x) (J 22 2).toInt.toNat) rr) a0.toInt (a0.toInt - a0.toInt).toNat v1 ∧ SUMS (fun jj rr => WIF I P E N (J 25 2).toInt 0 jj (fun s m9 => SCL (J 116 jj.toNat) (hrw jj) (J 118 jj.toNat) s m9 (J 120 jj.toNat) (J 3 1 - Int32.ofInt jj) (J 22 2)) (TLY (fun x => SND x (J 101) (fun k => I 6 1 (elt E P 20 k)) (fun k => I 6 3 (elt E P 20 k)) (fun k => I 6 5 (elt E P 20 k)) (CUTP (J 105) (J 106) (J 107) (J 21 2).toInt jj) (J 118 jj.toNat) (J 120 jj.toNat) (J 20 2).toInt) (J 116 jj.toNat) (fun x => HF (J 116 jj.toNat) (J 110) (J 111) jj (J 4 5) (J 109) (J 108) x) (J 22 2).toInt.toNat) rr) a0.toInt (a0.toInt - a0.toInt).toNat v0
          try rw [kp0]
          (refine ⟨0, 0, by decide, ?_⟩; rw [Int.sub_self]; exact ⟨rfl, rfl⟩)
      · have c7 : a1.toInt < a0.toInt := tnle rfl rfl c7
        refine lv_ldc2 hx hb C.1.2.2.2.1 (hts _ tw_838) dX11_account_20 ?_
        refine lv_aload_n hx hb dX11_account_23 rfl (lv_at hl 0 rfl) ?_
        refine lv_iconst (v := (-1)) hx hb dX11_account_24 (by decide) ?_
        refine ci_ C hW (runV (x := (g.2.2.1 12)) (As := [.int (-1)]) (rest := [.long (4000000000000000000 : Int64)]) (T := ((J, L, I, P, E, N), sgX g ++ dy)) C hW (c_X11_refuse l g J L I P E N dy H.size (-1) hwf) mi_X11_refuse tw_411 (recv_ (T := ((J, L, I, P, E, N), sgX g ++ dy)) C hW (mx_ rfl) rfl rfl) ⟨rfl, rfl, Nat.le_of_ble_eq_true rfl, Nat.le_of_ble_eq_true rfl⟩ rfl hl.1 rfl (Nat.le_of_ble_eq_true rfl) dX11_account_25 ⟨Nat.le_of_ble_eq_true rfl, Nat.le_of_ble_eq_true rfl⟩) (fun r21 u21 H locs hp21 hW => ?_)
        have hc21 : ((r21 = (-1))) := hp21
        clear hp21
        have hr21 : r21.toInt = (-1) := by rw [hc21]; exact kn1
        have hW : WB g A s.heap H locs ((hv J [42] [] u21), L, I, P, E, N) (sgX g ++ dy) := hW
        refine lv_i2l (v := r21.toInt64) hx hb dX11_account_28 rfl ?_
        refine lv_lsub hx hb dX11_account_29 ?_
        refine lv_topl (fun z22 ez22 => ?_)
        have hz9 : z22 = (4000000000000000001 : Int64) := by rw [ez22, hc21]; first | rfl | decide +kernel
        have hWr : WB g A s.heap H locs ((hv J [42, 45] [(4, 6), (4, 7), (8, 1), (8, 2), (8, 3), (8, 4), (8, 5), (8, 6), (8, 7), (8, 8), (8, 9)] (hv J [42] [] u21)), L, (hv I [] [(6, 6), (6, 7)] I), P, E, N) (sgX g ++ dy) := by
          rw [← ag_hvE (J := J) (R := [42, 45]) (F := [(4, 6), (4, 7), (8, 1), (8, 2), (8, 3), (8, 4), (8, 5), (8, 6), (8, 7), (8, 8), (8, 9)]) (ag_hv rfl rfl ag_rf)]
          rw [← ag_hvE (J := I) (R := []) (F := [(6, 6), (6, 7)]) ag_rf]
          exact hW
        subst hQ9
        exact end_l C hr hlocks ((hv J [42] [] u21), I) hWr (by first | exact Or.inl ⟨by first | rfl | assumption, by omega⟩) dX11_account_30
