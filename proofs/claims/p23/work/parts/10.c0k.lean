theorem cs_mem {x : Nat → Int32} {i n : Nat} (h : i < n) : (x i).toInt ∈ cs x 0 n := List.mem_map.mpr ⟨i, List.mem_range'_1.mpr ⟨by omega, by omega⟩, rfl⟩
/-- the terms: purpose, first minute, the code of the text -/
def TMR (I : Nat → Nat → Nat → Int32) (P : Nat → Nat → Nat → Option Nat) (E : Nat → Option Nat) (N : Nat → Nat) (n : Int) (sz pu fr x : Nat → Int32) : Prop := ∀ k : Nat, (k : Int) < n → (I 10 0 (elt E P 25 k)).toInt = (pu k).toInt ∧ (I 10 1 (elt E P 25 k)).toInt = (fr k).toInt ∧ ∃ q, PT (NX (fun i => x (60 * k + i)) (sz k)) 0 5 0 q (CD I P E N k)
/-- the readers -/
def RDR (I : Nat → Nat → Nat → Int32) (E : Nat → Option Nat) (P : Nat → Nat → Nat → Option Nat) (b c d : Nat → Int32) (n : Int) : Prop := ∀ k : Nat, (k : Int) < n → I 7 0 (elt E P 24 k) = b k ∧ (((I 7 1 (elt E P 24 k)).toInt = (c k).toInt ∧ 0 ≤ (c k).toInt ∧ (c k).toInt ≤ 9999 ∧ (I 7 2 (elt E P 24 k)).toInt = (d k).toInt ∧ 0 ≤ (d k).toInt ∧ (d k).toInt ≤ (c k).toInt + 1) ∨ ((I 7 1 (elt E P 24 k)).toInt = -1 ∧ (c k).toInt = -9 ∧ (I 7 2 (elt E P 24 k)).toInt = 0 ∧ (d k).toInt = 0))
section RELS
variable {I I' : Nat → Nat → Nat → Int32} {E E' : Nat → Option Nat} {P P' : Nat → Nat → Nat → Option Nat} {N N' : Nat → Nat} {n n' now now' p m : Int} {dy : List (Nat × Nat)} {b b' c c' d d' sz pu fr x sz' pu' fr' x' : Nat → Int32} {G : Nat → Nat → Int32} {L : Int → Int32} {k : Nat} {r e : Int32}
theorem tmr_cdb (h : TMR I P E N n sz pu fr x) : CDB I P E N n := by
  intro k hk b hb i hi
  obtain ⟨-, -, q, F, hF⟩ := h k hk
  have h1 := (pz_ok nx_ok F _ _ _ _ _ (hF F (Nat.le_refl _))).1
  rw [cd_eq rfl hb] at h1
  exact h1 _ (cs_mem hi)
theorem mb_none (hT : TMR I P E N n sz pu fr x) (hn : n' = n) (h : INN (TPU I E P) (TFR I E P) n p m) (hr : WVM sz pu fr x L n' p m e r) : r = e := by
  subst hn
  rcases hr with ⟨-, h1⟩ | ⟨k, h1, -⟩
  · exact h1
  · exact (inf_inn (inf_congr rfl (fun j hj => ⟨(hT j hj).1, (hT j hj).2.1⟩) h1) h).elim
theorem mb_val (hT : TMR I P E N n sz pu fr x) (hn : n' = n) (h : INF (TPU I E P) (TFR I E P) n p m k) (hr : WVM sz pu fr x L n' p m e r) : r = WGH L (CD I P E N k) := by
  subst hn
  rcases hr with ⟨h1, -⟩ | ⟨k', h1, h2⟩
  · exact (inf_inn h (inn_congr rfl (fun j hj => ⟨(hT j hj).1, (hT j hj).2.1⟩) h1)).elim
  · have e1 := inf_det h (inf_congr rfl (fun j hj => ⟨(hT j hj).1, (hT j hj).2.1⟩) h1)
    subst e1
    obtain ⟨-, -, q, hq⟩ := hT k h.1
    rcases h2 with ⟨q', c9, y1, y2⟩ | ⟨q', y⟩
    · rw [(pt_det hq y1).2]; exact (wgh_val y2).symm
    · exact (ptf hq y).elim
theorem mbk_v {v v' w w' hm hm' : Int32} (hT : TMR I P E N n sz pu fr x) (hn : n' = n) (hnow : now' = now) (hv : v' = v) (hw : w' = w) (hh : hm' = hm) (h : MBK I P E N n now (hrw now) v w hm) (hr : WVM sz pu fr x (SCL 2 (hrw now') v' 0 0 w' 0 hm') n' 3 now' 1 r) : 0 < r.toInt := by
  subst hnow hv hw hh
  rcases h with h | ⟨k, h1, h2⟩
  · rw [mb_none hT hn h hr]; decide
  · rw [mb_val hT hn h1 hr]; exact h2
theorem mbk_n {v v' w w' hm hm' : Int32} (hT : TMR I P E N n sz pu fr x) (hn : n' = n) (hnow : now' = now) (hv : v' = v) (hw : w' = w) (hh : hm' = hm) (h : ¬ MBK I P E N n now (hrw now) v w hm) (hr : WVM sz pu fr x (SCL 2 (hrw now') v' 0 0 w' 0 hm') n' 3 now' 1 r) : r.toInt ≤ 0 := by
  subst hnow hv hw hh hn
  rcases Int.lt_or_le 0 r.toInt with q | q
  · refine absurd ?_ h
    have hr2 := hr
    rcases hr2 with ⟨h1, -⟩ | ⟨k, h1, -⟩
    · exact Or.inl (inn_congr rfl (fun j hj => ⟨(hT j hj).1, (hT j hj).2.1⟩) h1)
    · have h2 := inf_congr rfl (fun j hj => ⟨(hT j hj).1, (hT j hj).2.1⟩) h1
      exact Or.inr ⟨k, h2, by rw [← mb_val hT rfl h2 hr]; exact q⟩
  · exact q
theorem rdr_b (h : RDR I E P b c d n) : RDB I E P n := fun k hk => by
  obtain ⟨-, h | h⟩ := h k hk <;> omega
theorem rdr_m (h : RDR I E P b c d n) (hn : n = n') : ∀ k : Nat, (k : Int) < n' → -9 ≤ (c k).toInt ∧ (c k).toInt ≤ 9999 ∧ 0 ≤ (d k).toInt ∧ (d k).toInt ≤ 10000 := fun k hk => by
  obtain ⟨-, h | h⟩ := h k (by omega) <;> omega
theorem rdr_keep (h : RDR I E P b c d n) (hn : n' = n) (he : ∀ k : Nat, elt E' P' 24 k = elt E P 24 k) (hI : I' 7 = I 7) (hb : b' = b) (hc : c' = c) : RDR I' E' P' b' c' d n' := by
  subst hn hb hc
  intro k hk
  rw [he k, hI]; exact h k hk
theorem rdr_new {v w : Int32} (h : RDR I E P (G 113) (G 114) d n) (hN : NOBJ I I' E E' P P' 24 7 n dy) (hF : ∀ j : Nat, (j : Int) = n → I' 7 0 (elt E' P' 24 j) = v ∧ I' 7 1 (elt E' P' 24 j) = -1 ∧ I' 7 2 (elt E' P' 24 j) = 0) (hd : ∀ k : Nat, (k : Int) < n → (7, elt E P 24 k) ∈ dy) (hn : n' = n + 1) (hw : n = w.toInt) (h0 : 0 ≤ n) (e1 : b' = up2 G 113 w.toNatClampNeg v 113) (e2 : c' = up2 G 114 w.toNatClampNeg (-9) 114) (hz : ZR d n) : RDR I' E' P' b' c' d n' := by
  subst hn
  have h8 := tcl w
  intro k hk
  by_cases e : (k : Int) < n
  · rw [hN.1 k e, hN.2.1 _ (hd k e) 0, hN.2.1 _ (hd k e) 1, hN.2.1 _ (hd k e) 2, e1, e2, up2_f _ _ _ (by omega), up2_f _ _ _ (by omega)]; exact h k e
  · obtain ⟨f0, f1, f2⟩ := hF k (by omega)
    have e9 : k = w.toNatClampNeg := by omega
    have hz9 := hz k (by omega)
    rw [f0, f1, f2, hz9, e1, e2, e9, up2_s, up2_s]
    exact ⟨rfl, Or.inr ⟨by decide, by decide, by decide, by decide⟩⟩
theorem rdr_same (h : RDR I E P b c d n) (h0 : I' 7 0 = I 7 0) (h1 : I' 7 1 = I 7 1) (h2 : I' 7 2 = I 7 2) (e1 : c' = c) (e2 : d' = d) : RDR I' E P b c' d' n := by
  subst e1 e2
  intro k hk
  rw [h0, h1, h2]; exact h k hk
theorem rdr_at {a : Int32} (h : RDR I E P b c d n) : 0 ≤ a.toInt → a.toInt < n → (((I 7 1 (elt E P 24 a.toNatClampNeg)).toInt = (c a.toNatClampNeg).toInt ∧ 0 ≤ (c a.toNatClampNeg).toInt ∧ (c a.toNatClampNeg).toInt ≤ 9999 ∧ (I 7 2 (elt E P 24 a.toNatClampNeg)).toInt = (d a.toNatClampNeg).toInt ∧ 0 ≤ (d a.toNatClampNeg).toInt ∧ (d a.toNatClampNeg).toInt ≤ (c a.toNatClampNeg).toInt + 1) ∨ ((I 7 1 (elt E P 24 a.toNatClampNeg)).toInt = -1 ∧ (c a.toNatClampNeg).toInt = -9 ∧ (I 7 2 (elt E P 24 a.toNatClampNeg)).toInt = 0 ∧ (d a.toNatClampNeg).toInt = 0)) := fun h1 h2 => (h a.toNatClampNeg (by have h8 := tcl a; omega)).2
theorem rbd_e {a1 b1 a2 b2 : Int32} (h1 : a2 = a1) (h2 : b2 = b1) (h : 1 ≤ a1.toInt ∧ 0 ≤ b1.toInt ∧ b1.toInt ≤ 240) : 1 ≤ a2.toInt ∧ 0 ≤ b2.toInt ∧ b2.toInt ≤ 240 := by subst h1 h2; exact h
theorem tp_keep {x y x' y' : Nat → Int32} {l : Int} (h : ∀ k : Nat, (k : Int) < n → x k = y k) (hn : l = n) (e1 : x' = x) (e2 : y' = y) : ∀ k : Nat, (k : Int) < l → x' k = y' k := by subst hn e1 e2; exact h
theorem tp_0 {x y : Nat → Int32} {l : Int} (h : l = 0) : ∀ k : Nat, (k : Int) < l → x k = y k := fun k hk => by omega
theorem tmr_N {g : gG} {J : Nat → Nat → Int32} (hwf : WXF g J P E N dy) (h : TMR I P E N n sz pu fr x) (hn : n = (J 25 2).toInt) (hN : ∀ y ∈ dy, N' y.2 = N y.2) : TMR I P E N' n sz pu fr x := by
  subst hn
  have hC := cd_old (I' := I) (P' := P) (E' := E) hwf (fun _ _ => rfl) (fun _ _ => rfl) (fun b hb => hN (46, b) hb) (fun _ _ _ => rfl)
  intro k hk
  rw [hC k hk]; exact h k hk
theorem tm_x1 {f f' : Nat → Int} {r l l' : Int} (e : f = f') (hA : ∃ q : Nat, r = -20 - (q : Int) ∧ (PF f 0 5 0 q ∨ ((∃ c, PT f 0 5 0 q c) ∧ (q : Int) < l))) (hB : ∃ (q : Nat) (c : List Int), PT f' 0 5 0 q c ∧ (q : Int) = l') (hl : l = l') : False := by
  subst e
  obtain ⟨q, -, h⟩ := hA
  obtain ⟨q2, c2, h2, h3⟩ := hB
  rcases h with h | ⟨⟨c, h⟩, h4⟩
  · exact ptf h2 h
  · have := (pt_det h h2).1
    omega
theorem tm_x2 {f f' : Nat → Int} {r l l' : Int} {Q : Nat → List Int → Prop} (e : f = f') (hA : ∃ (q : Nat) (cd : List Int), PT f 0 5 0 q cd ∧ l ≤ (q : Int) ∧ Q q cd) (hB : ∃ q : Nat, r = -20 - (q : Int) ∧ (PF f' 0 5 0 q ∨ ((∃ c, PT f' 0 5 0 q c) ∧ ¬ (q : Int) = l'))) (hl : l = l') (hhi : ∀ (q : Nat) (c : List Int), PT f' 0 5 0 q c → (q : Int) ≤ l') : False := by
  subst e
  obtain ⟨q, cd, h1, h2, -⟩ := hA
  obtain ⟨q2, -, h⟩ := hB
  rcases h with h | ⟨⟨c, h⟩, h4⟩
  · exact ptf h1 h
  · have := (pt_det h h1).1
    have := hhi q cd h1
    omega
theorem rdr_say {v w w' : Int32} {a : Nat} (h : RDR I E P b (G 114) (G 115) n) (hj : INJ E P 24 n) (ha : (a : Int) < n) (h0 : I' 7 0 = I 7 0) (h1 : ∀ y : Nat, y ≠ elt E P 24 a → I' 7 1 y = I 7 1 y ∧ I' 7 2 y = I 7 2 y) (h2 : I' 7 1 (elt E P 24 a) = w) (h3 : (I' 7 2 (elt E P 24 a)).toInt = if (I 7 1 (elt E P 24 a)).toInt = w.toInt - 1 then (I 7 2 (elt E P 24 a)).toInt + 1 else 1) (hw : w.toInt = w'.toInt) (hb1 : 0 ≤ w.toInt) (hb2 : w.toInt ≤ 9999) (h4 : v.toInt = if 0 ≤ (G 114 a).toInt ∧ (G 114 a).toInt = w'.toInt - 1 then (G 115 a).toInt + 1 else 1) (e1 : c' = up2 G 114 a w' 114) (e2 : d' = up2 G 115 a v 115) : RDR I' E P b c' d' n := by
  intro k hk
  by_cases e : k = a
  · subst e
    rw [h0, h2, e1, e2, up2_s, up2_s]
    obtain ⟨hb, hr⟩ := h k hk
    refine ⟨hb, Or.inl ⟨hw, by omega, by omega, ?_, ?_, ?_⟩⟩
    · rw [h3, h4]; split <;> split <;> omega
    · rw [h4]; split <;> omega
    · rw [h4]; split <;> omega
  · have ne : elt E P 24 k ≠ elt E P 24 a := fun q => e (hj k a hk ha q)
    rw [h0, (h1 _ ne).1, (h1 _ ne).2, e1, e2, up2_f _ _ _ e, up2_f _ _ _ e]; exact h k hk
theorem tp_feed {y y' : Nat → Int32} {q : Int64} {i l : Int} (h : ∀ k : Nat, (k : Int) < n → x k = y k) (hC : FEED x x' (BYC q) n i) (hM : FEED y y' (BYM q) n' i) (hn : n = n') (h0 : 0 ≤ n) (hi : i ≤ 8) (hl : l = n + i) : ∀ k : Nat, (k : Int) < l → x' k = y' k := by
  subst hn hl
  intro k hk
  by_cases e : (k : Int) < n
  · rw [(hC k).1 e, (hM k).1 e]; exact h k e
  · have e1 : (Int32.ofNat (k - n.toNat)).toInt = ((k - n.toNat : Nat) : Int) := Int32.toInt_ofNat_of_lt (by omega)
    rw [(hC k).2 (Int32.ofNat (k - n.toNat)) (by omega) (by omega) (by omega), (hM k).2 (Int32.ofNat (k - n.toNat)) (by omega) (by omega) (by omega)]
    exact byt_eq _ _ (by omega) (by omega)
theorem nx_tp {y : Nat → Int32} {n1 n2 : Int32} (hn : n1.toInt = n2.toInt) (h : ∀ k : Nat, (k : Int) < n1.toInt → x k = y k) : NX x n1 = NX y n2 := NX_congr hn (fun i hi => h i (by omega))
/-- the text of a new term is the tape -/
def TXC (x x' t : Nat → Int32) (a n : Int) : Prop := ∀ j : Nat, ((j : Int) < a → x' j = x j) ∧ ∀ i : Nat, (i : Int) < n → (j : Int) = a + i → x' j = t i
theorem txc_0 {t : Nat → Int32} {a n : Int} (h : n ≤ 0) : TXC x x t a n := fun j => ⟨fun _ => rfl, fun i hi _ => by omega⟩
theorem txc_s {t : Nat → Int32} {a n n' : Int} {z : Nat} {v : Int32} {r i : Nat} (h : TXC x (G r) t a n) (hz : x' = up2 G r z v r) (hzz : (z : Int) = a + n) (hv : v = t i) (hi : (i : Int) = n) (h0 : 0 ≤ n) (hn : n' = n + 1) : TXC x x' t a n' := by
  intro j
  subst hz
  by_cases e : j = z
  · subst e; rw [up2_s]
    exact ⟨fun q => by omega, fun i9 h1 h2 => by
      have e9 : i9 = i := by omega
      rw [e9]; exact hv⟩
  · rw [up2_f _ _ _ e]; exact ⟨(h j).1, fun i9 h1 h2 => (h j).2 i9 (by omega) h2⟩
theorem tmr_keep (h : TMR I P E N n sz pu fr x) (hn : n' = n) (he : ∀ k : Nat, elt E' P' 25 k = elt E P 25 k) (hI : I' 10 = I 10) (hC : ∀ k : Nat, (k : Int) < n → CD I' P' E' N' k = CD I P E N k) (e1 : sz' = sz) (e2 : pu' = pu) (e3 : fr' = fr) (e4 : x' = x) : TMR I' P' E' N' n' sz' pu' fr' x' := by
  subst hn e1 e2 e3 e4
  intro k hk
  rw [he k, hI, hC k hk]; exact h k hk
theorem tmr_new {a0 a1 w tn : Int32} {cd : List Int} {q9 : Nat} {y : Nat → Int32} (h : TMR I P E N n (G 121) (G 122) (G 123) x) (hN : NOBJ I I' E E' P P' 25 10 n dy) (hF : ∀ j : Nat, (j : Int) = n → I' 10 0 (elt E' P' 25 j) = a0 ∧ I' 10 1 (elt E' P' 25 j) = a1) (hd : ∀ k : Nat, (k : Int) < n → (10, elt E P 25 k) ∈ dy) (hn : n' = n + 1) (hw : n = w.toInt) (h0 : 0 ≤ n) (hC : ∀ j : Nat, (j : Int) = n → CD I' P' E' N' j = cd) (hO : ∀ k : Nat, (k : Int) < n → CD I' P' E' N' k = CD I P E N k) (hsz : ∀ k : Nat, (k : Int) < n → (G 121 k).toInt ≤ 60) (ht0 : 0 ≤ tn.toInt) (hPT : PT (NX y tn) 0 5 0 q9 cd)
    (e1 : sz' = up2 G 121 w.toNatClampNeg tn 121) (e2 : pu' = up2 G 122 w.toNatClampNeg a0 122) (e3 : fr' = up2 G 123 w.toNatClampNeg a1 123) (e4 : TXC x x' y (60 * w.toInt) tn.toInt) : TMR I' P' E' N' n' sz' pu' fr' x' := by
  subst hn
  have h8 := tcl w
  intro k hk
  by_cases e : (k : Int) < n
  · obtain ⟨h1, h2, q, h3⟩ := h k e
    have hs := hsz k e
    rw [hN.1 k e, hN.2.1 _ (hd k e) 0, hN.2.1 _ (hd k e) 1, hO k e, e1, e2, e3, up2_f _ _ _ (by omega), up2_f _ _ _ (by omega), up2_f _ _ _ (by omega)]
    refine ⟨h1, h2, q, ?_⟩
    have e9 : NX (fun i => x' (60 * k + i)) (G 121 k) = NX (fun i => x (60 * k + i)) (G 121 k) := NX_congr rfl (fun i hi => (e4 (60 * k + i)).1 (by omega))
    rw [e9]; exact h3
  · obtain ⟨f0, f1⟩ := hF k (by omega)
    have e9 : k = w.toNatClampNeg := by omega
    rw [f0, f1, hC k (by omega), e1, e2, e3, ← e9, up2_s, up2_s, up2_s]
    refine ⟨rfl, rfl, q9, ?_⟩
    have e8 : NX (fun i => x' (60 * k + i)) tn = NX y tn := NX_congr rfl (fun i hi => (e4 (60 * k + i)).2 i (by omega) (by omega))
    rw [e8]; exact hPT
end RELS
set_option maxHeartbeats 4000000 in
set_option maxRecDepth 100000 in
theorem c_X12_feed_e (l : Launch) (g : gG) (J : Nat → Nat → Int32) (L : Nat → Nat → Int64) (I : Nat → Nat → Nat → Int32) (P : Nat → Nat → Nat → Option Nat) (E : Nat → Option Nat) (N : Nat → Nat) (sz : Nat) (a0 : Int32) (a1 : Int64) (hwm : WM J) : Met l yX12_feed (WS yX12_feed cX12_feed 5 (some .int)) (RM (2) 0 0) (PC g [.ref (g.2.2.1 13), .int a0, .long a1] ((J, L, I, P, E, N), sgM g) sz) (va_Qi (fun (r : Int32) (u : (Nat → Nat → Int32)) => WM (hv J [100, 153] [(13, 55)] u) ∧ ((r.toInt = (-4) ∧ (a0.toInt < 1) ∧ u 13 55 = J 13 55 ∧ u 153 = J 153) ∨ (r.toInt = (-6) ∧ (1 ≤ a0.toInt ∧ (8 < a0.toInt ∨ 60 - (J 13 55).toInt < a0.toInt)) ∧ u 13 55 = J 13 55 ∧ u 153 = J 153) ∨ (r.toInt = (J 13 55).toInt + a0.toInt ∧ (1 ≤ a0.toInt ∧ a0.toInt ≤ 8 ∧ (J 13 55).toInt + a0.toInt ≤ 60) ∧ (u 13 55).toInt = (J 13 55).toInt + a0.toInt ∧ FEED (J 153) (u 153) (BYM a1) (J 13 55).toInt a0.toInt))) (fun u t => at_ g (FR g ((J, L, I, P, E, N), sgM g) sz) ((hv J [100, 153] [(13, 55)] u, L, I, P, E, N), sgM g) t) (FR g ((J, L, I, P, E, N), sgM g) sz)) 0 0 (FR g ((J, L, I, P, E, N), sgM g) sz) := by
  refine ent (by decide +kernel) (Nat.le_of_ble_eq_true rfl) ?_
  intro p e s m below meth c ls hsz C hW hr hlocks hname hl
  generalize FR g ((J, L, I, P, E, N), sgM g) sz = A at C hW ⊢
  generalize hQ9 : (va_Qi (fun (r : Int32) (u : (Nat → Nat → Int32)) => WM (hv J [100, 153] [(13, 55)] u) ∧ ((r.toInt = (-4) ∧ (a0.toInt < 1) ∧ u 13 55 = J 13 55 ∧ u 153 = J 153) ∨ (r.toInt = (-6) ∧ (1 ≤ a0.toInt ∧ (8 < a0.toInt ∨ 60 - (J 13 55).toInt < a0.toInt)) ∧ u 13 55 = J 13 55 ∧ u 153 = J 153) ∨ (r.toInt = (J 13 55).toInt + a0.toInt ∧ (1 ≤ a0.toInt ∧ a0.toInt ≤ 8 ∧ (J 13 55).toInt + a0.toInt ≤ 60) ∧ (u 13 55).toInt = (J 13 55).toInt + a0.toInt ∧ FEED (J 153) (u 153) (BYM a1) (J 13 55).toInt a0.toInt))) (fun u t => at_ g A ((hv J [100, 153] [(13, 55)] u, L, I, P, E, N), sgM g) t) A) = Q9
  have hx := C.1.1
  have hb := C.1.2.1
  have hts := C.1.2.2.2.2
  have hW : WB g A s.heap s.heap [] (J, L, I, P, E, N) (sgM g) := hW
  have hl : lv_has ls 5 [(0, .ref (g.2.2.1 13)), (1, .int a0), (2, .long a1)] := hl
  obtain ⟨H, hH⟩ : ∃ H : Heap, H = s.heap := ⟨_, rfl⟩
  obtain ⟨locs, hlocs⟩ : ∃ q : List Loc, q = [] := ⟨_, rfl⟩
  have hW : WB g A s.heap H locs (J, L, I, P, E, N) (sgM g) := by rw [hH, hlocs]; exact hW
  obtain ⟨⟨hnd1, hnd2, hon, hhm1, hhm2, hhN, hcu1, hcu2, hco1, hco2, hcN⟩, ⟨hrd1, hrd2⟩, ⟨hnw1, hnw2, hns1, hns2, hof⟩, ⟨htm1, htm2, hts_⟩, ⟨had1, had2, hrw1, hrw2, htp1, htp2⟩⟩ := id hwm
  refine start_ hH hlocs ?_
  refine lv_iload_n hx hb dX12_feed_0 rfl (lv_at hl 1 rfl) ?_
  refine lv_iconst (v := 1) hx hb dX12_feed_1 (by decide) ?_
  refine lv_icmp_ge (tgt := 12) hx hb dX12_feed_2 (by decide) (fun c1 => ?_) (fun c1 => ?_)
  · have c1 : 1 ≤ a0.toInt := tle kp1 rfl c1
    refine lv_iload_n hx hb dX12_feed_12 rfl (lv_at hl 1 rfl) ?_
    refine lv_bipush (v := 8) hx hb dX12_feed_13 (by decide) ?_
    refine lv_icmp_gt (tgt := 29) hx hb dX12_feed_15 (by decide) (fun c2 => ?_) (fun c2 => ?_)
    · have c2 : 8 < a0.toInt := tlt kp8 rfl c2
      refine lv_aload_n hx hb dX12_feed_29 rfl (lv_at hl 0 rfl) ?_
      refine lv_bipush (v := (-6)) hx hb dX12_feed_30 (by decide) ?_
      refine ci_ C hW (runV (x := (g.2.2.1 13)) (As := [.int (-6)]) (rest := []) (T := ((J, L, I, P, E, N), sgM g)) C hW (c_X12_refuse l g J L I P E N H.size (-6) (show -6 ≤ (-6 : Int32).toInt ∧ (-6 : Int32).toInt ≤ -1 from by (try simp only [kn6]); omega)) mi_X12_refuse tw_1239 (recv_ (T := ((J, L, I, P, E, N), sgM g)) C hW (mm_ rfl) rfl rfl) ⟨rfl, rfl, Nat.le_of_ble_eq_true rfl, Nat.le_of_ble_eq_true rfl⟩ rfl hl.1 rfl (Nat.le_of_ble_eq_true rfl) dX12_feed_32 ⟨Nat.le_of_ble_eq_true rfl, Nat.le_of_ble_eq_true rfl⟩) (fun r3 u3 H locs hp3 hW => ?_)
      have hc3 : ((r3 = (-6))) := hp3
      clear hp3
      have hr3 : r3.toInt = (-6) := by rw [hc3]; exact kn6
      have hW : WB g A s.heap H locs ((hv J [100] [] u3), L, I, P, E, N) (sgM g) := hW
      have hWr : WB g A s.heap H locs (hv J [100, 153] [(13, 55)] (hv J [100] [] u3), L, I, P, E, N) (sgM g) := by
        rw [← ag_hvE (J := J) (R := [100, 153]) (F := [(13, 55)]) (ag_hv rfl rfl ag_rf)]
        exact hW
      have hwmr : WM (hv J [100] [] u3) := by exact hwm
      have hwmr : WM (hv J [100, 153] [(13, 55)] (hv J [100] [] u3)) := by
        rw [← ag_hvE (J := J) (R := [100, 153]) (F := [(13, 55)]) (ag_hv rfl rfl ag_rf)]; exact hwmr
      subst hQ9
      exact end_i C hr hlocks (hv J [100] [] u3) hWr ⟨hwmr, by first | exact Or.inl ⟨by omega, by omega, show J 13 55 = J 13 55 from by first | rfl | assumption, show J 153 = J 153 from by first | rfl | assumption⟩ | exact Or.inr (Or.inl ⟨by omega, by omega, show J 13 55 = J 13 55 from by first | rfl | assumption, show J 153 = J 153 from by first | rfl | assumption⟩) | exact Or.inr (Or.inr (⟨by omega, by omega, show (J 13 55).toInt = (J 13 55).toInt + a0.toInt from (by first | omega | (have e9 : m4.toInt = a0.toInt := (by omega); rw [← e9]; exact hfd)), show FEED (J 153) (J 153) (BYM a1) (J 13 55).toInt a0.toInt from (by first | omega | (have e9 : m4.toInt = a0.toInt := (by omega); rw [← e9]; exact hfd))⟩))⟩ dX12_feed_35
    · have c2 : a0.toInt ≤ 8 := tnlt kp8 rfl c2
      refine lv_aload_n hx hb dX12_feed_18 rfl (lv_at hl 0 rfl) ?_
      refine rg_13_55 C hW (mm_ rfl) tw_1078 dX12_feed_19 ?_
      refine lv_iload_n hx hb dX12_feed_22 rfl (lv_at hl 1 rfl) ?_
      refine lv_iadd hx hb dX12_feed_23 ?_
      refine lv_topi (fun x4 (e4 : x4 = (J 13 55) + a0) => ?_)
      try have t4 : x4.toInt = (J 13 55).toInt + a0.toInt := tadd e4 rfl rfl (by omega)
      refine lv_bipush (v := 60) hx hb dX12_feed_24 (by decide) ?_
      refine lv_icmp_le (tgt := 36) hx hb dX12_feed_26 (by decide) (fun c5 => ?_) (fun c5 => ?_)
      · have c5 : x4.toInt ≤ 60 := tle rfl kp60 c5
        refine lv_iconst (v := 0) hx hb dX12_feed_36 (by decide) ?_
        refine lv_istore (lv' := [(4, .int 0), (0, .ref (g.2.2.1 13)), (1, .int a0), (2, .long a1)]) hx hb dX12_feed_37 hl (by decide) rfl (fun ls hl => ?_)
        have loop39 : ∀ (n : Nat) (m4 : Int32) (Gl6 : Nat → Nat → Int32) (H : Heap) (locs : List Loc) (ls : Array Slot), (a0.toInt - m4.toInt).toNat < n → WM (hv J [100, 153] [(13, 55)] Gl6) → 0 ≤ m4.toInt ∧ m4.toInt ≤ a0.toInt → (Gl6 13 55).toInt = (J 13 55).toInt + m4.toInt → FEED (J 153) (Gl6 153) (BYM a1) (J 13 55).toInt m4.toInt → WB g A s.heap H locs ((hv J [100, 153] [(13, 55)] Gl6), L, I, P, E, N) (sgM g) → lv_has ls 5 [(4, .int m4), (0, .ref (g.2.2.1 13)), (1, .int a0), (2, .long a1)] → W p l e (RM (2) 0 0) s m ([.ref (g.2.2.1 13), .int a0, .long a1] : List Value).toArray below meth c H locs 0 0 (MQ below Q9 ([.ref (g.2.2.1 13), .int a0, .long a1] : List Value).toArray s 0 0 A) (F0 m 39 ls []) := by
          intro n
          induction n with
          | zero => intro m4 Gl6 H locs ls hmeas; exact absurd hmeas (Nat.not_lt_zero _)
          | succ n ih =>
            intro m4 Gl6 H locs ls hmeas hwm hi ht hfd hW hl
            refine lv_iload hx hb dX12_feed_39 (lv_at hl 0 rfl) ?_
            refine lv_iload_n hx hb dX12_feed_41 rfl (lv_at hl 2 rfl) ?_
            refine lv_icmp_ge (tgt := 82) hx hb dX12_feed_42 (by decide) (fun c7 => ?_) (fun c7 => ?_)
            · have c7 : a0.toInt ≤ m4.toInt := tle rfl rfl c7
              refine lv_aload_n hx hb dX12_feed_82 rfl (lv_at hl 1 rfl) ?_
              refine rg_13_55 C hW (mm_ rfl) tw_1078 dX12_feed_83 ?_
              refine lv_as (Gl6 13 55) rfl ?_
              have hWr : WB g A s.heap H locs (hv J [100, 153] [(13, 55)] (hv J [100, 153] [(13, 55)] Gl6), L, I, P, E, N) (sgM g) := by
                rw [← ag_hvE (J := J) (R := [100, 153]) (F := [(13, 55)]) (ag_hv rfl rfl ag_rf)]
                exact hW
              have hwmr : WM (hv J [100, 153] [(13, 55)] Gl6) := by exact hwm
              have hwmr : WM (hv J [100, 153] [(13, 55)] (hv J [100, 153] [(13, 55)] Gl6)) := by
                rw [← ag_hvE (J := J) (R := [100, 153]) (F := [(13, 55)]) (ag_hv rfl rfl ag_rf)]; exact hwmr
              subst hQ9
              exact end_i C hr hlocks (hv J [100, 153] [(13, 55)] Gl6) hWr ⟨hwmr, by first | exact Or.inl ⟨by omega, by omega, show Gl6 13 55 = J 13 55 from by first | rfl | assumption, show Gl6 153 = J 153 from by first | rfl | assumption⟩ | exact Or.inr (Or.inl ⟨by omega, by omega, show Gl6 13 55 = J 13 55 from by first | rfl | assumption, show Gl6 153 = J 153 from by first | rfl | assumption⟩) | exact Or.inr (Or.inr (⟨by omega, by omega, show (Gl6 13 55).toInt = (J 13 55).toInt + a0.toInt from (by first | omega | (have e9 : m4.toInt = a0.toInt := (by omega); rw [← e9]; exact hfd)), show FEED (J 153) (Gl6 153) (BYM a1) (J 13 55).toInt a0.toInt from (by first | omega | (have e9 : m4.toInt = a0.toInt := (by omega); rw [← e9]; exact hfd))⟩))⟩ dX12_feed_86
            · have c7 : m4.toInt < a0.toInt := tnle rfl rfl c7
              refine lv_aload_n hx hb dX12_feed_45 rfl (lv_at hl 1 rfl) ?_
              refine rg_13_53 C hW (mm_ rfl) tw_1076 dX12_feed_46 ?_
              refine lv_aload_n hx hb dX12_feed_49 rfl (lv_at hl 1 rfl) ?_
              refine rg_13_55 C hW (mm_ rfl) tw_1078 dX12_feed_50 ?_
              refine lv_as (Gl6 13 55) rfl ?_
              refine lv_lload_n hx hb dX12_feed_53 rfl (lv_at hl 3 rfl) ?_
              refine lv_bipush (v := 8) hx hb dX12_feed_54 (by decide) ?_
              refine lv_iload hx hb dX12_feed_56 (lv_at hl 0 rfl) ?_
              refine lv_imul hx hb dX12_feed_58 ?_
              refine lv_topi (fun x8 (e8 : x8 = 8 * m4) => ?_)
              refine lv_lshr hx hb dX12_feed_59 rfl ?_
              refine lv_topl (fun z9 ez9 => ?_)
              refine lv_ldc2 hx hb C.1.2.2.2.1 (hts _ tw_1414) dX12_feed_60 ?_
              refine lv_land hx hb dX12_feed_63 ?_
              refine lv_topl (fun z10 ez10 => ?_)
              refine lv_l2i (v := z10.toInt32) hx hb dX12_feed_64 rfl ?_
              refine lv_topi (fun x11 (e11 : x11 = z10.toInt32) => ?_)
              have hin : vp_in (Gl6 13 55) 60 := tin rfl (by omega)
              refine rs_153 C hW (mm_ rfl) hin dX12_feed_65 (fun H locs hW => ?_)
              refine lv_aload_n hx hb dX12_feed_66 rfl (lv_at hl 1 rfl) ?_
              refine lv_dup hx hb dX12_feed_67 rfl ?_
              refine rg_13_55 C hW (mm_ rfl) tw_1078 dX12_feed_68 ?_
              refine lv_as (Gl6 13 55) rfl ?_
              refine lv_iconst (v := 1) hx hb dX12_feed_71 (by decide) ?_
              refine lv_iadd hx hb dX12_feed_72 ?_
              refine lv_topi (fun x12 (e12 : x12 = (Gl6 13 55) + 1) => ?_)
              try have t12 : x12.toInt = (Gl6 13 55).toInt + 1 := tadd e12 rfl kp1 (by omega)
              refine rp_13_55 C hW (mm_ rfl) tw_1078 dX12_feed_73 (fun H locs hW => ?_)
              obtain ⟨x13, e13⟩ : ∃ y : Int32, y = m4 + 1 := ⟨_, rfl⟩
              refine lv_iinc (v := x13) (lv' := [(4, .int x13), (0, .ref (g.2.2.1 13)), (1, .int a0), (2, .long a1)]) hx hb dX12_feed_76 hl (k := 0) rfl (by rw [e13]; rfl) (by decide) rfl (fun ls hl => ?_)
              try have t13 : x13.toInt = m4.toInt + 1 := tadd e13 rfl kp1 (by omega)
              refine lv_goto (tgt := 39) hx hb dX12_feed_79 (by decide) ?_
              have hWl : WB g A s.heap H locs ((hv J [100, 153] [(13, 55)] (up2 (up2 (hv J [100, 153] [(13, 55)] Gl6) 153 ((Gl6 13 55).toNatClampNeg) x11) 13 55 x12)), L, I, P, E, N) (sgM g) := by
                rw [← ag_hvE (J := J) (R := [100, 153]) (F := [(13, 55)]) (ag_up (Or.inr rfl) (ag_up (Or.inl rfl) (ag_hv rfl rfl ag_rf)))]
                exact hW
              refine ih x13 (up2 (up2 (hv J [100, 153] [(13, 55)] Gl6) 153 ((Gl6 13 55).toNatClampNeg) x11) 13 55 x12) H locs ls ?_ ?_ ?_ ?_ ?_ hWl (lv_sub hl [0, 1, 2, 3] rfl)
              · show (a0.toInt - x13.toInt).toNat < n
                omega
              · rw [← ag_hvE (J := J) (R := [100, 153]) (F := [(13, 55)]) (ag_up (Or.inr rfl) (ag_up (Or.inl rfl) (ag_hv rfl rfl ag_rf)))]; exact wm_taped hwm (by omega)
              · show 0 ≤ x13.toInt ∧ x13.toInt ≤ a0.toInt
                first | omega | exact hi | assumption
              · show (x12).toInt = (J 13 55).toInt + x13.toInt
                first | omega | exact ht | assumption
              · show FEED (J 153) ((up2 Gl6 153 ((Gl6 13 55).toNatClampNeg) x11) 153) (BYM a1) (J 13 55).toInt x13.toInt
                exact feed_s hfd rfl (by first | omega | (rw [tcl]; omega)) (by rw [e11, ez10, ez9, e8]; rfl) rfl (by omega) (by omega)
        -- into the loop
        have hWl : WB g A s.heap H locs ((hv J [100, 153] [(13, 55)] J), L, I, P, E, N) (sgM g) := by
          rw [← ag_hvE (J := J) (R := [100, 153]) (F := [(13, 55)]) ag_rf]
          exact hW
        refine loop39 ((a0.toInt - (0 : Int32).toInt).toNat + 1) 0 J H locs ls ?_ ?_ ?_ ?_ ?_ hWl (lv_sub hl [0, 1, 2, 3] rfl)
        · exact Nat.lt_succ_self _
        · rw [← ag_hvE (J := J) (R := [100, 153]) (F := [(13, 55)]) ag_rf]; exact hwm
        · show 0 ≤ (0 : Int32).toInt ∧ (0 : Int32).toInt ≤ a0.toInt
          try rw [kp0]
          first | omega | exact hi | assumption
        · show (J 13 55).toInt = (J 13 55).toInt + (0 : Int32).toInt
          try rw [kp0]
          first | omega | exact ht | assumption
        · show FEED (J 153) (J 153) (BYM a1) (J 13 55).toInt (0 : Int32).toInt
          try rw [kp0]
          exact feed_0 kp0
      · have c5 : 60 < x4.toInt := tnle rfl kp60 c5
        refine lv_aload_n hx hb dX12_feed_29 rfl (lv_at hl 0 rfl) ?_
        refine lv_bipush (v := (-6)) hx hb dX12_feed_30 (by decide) ?_
        refine ci_ C hW (runV (x := (g.2.2.1 13)) (As := [.int (-6)]) (rest := []) (T := ((J, L, I, P, E, N), sgM g)) C hW (c_X12_refuse l g J L I P E N H.size (-6) (show -6 ≤ (-6 : Int32).toInt ∧ (-6 : Int32).toInt ≤ -1 from by (try simp only [kn6]); omega)) mi_X12_refuse tw_1239 (recv_ (T := ((J, L, I, P, E, N), sgM g)) C hW (mm_ rfl) rfl rfl) ⟨rfl, rfl, Nat.le_of_ble_eq_true rfl, Nat.le_of_ble_eq_true rfl⟩ rfl hl.1 rfl (Nat.le_of_ble_eq_true rfl) dX12_feed_32 ⟨Nat.le_of_ble_eq_true rfl, Nat.le_of_ble_eq_true rfl⟩) (fun r14 u14 H locs hp14 hW => ?_)
        have hc14 : ((r14 = (-6))) := hp14
        clear hp14
        have hr14 : r14.toInt = (-6) := by rw [hc14]; exact kn6
        have hW : WB g A s.heap H locs ((hv J [100] [] u14), L, I, P, E, N) (sgM g) := hW
        have hWr : WB g A s.heap H locs (hv J [100, 153] [(13, 55)] (hv J [100] [] u14), L, I, P, E, N) (sgM g) := by
          rw [← ag_hvE (J := J) (R := [100, 153]) (F := [(13, 55)]) (ag_hv rfl rfl ag_rf)]
          exact hW
        have hwmr : WM (hv J [100] [] u14) := by exact hwm
        have hwmr : WM (hv J [100, 153] [(13, 55)] (hv J [100] [] u14)) := by
          rw [← ag_hvE (J := J) (R := [100, 153]) (F := [(13, 55)]) (ag_hv rfl rfl ag_rf)]; exact hwmr
        subst hQ9
        exact end_i C hr hlocks (hv J [100] [] u14) hWr ⟨hwmr, by first | exact Or.inl ⟨by omega, by omega, show J 13 55 = J 13 55 from by first | rfl | assumption, show J 153 = J 153 from by first | rfl | assumption⟩ | exact Or.inr (Or.inl ⟨by omega, by omega, show J 13 55 = J 13 55 from by first | rfl | assumption, show J 153 = J 153 from by first | rfl | assumption⟩) | exact Or.inr (Or.inr (⟨by omega, by omega, show (J 13 55).toInt = (J 13 55).toInt + a0.toInt from (by first | omega | (have e9 : m4.toInt = a0.toInt := (by omega); rw [← e9]; exact hfd)), show FEED (J 153) (J 153) (BYM a1) (J 13 55).toInt a0.toInt from (by first | omega | (have e9 : m4.toInt = a0.toInt := (by omega); rw [← e9]; exact hfd))⟩))⟩ dX12_feed_35
  · have c1 : a0.toInt < 1 := tnle kp1 rfl c1
    refine lv_aload_n hx hb dX12_feed_5 rfl (lv_at hl 0 rfl) ?_
    refine lv_bipush (v := (-4)) hx hb dX12_feed_6 (by decide) ?_
    refine ci_ C hW (runV (x := (g.2.2.1 13)) (As := [.int (-4)]) (rest := []) (T := ((J, L, I, P, E, N), sgM g)) C hW (c_X12_refuse l g J L I P E N H.size (-4) (show -6 ≤ (-4 : Int32).toInt ∧ (-4 : Int32).toInt ≤ -1 from by (try simp only [kn4]); omega)) mi_X12_refuse tw_1239 (recv_ (T := ((J, L, I, P, E, N), sgM g)) C hW (mm_ rfl) rfl rfl) ⟨rfl, rfl, Nat.le_of_ble_eq_true rfl, Nat.le_of_ble_eq_true rfl⟩ rfl hl.1 rfl (Nat.le_of_ble_eq_true rfl) dX12_feed_8 ⟨Nat.le_of_ble_eq_true rfl, Nat.le_of_ble_eq_true rfl⟩) (fun r15 u15 H locs hp15 hW => ?_)
    have hc15 : ((r15 = (-4))) := hp15
    clear hp15
    have hr15 : r15.toInt = (-4) := by rw [hc15]; exact kn4
    have hW : WB g A s.heap H locs ((hv J [100] [] u15), L, I, P, E, N) (sgM g) := hW
    have hWr : WB g A s.heap H locs (hv J [100, 153] [(13, 55)] (hv J [100] [] u15), L, I, P, E, N) (sgM g) := by
      rw [← ag_hvE (J := J) (R := [100, 153]) (F := [(13, 55)]) (ag_hv rfl rfl ag_rf)]
      exact hW
    have hwmr : WM (hv J [100] [] u15) := by exact hwm
    have hwmr : WM (hv J [100, 153] [(13, 55)] (hv J [100] [] u15)) := by
      rw [← ag_hvE (J := J) (R := [100, 153]) (F := [(13, 55)]) (ag_hv rfl rfl ag_rf)]; exact hwmr
    subst hQ9
    exact end_i C hr hlocks (hv J [100] [] u15) hWr ⟨hwmr, by first | exact Or.inl ⟨by omega, by omega, show J 13 55 = J 13 55 from by first | rfl | assumption, show J 153 = J 153 from by first | rfl | assumption⟩ | exact Or.inr (Or.inl ⟨by omega, by omega, show J 13 55 = J 13 55 from by first | rfl | assumption, show J 153 = J 153 from by first | rfl | assumption⟩) | exact Or.inr (Or.inr (⟨by omega, by omega, show (J 13 55).toInt = (J 13 55).toInt + a0.toInt from (by first | omega | (have e9 : m4.toInt = a0.toInt := (by omega); rw [← e9]; exact hfd)), show FEED (J 153) (J 153) (BYM a1) (J 13 55).toInt a0.toInt from (by first | omega | (have e9 : m4.toInt = a0.toInt := (by omega); rw [← e9]; exact hfd))⟩))⟩ dX12_feed_11

set_option maxHeartbeats 4000000 in
set_option maxRecDepth 100000 in
theorem c_X12_term__e (l : Launch) (g : gG) (J : Nat → Nat → Int32) (L : Nat → Nat → Int64) (I : Nat → Nat → Nat → Int32) (P : Nat → Nat → Nat → Option Nat) (E : Nat → Option Nat) (N : Nat → Nat) (sz : Nat) (a0 : Int32) (a1 : Int32) (hwm : WM J) : Met l yX12_term_ (WS yX12_term_ cX12_term_ 8 (some .int)) (RM (32) 0 0) (PC g [.ref (g.2.2.1 13), .int a0, .int a1] ((J, L, I, P, E, N), sgM g) sz) (va_Qi (fun (r : Int32) (u : (Nat → Nat → Int32)) => WM (hv J [100, 121, 122, 123, 124] [(13, 40), (13, 55), (13, 56), (13, 57), (13, 58), (13, 59), (13, 60)] u) ∧ ((r.toInt = (-2) ∧ (¬ (0 ≤ a0.toInt ∧ a0.toInt ≤ 3)) ∧ u 13 40 = J 13 40 ∧ u 121 = J 121 ∧ u 122 = J 122 ∧ u 123 = J 123 ∧ u 124 = J 124 ∧ u 13 55 = J 13 55) ∨ (r.toInt = (-4) ∧ (0 ≤ a0.toInt ∧ a0.toInt ≤ 3 ∧ a1.toInt < (J 13 31).toInt) ∧ u 13 40 = J 13 40 ∧ u 121 = J 121 ∧ u 122 = J 122 ∧ u 123 = J 123 ∧ u 124 = J 124 ∧ u 13 55 = J 13 55) ∨ (r.toInt = (-6) ∧ (0 ≤ a0.toInt ∧ a0.toInt ≤ 3 ∧ (J 13 31).toInt ≤ a1.toInt ∧ (9999 < a1.toInt ∨ (J 13 40).toInt = 30)) ∧ u 13 40 = J 13 40 ∧ u 121 = J 121 ∧ u 122 = J 122 ∧ u 123 = J 123 ∧ u 124 = J 124 ∧ u 13 55 = J 13 55) ∨ (r = r ∧ (0 ≤ a0.toInt ∧ a0.toInt ≤ 3 ∧ (J 13 31).toInt ≤ a1.toInt ∧ a1.toInt ≤ 9999 ∧ (J 13 40).toInt ≤ 29) ∧ (∃ q : Nat, r.toInt = -20 - (q : Int) ∧ (PF (NX (J 153) (J 13 55)) 0 5 0 q ∨ ((∃ c, PT (NX (J 153) (J 13 55)) 0 5 0 q c) ∧ ¬ (q : Int) = (J 13 55).toInt))) ∧ (u 13 55).toInt = 0 ∧ u 13 40 = J 13 40 ∧ u 121 = J 121 ∧ u 122 = J 122 ∧ u 123 = J 123 ∧ u 124 = J 124) ∨ (r.toInt = (J 13 40).toInt + 1 ∧ (0 ≤ a0.toInt ∧ a0.toInt ≤ 3 ∧ (J 13 31).toInt ≤ a1.toInt ∧ a1.toInt ≤ 9999 ∧ (J 13 40).toInt ≤ 29) ∧ (u 13 40).toInt = (J 13 40).toInt + 1 ∧ (u 13 55).toInt = 0 ∧ (∃ (q : Nat) (c : List Int), PT (NX (J 153) (J 13 55)) 0 5 0 q c ∧ (q : Int) = (J 13 55).toInt) ∧ u 121 = up2 J 121 (J 13 40).toNatClampNeg (J 13 55) 121 ∧ u 122 = up2 J 122 (J 13 40).toNatClampNeg a0 122 ∧ u 123 = up2 J 123 (J 13 40).toNatClampNeg a1 123 ∧ TXC (J 124) (u 124) (J 153) (60 * (J 13 40).toInt) (J 13 55).toInt))) (fun u t => at_ g (FR g ((J, L, I, P, E, N), sgM g) sz) ((hv J [100, 121, 122, 123, 124] [(13, 40), (13, 55), (13, 56), (13, 57), (13, 58), (13, 59), (13, 60)] u, L, I, P, E, N), sgM g) t) (FR g ((J, L, I, P, E, N), sgM g) sz)) 0 0 (FR g ((J, L, I, P, E, N), sgM g) sz) := by
  refine ent (by decide +kernel) (Nat.le_of_ble_eq_true rfl) ?_
  intro p e s m below meth c ls hsz C hW hr hlocks hname hl
  generalize FR g ((J, L, I, P, E, N), sgM g) sz = A at C hW ⊢
  generalize hQ9 : (va_Qi (fun (r : Int32) (u : (Nat → Nat → Int32)) => WM (hv J [100, 121, 122, 123, 124] [(13, 40), (13, 55), (13, 56), (13, 57), (13, 58), (13, 59), (13, 60)] u) ∧ ((r.toInt = (-2) ∧ (¬ (0 ≤ a0.toInt ∧ a0.toInt ≤ 3)) ∧ u 13 40 = J 13 40 ∧ u 121 = J 121 ∧ u 122 = J 122 ∧ u 123 = J 123 ∧ u 124 = J 124 ∧ u 13 55 = J 13 55) ∨ (r.toInt = (-4) ∧ (0 ≤ a0.toInt ∧ a0.toInt ≤ 3 ∧ a1.toInt < (J 13 31).toInt) ∧ u 13 40 = J 13 40 ∧ u 121 = J 121 ∧ u 122 = J 122 ∧ u 123 = J 123 ∧ u 124 = J 124 ∧ u 13 55 = J 13 55) ∨ (r.toInt = (-6) ∧ (0 ≤ a0.toInt ∧ a0.toInt ≤ 3 ∧ (J 13 31).toInt ≤ a1.toInt ∧ (9999 < a1.toInt ∨ (J 13 40).toInt = 30)) ∧ u 13 40 = J 13 40 ∧ u 121 = J 121 ∧ u 122 = J 122 ∧ u 123 = J 123 ∧ u 124 = J 124 ∧ u 13 55 = J 13 55) ∨ (r = r ∧ (0 ≤ a0.toInt ∧ a0.toInt ≤ 3 ∧ (J 13 31).toInt ≤ a1.toInt ∧ a1.toInt ≤ 9999 ∧ (J 13 40).toInt ≤ 29) ∧ (∃ q : Nat, r.toInt = -20 - (q : Int) ∧ (PF (NX (J 153) (J 13 55)) 0 5 0 q ∨ ((∃ c, PT (NX (J 153) (J 13 55)) 0 5 0 q c) ∧ ¬ (q : Int) = (J 13 55).toInt))) ∧ (u 13 55).toInt = 0 ∧ u 13 40 = J 13 40 ∧ u 121 = J 121 ∧ u 122 = J 122 ∧ u 123 = J 123 ∧ u 124 = J 124) ∨ (r.toInt = (J 13 40).toInt + 1 ∧ (0 ≤ a0.toInt ∧ a0.toInt ≤ 3 ∧ (J 13 31).toInt ≤ a1.toInt ∧ a1.toInt ≤ 9999 ∧ (J 13 40).toInt ≤ 29) ∧ (u 13 40).toInt = (J 13 40).toInt + 1 ∧ (u 13 55).toInt = 0 ∧ (∃ (q : Nat) (c : List Int), PT (NX (J 153) (J 13 55)) 0 5 0 q c ∧ (q : Int) = (J 13 55).toInt) ∧ u 121 = up2 J 121 (J 13 40).toNatClampNeg (J 13 55) 121 ∧ u 122 = up2 J 122 (J 13 40).toNatClampNeg a0 122 ∧ u 123 = up2 J 123 (J 13 40).toNatClampNeg a1 123 ∧ TXC (J 124) (u 124) (J 153) (60 * (J 13 40).toInt) (J 13 55).toInt))) (fun u t => at_ g A ((hv J [100, 121, 122, 123, 124] [(13, 40), (13, 55), (13, 56), (13, 57), (13, 58), (13, 59), (13, 60)] u, L, I, P, E, N), sgM g) t) A) = Q9
  have hx := C.1.1
  have hb := C.1.2.1
  have hts := C.1.2.2.2.2
  have hW : WB g A s.heap s.heap [] (J, L, I, P, E, N) (sgM g) := hW
  have hl : lv_has ls 8 [(0, .ref (g.2.2.1 13)), (1, .int a0), (2, .int a1)] := hl
  obtain ⟨H, hH⟩ : ∃ H : Heap, H = s.heap := ⟨_, rfl⟩
  obtain ⟨locs, hlocs⟩ : ∃ q : List Loc, q = [] := ⟨_, rfl⟩
  have hW : WB g A s.heap H locs (J, L, I, P, E, N) (sgM g) := by rw [hH, hlocs]; exact hW
  obtain ⟨⟨hnd1, hnd2, hon, hhm1, hhm2, hhN, hcu1, hcu2, hco1, hco2, hcN⟩, ⟨hrd1, hrd2⟩, ⟨hnw1, hnw2, hns1, hns2, hof⟩, ⟨htm1, htm2, hts_⟩, ⟨had1, had2, hrw1, hrw2, htp1, htp2⟩⟩ := id hwm
  refine start_ hH hlocs ?_
  refine lv_iload_n hx hb dX12_term__0 rfl (lv_at hl 1 rfl) ?_
  refine lv_iconst (v := 4) hx hb dX12_term__1 (by decide) ?_
  refine ci_ C hW (runS (As := [.int a0, .int 4]) (rest := []) (T := ((J, L, I, P, E, N), sgM g)) C hW (c_X12_isIn l g J L I P E N H.size a0 4 ) mi_X12_isIn tw_1255 ⟨rfl, rfl, Nat.le_of_ble_eq_true rfl, Nat.le_of_ble_eq_true rfl⟩ rfl hl.1 rfl (Nat.le_of_ble_eq_true rfl) dX12_term__2 ⟨Nat.le_of_ble_eq_true rfl, Nat.le_of_ble_eq_true rfl⟩) (fun r1 u1 H locs hp1 hW => ?_)
  have hc1 : ((r1.toInt = 1 ∧ (0 ≤ a0.toInt ∧ a0.toInt < 4)) ∨ (r1.toInt = 0 ∧ (¬ (0 ≤ a0.toInt ∧ a0.toInt < 4)))) := hp1
  clear hp1
  have hW : WB g A s.heap H locs (J, L, I, P, E, N) (sgM g) := hW
  refine lv_if_ne (tgt := 15) hx hb dX12_term__5 (by decide) (fun c2 => ?_) (fun c2 => ?_)
  · have c2 : ¬ r1.toInt = 0 := tne rfl kp0 c2
    refine lv_iload_n hx hb dX12_term__15 rfl (lv_at hl 2 rfl) ?_
    refine lv_aload_n hx hb dX12_term__16 rfl (lv_at hl 0 rfl) ?_
    refine rg_13_31 C hW (mm_ rfl) tw_1054 dX12_term__17 ?_
    refine lv_sipush (v := 9999) hx hb dX12_term__20 (by decide) ?_
    refine ci_ C hW (runS (As := [.int a1, .int (J 13 31), .int 9999]) (rest := []) (T := ((J, L, I, P, E, N), sgM g)) C hW (c_X12_within l g J L I P E N H.size a1 (J 13 31) 9999 ) mi_X12_within tw_1258 ⟨rfl, rfl, Nat.le_of_ble_eq_true rfl, Nat.le_of_ble_eq_true rfl⟩ rfl hl.1 rfl (Nat.le_of_ble_eq_true rfl) dX12_term__23 ⟨Nat.le_of_ble_eq_true rfl, Nat.le_of_ble_eq_true rfl⟩) (fun r3 u3 H locs hp3 hW => ?_)
    have hc3 : ((r3.toInt = (-4) ∧ (a1.toInt < (J 13 31).toInt)) ∨ (r3.toInt = (-6) ∧ ((J 13 31).toInt ≤ a1.toInt ∧ 9999 < a1.toInt)) ∨ (r3.toInt = 0 ∧ ((J 13 31).toInt ≤ a1.toInt ∧ a1.toInt ≤ 9999))) := hp3
    clear hp3
    have hW : WB g A s.heap H locs (J, L, I, P, E, N) (sgM g) := hW
    refine lv_istore_n (lv' := [(3, .int r3), (0, .ref (g.2.2.1 13)), (1, .int a0), (2, .int a1)]) hx hb dX12_term__26 rfl hl (by decide) rfl (fun ls hl => ?_)
    refine lv_iload_n hx hb dX12_term__27 rfl (lv_at hl 0 rfl) ?_
    refine lv_if_ne (tgt := 43) hx hb dX12_term__28 (by decide) (fun c4 => ?_) (fun c4 => ?_)
    · have c4 : ¬ r3.toInt = 0 := tne rfl kp0 c4
      refine lv_iload_n hx hb dX12_term__43 rfl (lv_at hl 0 rfl) ?_
      refine lv_if_eq (tgt := 53) hx hb dX12_term__44 (by decide) (fun c5 => ?_) (fun c5 => ?_)
      · have c5 : r3.toInt = 0 := teq rfl kp0 c5
        exfalso; omega
      · have c5 : ¬ r3.toInt = 0 := tne rfl kp0 c5
        refine lv_aload_n hx hb dX12_term__47 rfl (lv_at hl 1 rfl) ?_
        refine lv_iload_n hx hb dX12_term__48 rfl (lv_at hl 0 rfl) ?_
        refine ci_ C hW (runV (x := (g.2.2.1 13)) (As := [.int r3]) (rest := []) (T := ((J, L, I, P, E, N), sgM g)) C hW (c_X12_refuse l g J L I P E N H.size r3 (show -6 ≤ r3.toInt ∧ r3.toInt ≤ -1 from by omega)) mi_X12_refuse tw_1239 (recv_ (T := ((J, L, I, P, E, N), sgM g)) C hW (mm_ rfl) rfl rfl) ⟨rfl, rfl, Nat.le_of_ble_eq_true rfl, Nat.le_of_ble_eq_true rfl⟩ rfl hl.1 rfl (Nat.le_of_ble_eq_true rfl) dX12_term__49 ⟨Nat.le_of_ble_eq_true rfl, Nat.le_of_ble_eq_true rfl⟩) (fun r6 u6 H locs hp6 hW => ?_)
        have hc6 : ((r6 = r3)) := hp6
        clear hp6
        have hr6 : r6.toInt = (r3).toInt := by rw [hc6]
        have hW : WB g A s.heap H locs ((hv J [100] [] u6), L, I, P, E, N) (sgM g) := hW
        have hWr : WB g A s.heap H locs (hv J [100, 121, 122, 123, 124] [(13, 40), (13, 55), (13, 56), (13, 57), (13, 58), (13, 59), (13, 60)] (hv J [100] [] u6), L, I, P, E, N) (sgM g) := by
          rw [← ag_hvE (J := J) (R := [100, 121, 122, 123, 124]) (F := [(13, 40), (13, 55), (13, 56), (13, 57), (13, 58), (13, 59), (13, 60)]) (ag_hv rfl rfl ag_rf)]
          exact hW
        have hwmr : WM (hv J [100] [] u6) := by exact hwm
        have hwmr : WM (hv J [100, 121, 122, 123, 124] [(13, 40), (13, 55), (13, 56), (13, 57), (13, 58), (13, 59), (13, 60)] (hv J [100] [] u6)) := by
          rw [← ag_hvE (J := J) (R := [100, 121, 122, 123, 124]) (F := [(13, 40), (13, 55), (13, 56), (13, 57), (13, 58), (13, 59), (13, 60)]) (ag_hv rfl rfl ag_rf)]; exact hwmr
        subst hQ9
        exact end_i C hr hlocks (hv J [100] [] u6) hWr ⟨hwmr, by first | exact Or.inr (Or.inl ⟨by omega, by omega, show J 13 40 = J 13 40 from by first | rfl | assumption, show J 121 = J 121 from by first | rfl | assumption, show J 122 = J 122 from by first | rfl | assumption, show J 123 = J 123 from by first | rfl | assumption, show J 124 = J 124 from by first | rfl | assumption, show J 13 55 = J 13 55 from by first | rfl | assumption⟩) | exact Or.inr (Or.inr (Or.inl ⟨by omega, by omega, show J 13 40 = J 13 40 from by first | rfl | assumption, show J 121 = J 121 from by first | rfl | assumption, show J 122 = J 122 from by first | rfl | assumption, show J 123 = J 123 from by first | rfl | assumption, show J 124 = J 124 from by first | rfl | assumption, show J 13 55 = J 13 55 from by first | rfl | assumption⟩)) | (rcases hc1 with qhc1 | qhc1 <;> rcases hc3 with qhc3 | qhc3 | qhc3 <;> first | exact Or.inr (Or.inl ⟨by omega, by omega, show J 13 40 = J 13 40 from by first | rfl | assumption, show J 121 = J 121 from by first | rfl | assumption, show J 122 = J 122 from by first | rfl | assumption, show J 123 = J 123 from by first | rfl | assumption, show J 124 = J 124 from by first | rfl | assumption, show J 13 55 = J 13 55 from by first | rfl | assumption⟩) | exact Or.inr (Or.inr (Or.inl ⟨by omega, by omega, show J 13 40 = J 13 40 from by first | rfl | assumption, show J 121 = J 121 from by first | rfl | assumption, show J 122 = J 122 from by first | rfl | assumption, show J 123 = J 123 from by first | rfl | assumption, show J 124 = J 124 from by first | rfl | assumption, show J 13 55 = J 13 55 from by first | rfl | assumption⟩)) | (exfalso; omega))⟩ dX12_term__52
    · have c4 : r3.toInt = 0 := teq rfl kp0 c4
      refine lv_aload_n hx hb dX12_term__31 rfl (lv_at hl 1 rfl) ?_
      refine rg_13_40 C hW (mm_ rfl) tw_1063 dX12_term__32 ?_
      refine lv_bipush (v := 30) hx hb dX12_term__35 (by decide) ?_
      refine lv_icmp_ne (tgt := 43) hx hb dX12_term__37 (by decide) (fun c7 => ?_) (fun c7 => ?_)
      · have c7 : ¬ (J 13 40).toInt = 30 := tne rfl kp30 c7
        refine lv_iload_n hx hb dX12_term__43 rfl (lv_at hl 0 rfl) ?_
        refine lv_if_eq (tgt := 53) hx hb dX12_term__44 (by decide) (fun c8 => ?_) (fun c8 => ?_)
        · have c8 : r3.toInt = 0 := teq rfl kp0 c8
          refine lv_aload_n hx hb dX12_term__53 rfl (lv_at hl 1 rfl) ?_
          refine lv_iconst (v := (-1)) hx hb dX12_term__54 (by decide) ?_
          refine lv_aload_n hx hb dX12_term__55 rfl (lv_at hl 1 rfl) ?_
          refine rg_13_55 C hW (mm_ rfl) tw_1078 dX12_term__56 ?_
          refine ci_ C hW (runV (x := (g.2.2.1 13)) (As := [.int (-1), .int (J 13 55)]) (rest := []) (T := ((J, L, I, P, E, N), sgM g)) C hW (c_X12_goesThrough_e l g J L I P E N H.size (-1) (J 13 55) hwm (show ((-1 : Int32).toInt < 0 ∧ 0 ≤ (J 13 55).toInt ∧ (J 13 55).toInt ≤ 60) ∨ (0 ≤ (-1 : Int32).toInt ∧ 0 ≤ (J 13 55).toInt ∧ (-1 : Int32).toInt + (J 13 55).toInt ≤ 1800) from by (try simp only [kn1]); omega)) mi_X12_goesThrough tw_1342 (recv_ (T := ((J, L, I, P, E, N), sgM g)) C hW (mm_ rfl) rfl rfl) ⟨rfl, rfl, Nat.le_of_ble_eq_true rfl, Nat.le_of_ble_eq_true rfl⟩ rfl hl.1 rfl (Nat.le_of_ble_eq_true rfl) dX12_term__59 ⟨Nat.le_of_ble_eq_true rfl, Nat.le_of_ble_eq_true rfl⟩) (fun r9 u9 H locs hp9 hW => ?_)
          obtain ⟨hf9_0, hf9_1⟩ : ((¬ (u9 13 60).toInt = 0 ∧ ∃ c, PT (NX (RBY (-1) (J 153) (J 124)) (J 13 55)) 0 5 0 (u9 13 56).toInt.toNat c ∧ VAL (LTR (J 154)) c r9) ∨ ((u9 13 60).toInt = 0 ∧ PF (NX (RBY (-1) (J 153) (J 124)) (J 13 55)) 0 5 0 (u9 13 56).toInt.toNat)) ∧ (0 ≤ (u9 13 56).toInt) := hp9
          have hW : WB g A s.heap H locs ((hv J [] [(13, 56), (13, 57), (13, 58), (13, 59), (13, 60)] u9), L, I, P, E, N) (sgM g) := hW
          have hGT := hf9_0
          have hGA := hf9_1
          rw [show RBY (-1 : Int32) (J 153) (J 124) = J 153 from rby_n (by decide)] at hGT
          refine lv_istore (lv' := [(4, .int r9), (3, .int r3), (0, .ref (g.2.2.1 13)), (1, .int a0), (2, .int a1)]) hx hb dX12_term__62 hl (by decide) rfl (fun ls hl => ?_)
          refine lv_aload_n hx hb dX12_term__64 rfl (lv_at hl 2 rfl) ?_
          refine rg_13_60 C hW (mm_ rfl) tw_1083 dX12_term__65 ?_
          refine lv_as (u9 13 60) rfl ?_
          refine lv_if_eq (tgt := 86) hx hb dX12_term__68 (by decide) (fun c10 => ?_) (fun c10 => ?_)
          · have c10 : (u9 13 60).toInt = 0 := teq rfl kp0 c10
            refine lv_iconst (v := 0) hx hb dX12_term__86 (by decide) ?_
            refine lv_istore (lv' := [(5, .int 0), (4, .int r9), (3, .int r3), (0, .ref (g.2.2.1 13)), (1, .int a0), (2, .int a1)]) hx hb dX12_term__87 hl (by decide) rfl (fun ls hl => ?_)
            refine lv_aload_n hx hb dX12_term__89 rfl (lv_at hl 3 rfl) ?_
            refine rg_13_55 C hW (mm_ rfl) tw_1078 dX12_term__90 ?_
            refine lv_as (J 13 55) rfl ?_
            refine lv_istore (lv' := [(6, .int (J 13 55)), (5, .int 0), (4, .int r9), (3, .int r3), (0, .ref (g.2.2.1 13)), (1, .int a0), (2, .int a1)]) hx hb dX12_term__93 hl (by decide) rfl (fun ls hl => ?_)
            refine lv_aload_n hx hb dX12_term__95 rfl (lv_at hl 4 rfl) ?_
            refine lv_iconst (v := 0) hx hb dX12_term__96 (by decide) ?_
            refine rp_13_55 C hW (mm_ rfl) tw_1078 dX12_term__97 (fun H locs hW => ?_)
            refine lv_iload hx hb dX12_term__100 (lv_at hl 1 rfl) ?_
            refine lv_if_ne (tgt := 113) hx hb dX12_term__102 (by decide) (fun c11 => ?_) (fun c11 => ?_)
            · exact absurd c11 (by decide)
            · skip
              have hG8 : (u9 13 56).toInt ≤ 60 := hGT.elim (fun y => by obtain ⟨-, c9, y2, -⟩ := y; have z9 := pt_hi y2 (by omega); omega) (fun y => by have z9 := pf_hi y.2 (by omega); omega)
              refine lv_bipush (v := (-20)) hx hb dX12_term__105 (by decide) ?_
              refine lv_aload_n hx hb dX12_term__107 rfl (lv_at hl 4 rfl) ?_
              refine rg_13_56 C hW (mm_ rfl) tw_1079 dX12_term__108 ?_
              refine lv_as (u9 13 56) rfl ?_
              refine lv_isub hx hb dX12_term__111 ?_
              refine lv_topi (fun x12 (e12 : x12 = (-20) - (u9 13 56)) => ?_)
              try have t12 : x12.toInt = (-20) - (u9 13 56).toInt := tsub e12 kn20 rfl (by omega)
              have hWr : WB g A s.heap H locs (hv J [100, 121, 122, 123, 124] [(13, 40), (13, 55), (13, 56), (13, 57), (13, 58), (13, 59), (13, 60)] (up2 (hv J [] [(13, 56), (13, 57), (13, 58), (13, 59), (13, 60)] u9) 13 55 0), L, I, P, E, N) (sgM g) := by
                rw [← ag_hvE (J := J) (R := [100, 121, 122, 123, 124]) (F := [(13, 40), (13, 55), (13, 56), (13, 57), (13, 58), (13, 59), (13, 60)]) (ag_up (Or.inr rfl) (ag_hv rfl rfl ag_rf))]
                exact hW
              have hwmr : WM (up2 (hv J [] [(13, 56), (13, 57), (13, 58), (13, 59), (13, 60)] u9) 13 55 0) := by exact wm_tape0 hwm
              have hwmr : WM (hv J [100, 121, 122, 123, 124] [(13, 40), (13, 55), (13, 56), (13, 57), (13, 58), (13, 59), (13, 60)] (up2 (hv J [] [(13, 56), (13, 57), (13, 58), (13, 59), (13, 60)] u9) 13 55 0)) := by
                rw [← ag_hvE (J := J) (R := [100, 121, 122, 123, 124]) (F := [(13, 40), (13, 55), (13, 56), (13, 57), (13, 58), (13, 59), (13, 60)]) (ag_up (Or.inr rfl) (ag_hv rfl rfl ag_rf))]; exact hwmr
              subst hQ9
              exact end_i C hr hlocks (up2 (hv J [] [(13, 56), (13, 57), (13, 58), (13, 59), (13, 60)] u9) 13 55 0) hWr ⟨hwmr, by first | exact Or.inr (Or.inr (Or.inr (Or.inl ⟨by first | rfl | assumption, by omega, show (∃ q : Nat, x12.toInt = -20 - (q : Int) ∧ (PF (NX (J 153) (J 13 55)) 0 5 0 q ∨ ((∃ c, PT (NX (J 153) (J 13 55)) 0 5 0 q c) ∧ ¬ (q : Int) = (J 13 55).toInt))) from (by first | rfl | exact kp0 | (rcases hGT with ⟨y1, c9, y2, y3⟩ | ⟨y1, y2⟩; (first | exact ⟨_, by omega, Or.inr ⟨⟨c9, y2⟩, by omega⟩⟩ | (exfalso; omega)); (first | exact ⟨_, by omega, Or.inl y2⟩ | (exfalso; omega)))), show ((0 : Int32)).toInt = 0 from (by first | rfl | exact kp0 | (rcases hGT with ⟨y1, c9, y2, y3⟩ | ⟨y1, y2⟩; (first | exact ⟨_, by omega, Or.inr ⟨⟨c9, y2⟩, by omega⟩⟩ | (exfalso; omega)); (first | exact ⟨_, by omega, Or.inl y2⟩ | (exfalso; omega)))), show J 13 40 = J 13 40 from (by first | rfl | exact kp0 | (rcases hGT with ⟨y1, c9, y2, y3⟩ | ⟨y1, y2⟩; (first | exact ⟨_, by omega, Or.inr ⟨⟨c9, y2⟩, by omega⟩⟩ | (exfalso; omega)); (first | exact ⟨_, by omega, Or.inl y2⟩ | (exfalso; omega)))), show J 121 = J 121 from (by first | rfl | exact kp0 | (rcases hGT with ⟨y1, c9, y2, y3⟩ | ⟨y1, y2⟩; (first | exact ⟨_, by omega, Or.inr ⟨⟨c9, y2⟩, by omega⟩⟩ | (exfalso; omega)); (first | exact ⟨_, by omega, Or.inl y2⟩ | (exfalso; omega)))), show J 122 = J 122 from (by first | rfl | exact kp0 | (rcases hGT with ⟨y1, c9, y2, y3⟩ | ⟨y1, y2⟩; (first | exact ⟨_, by omega, Or.inr ⟨⟨c9, y2⟩, by omega⟩⟩ | (exfalso; omega)); (first | exact ⟨_, by omega, Or.inl y2⟩ | (exfalso; omega)))), show J 123 = J 123 from (by first | rfl | exact kp0 | (rcases hGT with ⟨y1, c9, y2, y3⟩ | ⟨y1, y2⟩; (first | exact ⟨_, by omega, Or.inr ⟨⟨c9, y2⟩, by omega⟩⟩ | (exfalso; omega)); (first | exact ⟨_, by omega, Or.inl y2⟩ | (exfalso; omega)))), show J 124 = J 124 from (by first | rfl | exact kp0 | (rcases hGT with ⟨y1, c9, y2, y3⟩ | ⟨y1, y2⟩; (first | exact ⟨_, by omega, Or.inr ⟨⟨c9, y2⟩, by omega⟩⟩ | (exfalso; omega)); (first | exact ⟨_, by omega, Or.inl y2⟩ | (exfalso; omega))))⟩))) | (rcases hc1 with qhc1 | qhc1 <;> rcases hc3 with qhc3 | qhc3 | qhc3 <;> first | exact Or.inr (Or.inr (Or.inr (Or.inl ⟨by first | rfl | assumption, by omega, show (∃ q : Nat, x12.toInt = -20 - (q : Int) ∧ (PF (NX (J 153) (J 13 55)) 0 5 0 q ∨ ((∃ c, PT (NX (J 153) (J 13 55)) 0 5 0 q c) ∧ ¬ (q : Int) = (J 13 55).toInt))) from (by first | rfl | exact kp0 | (rcases hGT with ⟨y1, c9, y2, y3⟩ | ⟨y1, y2⟩; (first | exact ⟨_, by omega, Or.inr ⟨⟨c9, y2⟩, by omega⟩⟩ | (exfalso; omega)); (first | exact ⟨_, by omega, Or.inl y2⟩ | (exfalso; omega)))), show ((0 : Int32)).toInt = 0 from (by first | rfl | exact kp0 | (rcases hGT with ⟨y1, c9, y2, y3⟩ | ⟨y1, y2⟩; (first | exact ⟨_, by omega, Or.inr ⟨⟨c9, y2⟩, by omega⟩⟩ | (exfalso; omega)); (first | exact ⟨_, by omega, Or.inl y2⟩ | (exfalso; omega)))), show J 13 40 = J 13 40 from (by first | rfl | exact kp0 | (rcases hGT with ⟨y1, c9, y2, y3⟩ | ⟨y1, y2⟩; (first | exact ⟨_, by omega, Or.inr ⟨⟨c9, y2⟩, by omega⟩⟩ | (exfalso; omega)); (first | exact ⟨_, by omega, Or.inl y2⟩ | (exfalso; omega)))), show J 121 = J 121 from (by first | rfl | exact kp0 | (rcases hGT with ⟨y1, c9, y2, y3⟩ | ⟨y1, y2⟩; (first | exact ⟨_, by omega, Or.inr ⟨⟨c9, y2⟩, by omega⟩⟩ | (exfalso; omega)); (first | exact ⟨_, by omega, Or.inl y2⟩ | (exfalso; omega)))), show J 122 = J 122 from (by first | rfl | exact kp0 | (rcases hGT with ⟨y1, c9, y2, y3⟩ | ⟨y1, y2⟩; (first | exact ⟨_, by omega, Or.inr ⟨⟨c9, y2⟩, by omega⟩⟩ | (exfalso; omega)); (first | exact ⟨_, by omega, Or.inl y2⟩ | (exfalso; omega)))), show J 123 = J 123 from (by first | rfl | exact kp0 | (rcases hGT with ⟨y1, c9, y2, y3⟩ | ⟨y1, y2⟩; (first | exact ⟨_, by omega, Or.inr ⟨⟨c9, y2⟩, by omega⟩⟩ | (exfalso; omega)); (first | exact ⟨_, by omega, Or.inl y2⟩ | (exfalso; omega)))), show J 124 = J 124 from (by first | rfl | exact kp0 | (rcases hGT with ⟨y1, c9, y2, y3⟩ | ⟨y1, y2⟩; (first | exact ⟨_, by omega, Or.inr ⟨⟨c9, y2⟩, by omega⟩⟩ | (exfalso; omega)); (first | exact ⟨_, by omega, Or.inl y2⟩ | (exfalso; omega))))⟩))) | (exfalso; omega))⟩ dX12_term__112
          · have c10 : ¬ (u9 13 60).toInt = 0 := tne rfl kp0 c10
            refine lv_aload_n hx hb dX12_term__71 rfl (lv_at hl 2 rfl) ?_
            refine rg_13_56 C hW (mm_ rfl) tw_1079 dX12_term__72 ?_
            refine lv_as (u9 13 56) rfl ?_
            refine lv_aload_n hx hb dX12_term__75 rfl (lv_at hl 2 rfl) ?_
            refine rg_13_55 C hW (mm_ rfl) tw_1078 dX12_term__76 ?_
            refine lv_as (J 13 55) rfl ?_
            refine lv_icmp_ne (tgt := 86) hx hb dX12_term__79 (by decide) (fun c13 => ?_) (fun c13 => ?_)
            · have c13 : ¬ (u9 13 56).toInt = (J 13 55).toInt := tne rfl rfl c13
              refine lv_iconst (v := 0) hx hb dX12_term__86 (by decide) ?_
              refine lv_istore (lv' := [(5, .int 0), (4, .int r9), (3, .int r3), (0, .ref (g.2.2.1 13)), (1, .int a0), (2, .int a1)]) hx hb dX12_term__87 hl (by decide) rfl (fun ls hl => ?_)
              refine lv_aload_n hx hb dX12_term__89 rfl (lv_at hl 3 rfl) ?_
              refine rg_13_55 C hW (mm_ rfl) tw_1078 dX12_term__90 ?_
              refine lv_as (J 13 55) rfl ?_
              refine lv_istore (lv' := [(6, .int (J 13 55)), (5, .int 0), (4, .int r9), (3, .int r3), (0, .ref (g.2.2.1 13)), (1, .int a0), (2, .int a1)]) hx hb dX12_term__93 hl (by decide) rfl (fun ls hl => ?_)
              refine lv_aload_n hx hb dX12_term__95 rfl (lv_at hl 4 rfl) ?_
              refine lv_iconst (v := 0) hx hb dX12_term__96 (by decide) ?_
              refine rp_13_55 C hW (mm_ rfl) tw_1078 dX12_term__97 (fun H locs hW => ?_)
              refine lv_iload hx hb dX12_term__100 (lv_at hl 1 rfl) ?_
              refine lv_if_ne (tgt := 113) hx hb dX12_term__102 (by decide) (fun c14 => ?_) (fun c14 => ?_)
              · exact absurd c14 (by decide)
              · skip
                have hG8 : (u9 13 56).toInt ≤ 60 := hGT.elim (fun y => by obtain ⟨-, c9, y2, -⟩ := y; have z9 := pt_hi y2 (by omega); omega) (fun y => by have z9 := pf_hi y.2 (by omega); omega)
                refine lv_bipush (v := (-20)) hx hb dX12_term__105 (by decide) ?_
                refine lv_aload_n hx hb dX12_term__107 rfl (lv_at hl 4 rfl) ?_
                refine rg_13_56 C hW (mm_ rfl) tw_1079 dX12_term__108 ?_
                refine lv_as (u9 13 56) rfl ?_
                refine lv_isub hx hb dX12_term__111 ?_
                refine lv_topi (fun x15 (e15 : x15 = (-20) - (u9 13 56)) => ?_)
                try have t15 : x15.toInt = (-20) - (u9 13 56).toInt := tsub e15 kn20 rfl (by omega)
                have hWr : WB g A s.heap H locs (hv J [100, 121, 122, 123, 124] [(13, 40), (13, 55), (13, 56), (13, 57), (13, 58), (13, 59), (13, 60)] (up2 (hv J [] [(13, 56), (13, 57), (13, 58), (13, 59), (13, 60)] u9) 13 55 0), L, I, P, E, N) (sgM g) := by
                  rw [← ag_hvE (J := J) (R := [100, 121, 122, 123, 124]) (F := [(13, 40), (13, 55), (13, 56), (13, 57), (13, 58), (13, 59), (13, 60)]) (ag_up (Or.inr rfl) (ag_hv rfl rfl ag_rf))]
                  exact hW
                have hwmr : WM (up2 (hv J [] [(13, 56), (13, 57), (13, 58), (13, 59), (13, 60)] u9) 13 55 0) := by exact wm_tape0 hwm
                have hwmr : WM (hv J [100, 121, 122, 123, 124] [(13, 40), (13, 55), (13, 56), (13, 57), (13, 58), (13, 59), (13, 60)] (up2 (hv J [] [(13, 56), (13, 57), (13, 58), (13, 59), (13, 60)] u9) 13 55 0)) := by
                  rw [← ag_hvE (J := J) (R := [100, 121, 122, 123, 124]) (F := [(13, 40), (13, 55), (13, 56), (13, 57), (13, 58), (13, 59), (13, 60)]) (ag_up (Or.inr rfl) (ag_hv rfl rfl ag_rf))]; exact hwmr
                subst hQ9
                exact end_i C hr hlocks (up2 (hv J [] [(13, 56), (13, 57), (13, 58), (13, 59), (13, 60)] u9) 13 55 0) hWr ⟨hwmr, by first | exact Or.inr (Or.inr (Or.inr (Or.inl ⟨by first | rfl | assumption, by omega, show (∃ q : Nat, x15.toInt = -20 - (q : Int) ∧ (PF (NX (J 153) (J 13 55)) 0 5 0 q ∨ ((∃ c, PT (NX (J 153) (J 13 55)) 0 5 0 q c) ∧ ¬ (q : Int) = (J 13 55).toInt))) from (by first | rfl | exact kp0 | (rcases hGT with ⟨y1, c9, y2, y3⟩ | ⟨y1, y2⟩; (first | exact ⟨_, by omega, Or.inr ⟨⟨c9, y2⟩, by omega⟩⟩ | (exfalso; omega)); (first | exact ⟨_, by omega, Or.inl y2⟩ | (exfalso; omega)))), show ((0 : Int32)).toInt = 0 from (by first | rfl | exact kp0 | (rcases hGT with ⟨y1, c9, y2, y3⟩ | ⟨y1, y2⟩; (first | exact ⟨_, by omega, Or.inr ⟨⟨c9, y2⟩, by omega⟩⟩ | (exfalso; omega)); (first | exact ⟨_, by omega, Or.inl y2⟩ | (exfalso; omega)))), show J 13 40 = J 13 40 from (by first | rfl | exact kp0 | (rcases hGT with ⟨y1, c9, y2, y3⟩ | ⟨y1, y2⟩; (first | exact ⟨_, by omega, Or.inr ⟨⟨c9, y2⟩, by omega⟩⟩ | (exfalso; omega)); (first | exact ⟨_, by omega, Or.inl y2⟩ | (exfalso; omega)))), show J 121 = J 121 from (by first | rfl | exact kp0 | (rcases hGT with ⟨y1, c9, y2, y3⟩ | ⟨y1, y2⟩; (first | exact ⟨_, by omega, Or.inr ⟨⟨c9, y2⟩, by omega⟩⟩ | (exfalso; omega)); (first | exact ⟨_, by omega, Or.inl y2⟩ | (exfalso; omega)))), show J 122 = J 122 from (by first | rfl | exact kp0 | (rcases hGT with ⟨y1, c9, y2, y3⟩ | ⟨y1, y2⟩; (first | exact ⟨_, by omega, Or.inr ⟨⟨c9, y2⟩, by omega⟩⟩ | (exfalso; omega)); (first | exact ⟨_, by omega, Or.inl y2⟩ | (exfalso; omega)))), show J 123 = J 123 from (by first | rfl | exact kp0 | (rcases hGT with ⟨y1, c9, y2, y3⟩ | ⟨y1, y2⟩; (first | exact ⟨_, by omega, Or.inr ⟨⟨c9, y2⟩, by omega⟩⟩ | (exfalso; omega)); (first | exact ⟨_, by omega, Or.inl y2⟩ | (exfalso; omega)))), show J 124 = J 124 from (by first | rfl | exact kp0 | (rcases hGT with ⟨y1, c9, y2, y3⟩ | ⟨y1, y2⟩; (first | exact ⟨_, by omega, Or.inr ⟨⟨c9, y2⟩, by omega⟩⟩ | (exfalso; omega)); (first | exact ⟨_, by omega, Or.inl y2⟩ | (exfalso; omega))))⟩))) | (rcases hc1 with qhc1 | qhc1 <;> rcases hc3 with qhc3 | qhc3 | qhc3 <;> first | exact Or.inr (Or.inr (Or.inr (Or.inl ⟨by first | rfl | assumption, by omega, show (∃ q : Nat, x15.toInt = -20 - (q : Int) ∧ (PF (NX (J 153) (J 13 55)) 0 5 0 q ∨ ((∃ c, PT (NX (J 153) (J 13 55)) 0 5 0 q c) ∧ ¬ (q : Int) = (J 13 55).toInt))) from (by first | rfl | exact kp0 | (rcases hGT with ⟨y1, c9, y2, y3⟩ | ⟨y1, y2⟩; (first | exact ⟨_, by omega, Or.inr ⟨⟨c9, y2⟩, by omega⟩⟩ | (exfalso; omega)); (first | exact ⟨_, by omega, Or.inl y2⟩ | (exfalso; omega)))), show ((0 : Int32)).toInt = 0 from (by first | rfl | exact kp0 | (rcases hGT with ⟨y1, c9, y2, y3⟩ | ⟨y1, y2⟩; (first | exact ⟨_, by omega, Or.inr ⟨⟨c9, y2⟩, by omega⟩⟩ | (exfalso; omega)); (first | exact ⟨_, by omega, Or.inl y2⟩ | (exfalso; omega)))), show J 13 40 = J 13 40 from (by first | rfl | exact kp0 | (rcases hGT with ⟨y1, c9, y2, y3⟩ | ⟨y1, y2⟩; (first | exact ⟨_, by omega, Or.inr ⟨⟨c9, y2⟩, by omega⟩⟩ | (exfalso; omega)); (first | exact ⟨_, by omega, Or.inl y2⟩ | (exfalso; omega)))), show J 121 = J 121 from (by first | rfl | exact kp0 | (rcases hGT with ⟨y1, c9, y2, y3⟩ | ⟨y1, y2⟩; (first | exact ⟨_, by omega, Or.inr ⟨⟨c9, y2⟩, by omega⟩⟩ | (exfalso; omega)); (first | exact ⟨_, by omega, Or.inl y2⟩ | (exfalso; omega)))), show J 122 = J 122 from (by first | rfl | exact kp0 | (rcases hGT with ⟨y1, c9, y2, y3⟩ | ⟨y1, y2⟩; (first | exact ⟨_, by omega, Or.inr ⟨⟨c9, y2⟩, by omega⟩⟩ | (exfalso; omega)); (first | exact ⟨_, by omega, Or.inl y2⟩ | (exfalso; omega)))), show J 123 = J 123 from (by first | rfl | exact kp0 | (rcases hGT with ⟨y1, c9, y2, y3⟩ | ⟨y1, y2⟩; (first | exact ⟨_, by omega, Or.inr ⟨⟨c9, y2⟩, by omega⟩⟩ | (exfalso; omega)); (first | exact ⟨_, by omega, Or.inl y2⟩ | (exfalso; omega)))), show J 124 = J 124 from (by first | rfl | exact kp0 | (rcases hGT with ⟨y1, c9, y2, y3⟩ | ⟨y1, y2⟩; (first | exact ⟨_, by omega, Or.inr ⟨⟨c9, y2⟩, by omega⟩⟩ | (exfalso; omega)); (first | exact ⟨_, by omega, Or.inl y2⟩ | (exfalso; omega))))⟩))) | (exfalso; omega))⟩ dX12_term__112
            · have c13 : (u9 13 56).toInt = (J 13 55).toInt := teq rfl rfl c13
              refine lv_iconst (v := 1) hx hb dX12_term__82 (by decide) ?_
              refine lv_goto (tgt := 87) hx hb dX12_term__83 (by decide) ?_
              refine lv_istore (lv' := [(5, .int 1), (4, .int r9), (3, .int r3), (0, .ref (g.2.2.1 13)), (1, .int a0), (2, .int a1)]) hx hb dX12_term__87 hl (by decide) rfl (fun ls hl => ?_)
              refine lv_aload_n hx hb dX12_term__89 rfl (lv_at hl 3 rfl) ?_
              refine rg_13_55 C hW (mm_ rfl) tw_1078 dX12_term__90 ?_
              refine lv_as (J 13 55) rfl ?_
              refine lv_istore (lv' := [(6, .int (J 13 55)), (5, .int 1), (4, .int r9), (3, .int r3), (0, .ref (g.2.2.1 13)), (1, .int a0), (2, .int a1)]) hx hb dX12_term__93 hl (by decide) rfl (fun ls hl => ?_)
              refine lv_aload_n hx hb dX12_term__95 rfl (lv_at hl 4 rfl) ?_
              refine lv_iconst (v := 0) hx hb dX12_term__96 (by decide) ?_
              refine rp_13_55 C hW (mm_ rfl) tw_1078 dX12_term__97 (fun H locs hW => ?_)
              refine lv_iload hx hb dX12_term__100 (lv_at hl 1 rfl) ?_
              refine lv_if_ne (tgt := 113) hx hb dX12_term__102 (by decide) (fun c16 => ?_) (fun c16 => ?_)
              · skip
                refine lv_iconst (v := 0) hx hb dX12_term__113 (by decide) ?_
                refine lv_istore (lv' := [(7, .int 0), (6, .int (J 13 55)), (5, .int 1), (4, .int r9), (3, .int r3), (0, .ref (g.2.2.1 13)), (1, .int a0), (2, .int a1)]) hx hb dX12_term__114 hl (by decide) rfl (fun ls hl => ?_)
                have loop116 : ∀ (n : Nat) (m7 : Int32) (Gl17 : Nat → Nat → Int32) (H : Heap) (locs : List Loc) (ls : Array Slot), (60 - m7.toInt).toNat < n → 0 ≤ m7.toInt ∧ m7.toInt ≤ (J 13 55).toInt → TXC (J 124) (Gl17 124) (J 153) (60 * (J 13 40).toInt) m7.toInt → WB g A s.heap H locs ((hv (up2 (hv J [] [(13, 56), (13, 57), (13, 58), (13, 59), (13, 60)] u9) 13 55 0) [124] [] Gl17), L, I, P, E, N) (sgM g) → lv_has ls 8 [(7, .int m7), (6, .int (J 13 55)), (5, .int 1), (4, .int r9), (3, .int r3), (0, .ref (g.2.2.1 13)), (1, .int a0), (2, .int a1)] → W p l e (RM (32) 0 0) s m ([.ref (g.2.2.1 13), .int a0, .int a1] : List Value).toArray below meth c H locs 0 0 (MQ below Q9 ([.ref (g.2.2.1 13), .int a0, .int a1] : List Value).toArray s 0 0 A) (F0 m 116 ls []) := by
                  intro n
                  induction n with
                  | zero => intro m7 Gl17 H locs ls hmeas; exact absurd hmeas (Nat.not_lt_zero _)
                  | succ n ih =>
                    intro m7 Gl17 H locs ls hmeas hi htx hW hl
                    refine lv_iload hx hb dX12_term__116 (lv_at hl 0 rfl) ?_
                    refine lv_iload hx hb dX12_term__118 (lv_at hl 1 rfl) ?_
                    refine lv_icmp_ge (tgt := 151) hx hb dX12_term__120 (by decide) (fun c18 => ?_) (fun c18 => ?_)
                    · have c18 : (J 13 55).toInt ≤ m7.toInt := tle rfl rfl c18
                      refine lv_aload_n hx hb dX12_term__151 rfl (lv_at hl 5 rfl) ?_
                      refine rg_13_21 C hW (mm_ rfl) tw_1044 dX12_term__152 ?_
                      refine lv_aload_n hx hb dX12_term__155 rfl (lv_at hl 5 rfl) ?_
                      refine rg_13_40 C hW (mm_ rfl) tw_1063 dX12_term__156 ?_
                      refine lv_as (J 13 40) rfl ?_
                      refine lv_iload hx hb dX12_term__159 (lv_at hl 1 rfl) ?_
                      have hin : vp_in (J 13 40) 30 := tin rfl (by omega)
                      refine rs_121 C hW (mm_ rfl) hin dX12_term__161 (fun H locs hW => ?_)
                      refine lv_aload_n hx hb dX12_term__162 rfl (lv_at hl 5 rfl) ?_
                      refine rg_13_22 C hW (mm_ rfl) tw_1045 dX12_term__163 ?_
                      refine lv_aload_n hx hb dX12_term__166 rfl (lv_at hl 5 rfl) ?_
                      refine rg_13_40 C hW (mm_ rfl) tw_1063 dX12_term__167 ?_
                      refine lv_as (J 13 40) rfl ?_
                      refine lv_iload_n hx hb dX12_term__170 rfl (lv_at hl 6 rfl) ?_
                      have hin : vp_in (J 13 40) 30 := tin rfl (by omega)
                      refine rs_122 C hW (mm_ rfl) hin dX12_term__171 (fun H locs hW => ?_)
                      refine lv_aload_n hx hb dX12_term__172 rfl (lv_at hl 5 rfl) ?_
                      refine rg_13_23 C hW (mm_ rfl) tw_1046 dX12_term__173 ?_
                      refine lv_aload_n hx hb dX12_term__176 rfl (lv_at hl 5 rfl) ?_
                      refine rg_13_40 C hW (mm_ rfl) tw_1063 dX12_term__177 ?_
                      refine lv_as (J 13 40) rfl ?_
                      refine lv_iload_n hx hb dX12_term__180 rfl (lv_at hl 7 rfl) ?_
                      have hin : vp_in (J 13 40) 30 := tin rfl (by omega)
                      refine rs_123 C hW (mm_ rfl) hin dX12_term__181 (fun H locs hW => ?_)
                      refine lv_aload_n hx hb dX12_term__182 rfl (lv_at hl 5 rfl) ?_
                      refine lv_dup hx hb dX12_term__183 rfl ?_
                      refine rg_13_40 C hW (mm_ rfl) tw_1063 dX12_term__184 ?_
                      refine lv_as (J 13 40) rfl ?_
                      refine lv_iconst (v := 1) hx hb dX12_term__187 (by decide) ?_
                      refine lv_iadd hx hb dX12_term__188 ?_
                      refine lv_topi (fun x19 (e19 : x19 = (J 13 40) + 1) => ?_)
                      try have t19 : x19.toInt = (J 13 40).toInt + 1 := tadd e19 rfl kp1 (by omega)
                      refine rp_13_40 C hW (mm_ rfl) tw_1063 dX12_term__189 (fun H locs hW => ?_)
                      refine lv_aload_n hx hb dX12_term__192 rfl (lv_at hl 5 rfl) ?_
                      refine rg_13_40 C hW (mm_ rfl) tw_1063 dX12_term__193 ?_
                      refine lv_as x19 rfl ?_
                      have hWr : WB g A s.heap H locs (hv J [100, 121, 122, 123, 124] [(13, 40), (13, 55), (13, 56), (13, 57), (13, 58), (13, 59), (13, 60)] (up2 (up2 (up2 (up2 (hv (up2 (hv J [] [(13, 56), (13, 57), (13, 58), (13, 59), (13, 60)] u9) 13 55 0) [124] [] Gl17) 121 ((J 13 40).toNatClampNeg) (J 13 55)) 122 ((J 13 40).toNatClampNeg) a0) 123 ((J 13 40).toNatClampNeg) a1) 13 40 x19), L, I, P, E, N) (sgM g) := by
                        rw [← ag_hvE (J := J) (R := [100, 121, 122, 123, 124]) (F := [(13, 40), (13, 55), (13, 56), (13, 57), (13, 58), (13, 59), (13, 60)]) (ag_up (Or.inr rfl) (ag_up (Or.inl rfl) (ag_up (Or.inl rfl) (ag_up (Or.inl rfl) (ag_hv rfl rfl (ag_up (Or.inr rfl) (ag_hv rfl rfl ag_rf)))))))]
                        exact hW
                      have hwmr : WM (up2 (up2 (up2 (up2 (hv (up2 (hv J [] [(13, 56), (13, 57), (13, 58), (13, 59), (13, 60)] u9) 13 55 0) [124] [] Gl17) 121 ((J 13 40).toNatClampNeg) (J 13 55)) 122 ((J 13 40).toNatClampNeg) a0) 123 ((J 13 40).toNatClampNeg) a1) 13 40 x19) := by have hq0 := wm_tape0 hwm; exact wm_term (y := J 13 40) hq0 rfl (by omega) ⟨by omega, by omega, by omega, tcl _⟩
                      have hwmr : WM (hv J [100, 121, 122, 123, 124] [(13, 40), (13, 55), (13, 56), (13, 57), (13, 58), (13, 59), (13, 60)] (up2 (up2 (up2 (up2 (hv (up2 (hv J [] [(13, 56), (13, 57), (13, 58), (13, 59), (13, 60)] u9) 13 55 0) [124] [] Gl17) 121 ((J 13 40).toNatClampNeg) (J 13 55)) 122 ((J 13 40).toNatClampNeg) a0) 123 ((J 13 40).toNatClampNeg) a1) 13 40 x19)) := by
                        rw [← ag_hvE (J := J) (R := [100, 121, 122, 123, 124]) (F := [(13, 40), (13, 55), (13, 56), (13, 57), (13, 58), (13, 59), (13, 60)]) (ag_up (Or.inr rfl) (ag_up (Or.inl rfl) (ag_up (Or.inl rfl) (ag_up (Or.inl rfl) (ag_hv rfl rfl (ag_up (Or.inr rfl) (ag_hv rfl rfl ag_rf)))))))]; exact hwmr
                      subst hQ9
                      exact end_i C hr hlocks (up2 (up2 (up2 (up2 (hv (up2 (hv J [] [(13, 56), (13, 57), (13, 58), (13, 59), (13, 60)] u9) 13 55 0) [124] [] Gl17) 121 ((J 13 40).toNatClampNeg) (J 13 55)) 122 ((J 13 40).toNatClampNeg) a0) 123 ((J 13 40).toNatClampNeg) a1) 13 40 x19) hWr ⟨hwmr, by first | exact Or.inr (Or.inr (Or.inr (Or.inr (⟨by omega, by omega, show (x19).toInt = (J 13 40).toInt + 1 from (by first | omega | rfl | exact kp0 | (rcases hGT with ⟨y1, c9, y2, y3⟩ | ⟨y1, y2⟩; (first | exact ⟨_, c9, y2, by omega⟩ | (exfalso; omega)); exfalso; omega) | (have e9 : m7.toInt = (J 13 55).toInt := (by omega); rw [← e9]; exact htx) | assumption), show ((0 : Int32)).toInt = 0 from (by first | omega | rfl | exact kp0 | (rcases hGT with ⟨y1, c9, y2, y3⟩ | ⟨y1, y2⟩; (first | exact ⟨_, c9, y2, by omega⟩ | (exfalso; omega)); exfalso; omega) | (have e9 : m7.toInt = (J 13 55).toInt := (by omega); rw [← e9]; exact htx) | assumption), show (∃ (q : Nat) (c : List Int), PT (NX (J 153) (J 13 55)) 0 5 0 q c ∧ (q : Int) = (J 13 55).toInt) from (by first | omega | rfl | exact kp0 | (rcases hGT with ⟨y1, c9, y2, y3⟩ | ⟨y1, y2⟩; (first | exact ⟨_, c9, y2, by omega⟩ | (exfalso; omega)); exfalso; omega) | (have e9 : m7.toInt = (J 13 55).toInt := (by omega); rw [← e9]; exact htx) | assumption), show (up2 J 121 ((J 13 40).toNatClampNeg) (J 13 55)) 121 = up2 J 121 (J 13 40).toNatClampNeg (J 13 55) 121 from (by first | omega | rfl | exact kp0 | (rcases hGT with ⟨y1, c9, y2, y3⟩ | ⟨y1, y2⟩; (first | exact ⟨_, c9, y2, by omega⟩ | (exfalso; omega)); exfalso; omega) | (have e9 : m7.toInt = (J 13 55).toInt := (by omega); rw [← e9]; exact htx) | assumption), show (up2 J 122 ((J 13 40).toNatClampNeg) a0) 122 = up2 J 122 (J 13 40).toNatClampNeg a0 122 from (by first | omega | rfl | exact kp0 | (rcases hGT with ⟨y1, c9, y2, y3⟩ | ⟨y1, y2⟩; (first | exact ⟨_, c9, y2, by omega⟩ | (exfalso; omega)); exfalso; omega) | (have e9 : m7.toInt = (J 13 55).toInt := (by omega); rw [← e9]; exact htx) | assumption), show (up2 J 123 ((J 13 40).toNatClampNeg) a1) 123 = up2 J 123 (J 13 40).toNatClampNeg a1 123 from (by first | omega | rfl | exact kp0 | (rcases hGT with ⟨y1, c9, y2, y3⟩ | ⟨y1, y2⟩; (first | exact ⟨_, c9, y2, by omega⟩ | (exfalso; omega)); exfalso; omega) | (have e9 : m7.toInt = (J 13 55).toInt := (by omega); rw [← e9]; exact htx) | assumption), show TXC (J 124) (Gl17 124) (J 153) (60 * (J 13 40).toInt) (J 13 55).toInt from (by first | omega | rfl | exact kp0 | (rcases hGT with ⟨y1, c9, y2, y3⟩ | ⟨y1, y2⟩; (first | exact ⟨_, c9, y2, by omega⟩ | (exfalso; omega)); exfalso; omega) | (have e9 : m7.toInt = (J 13 55).toInt := (by omega); rw [← e9]; exact htx) | assumption)⟩)))) | (rcases hc1 with qhc1 | qhc1 <;> rcases hc3 with qhc3 | qhc3 | qhc3 <;> first | exact Or.inr (Or.inr (Or.inr (Or.inr (⟨by omega, by omega, show (x19).toInt = (J 13 40).toInt + 1 from (by first | omega | rfl | exact kp0 | (rcases hGT with ⟨y1, c9, y2, y3⟩ | ⟨y1, y2⟩; (first | exact ⟨_, c9, y2, by omega⟩ | (exfalso; omega)); exfalso; omega) | (have e9 : m7.toInt = (J 13 55).toInt := (by omega); rw [← e9]; exact htx) | assumption), show ((0 : Int32)).toInt = 0 from (by first | omega | rfl | exact kp0 | (rcases hGT with ⟨y1, c9, y2, y3⟩ | ⟨y1, y2⟩; (first | exact ⟨_, c9, y2, by omega⟩ | (exfalso; omega)); exfalso; omega) | (have e9 : m7.toInt = (J 13 55).toInt := (by omega); rw [← e9]; exact htx) | assumption), show (∃ (q : Nat) (c : List Int), PT (NX (J 153) (J 13 55)) 0 5 0 q c ∧ (q : Int) = (J 13 55).toInt) from (by first | omega | rfl | exact kp0 | (rcases hGT with ⟨y1, c9, y2, y3⟩ | ⟨y1, y2⟩; (first | exact ⟨_, c9, y2, by omega⟩ | (exfalso; omega)); exfalso; omega) | (have e9 : m7.toInt = (J 13 55).toInt := (by omega); rw [← e9]; exact htx) | assumption), show (up2 J 121 ((J 13 40).toNatClampNeg) (J 13 55)) 121 = up2 J 121 (J 13 40).toNatClampNeg (J 13 55) 121 from (by first | omega | rfl | exact kp0 | (rcases hGT with ⟨y1, c9, y2, y3⟩ | ⟨y1, y2⟩; (first | exact ⟨_, c9, y2, by omega⟩ | (exfalso; omega)); exfalso; omega) | (have e9 : m7.toInt = (J 13 55).toInt := (by omega); rw [← e9]; exact htx) | assumption), show (up2 J 122 ((J 13 40).toNatClampNeg) a0) 122 = up2 J 122 (J 13 40).toNatClampNeg a0 122 from (by first | omega | rfl | exact kp0 | (rcases hGT with ⟨y1, c9, y2, y3⟩ | ⟨y1, y2⟩; (first | exact ⟨_, c9, y2, by omega⟩ | (exfalso; omega)); exfalso; omega) | (have e9 : m7.toInt = (J 13 55).toInt := (by omega); rw [← e9]; exact htx) | assumption), show (up2 J 123 ((J 13 40).toNatClampNeg) a1) 123 = up2 J 123 (J 13 40).toNatClampNeg a1 123 from (by first | omega | rfl | exact kp0 | (rcases hGT with ⟨y1, c9, y2, y3⟩ | ⟨y1, y2⟩; (first | exact ⟨_, c9, y2, by omega⟩ | (exfalso; omega)); exfalso; omega) | (have e9 : m7.toInt = (J 13 55).toInt := (by omega); rw [← e9]; exact htx) | assumption), show TXC (J 124) (Gl17 124) (J 153) (60 * (J 13 40).toInt) (J 13 55).toInt from (by first | omega | rfl | exact kp0 | (rcases hGT with ⟨y1, c9, y2, y3⟩ | ⟨y1, y2⟩; (first | exact ⟨_, c9, y2, by omega⟩ | (exfalso; omega)); exfalso; omega) | (have e9 : m7.toInt = (J 13 55).toInt := (by omega); rw [← e9]; exact htx) | assumption)⟩)))) | (exfalso; omega))⟩ dX12_term__196
                    · have c18 : m7.toInt < (J 13 55).toInt := tnle rfl rfl c18
                      refine lv_aload_n hx hb dX12_term__123 rfl (lv_at hl 5 rfl) ?_
                      refine rg_13_24 C hW (mm_ rfl) tw_1047 dX12_term__124 ?_
                      refine lv_bipush (v := 60) hx hb dX12_term__127 (by decide) ?_
                      refine lv_aload_n hx hb dX12_term__129 rfl (lv_at hl 5 rfl) ?_
                      refine rg_13_40 C hW (mm_ rfl) tw_1063 dX12_term__130 ?_
                      refine lv_as (J 13 40) rfl ?_
                      refine lv_imul hx hb dX12_term__133 ?_
                      refine lv_topi (fun x20 (e20 : x20 = 60 * (J 13 40)) => ?_)
                      try have t20 : x20.toInt = 60 * (J 13 40).toInt := tmul e20 kp60 rfl (by omega)
                      refine lv_iload hx hb dX12_term__134 (lv_at hl 0 rfl) ?_
                      refine lv_iadd hx hb dX12_term__136 ?_
                      refine lv_topi (fun x21 (e21 : x21 = x20 + m7) => ?_)
                      try have t21 : x21.toInt = x20.toInt + m7.toInt := tadd e21 rfl rfl (by omega)
                      refine lv_aload_n hx hb dX12_term__137 rfl (lv_at hl 5 rfl) ?_
                      refine rg_13_53 C hW (mm_ rfl) tw_1076 dX12_term__138 ?_
                      refine lv_iload hx hb dX12_term__141 (lv_at hl 0 rfl) ?_
                      have hin : vp_in m7 60 := tin rfl (by omega)
                      refine ra_153 C hW (mm_ rfl) hin dX12_term__143 ?_
                      refine lv_topi (fun x22 (e22 : x22 = J 153 m7.toNatClampNeg) => ?_)
                      have hin : vp_in x21 1800 := tin rfl (by omega)
                      refine rs_124 C hW (mm_ rfl) hin dX12_term__144 (fun H locs hW => ?_)
                      obtain ⟨x23, e23⟩ : ∃ y : Int32, y = m7 + 1 := ⟨_, rfl⟩
                      refine lv_iinc (v := x23) (lv' := [(7, .int x23), (6, .int (J 13 55)), (5, .int 1), (4, .int r9), (3, .int r3), (0, .ref (g.2.2.1 13)), (1, .int a0), (2, .int a1)]) hx hb dX12_term__145 hl (k := 0) rfl (by rw [e23]; rfl) (by decide) rfl (fun ls hl => ?_)
                      try have t23 : x23.toInt = m7.toInt + 1 := tadd e23 rfl kp1 (by omega)
                      refine lv_goto (tgt := 116) hx hb dX12_term__148 (by decide) ?_
                      have hWl : WB g A s.heap H locs ((hv (up2 (hv J [] [(13, 56), (13, 57), (13, 58), (13, 59), (13, 60)] u9) 13 55 0) [124] [] (up2 (hv (up2 (hv J [] [(13, 56), (13, 57), (13, 58), (13, 59), (13, 60)] u9) 13 55 0) [124] [] Gl17) 124 x21.toNatClampNeg x22)), L, I, P, E, N) (sgM g) := by
                        rw [← ag_hvE (J := (up2 (hv J [] [(13, 56), (13, 57), (13, 58), (13, 59), (13, 60)] u9) 13 55 0)) (R := [124]) (F := []) (ag_up (Or.inl rfl) (ag_hv rfl rfl ag_rf))]
                        exact hW
                      refine ih x23 (up2 (hv (up2 (hv J [] [(13, 56), (13, 57), (13, 58), (13, 59), (13, 60)] u9) 13 55 0) [124] [] Gl17) 124 x21.toNatClampNeg x22) H locs ls ?_ ?_ ?_ hWl (lv_sub hl [0, 1, 2, 3, 4, 5, 6, 7] rfl)
                      · show (60 - x23.toInt).toNat < n
                        omega
                      · show 0 ≤ x23.toInt ∧ x23.toInt ≤ (J 13 55).toInt
                        first | omega | exact hi | assumption
                      · show TXC (J 124) ((up2 Gl17 124 x21.toNatClampNeg x22) 124) (J 153) (60 * (J 13 40).toInt) x23.toInt
                        exact txc_s htx rfl (by first | omega | (rw [tcl]; omega)) e22 (by rw [tcl]; omega) (by omega) (by omega)
                -- into the loop
                have hWl : WB g A s.heap H locs ((hv (up2 (hv J [] [(13, 56), (13, 57), (13, 58), (13, 59), (13, 60)] u9) 13 55 0) [124] [] (up2 (hv J [] [(13, 56), (13, 57), (13, 58), (13, 59), (13, 60)] u9) 13 55 0)), L, I, P, E, N) (sgM g) := by
                  rw [← ag_hvE (J := (up2 (hv J [] [(13, 56), (13, 57), (13, 58), (13, 59), (13, 60)] u9) 13 55 0)) (R := [124]) (F := []) ag_rf]
                  exact hW
                refine loop116 ((60 - (0 : Int32).toInt).toNat + 1) 0 (up2 (hv J [] [(13, 56), (13, 57), (13, 58), (13, 59), (13, 60)] u9) 13 55 0) H locs ls ?_ ?_ ?_ hWl (lv_sub hl [0, 1, 2, 3, 4, 5, 6, 7] rfl)
                · exact Nat.lt_succ_self _
                · show 0 ≤ (0 : Int32).toInt ∧ (0 : Int32).toInt ≤ (J 13 55).toInt
                  try rw [kp0]
                  first | omega | exact hi | assumption
                · show TXC (J 124) (J 124) (J 153) (60 * (J 13 40).toInt) (0 : Int32).toInt
                  try rw [kp0]
                  exact txc_0 (by first | exact Int.le_refl _ | (rw [kp0]; exact Int.le_refl _))
              · exact absurd c16 (by decide)
        · have c8 : ¬ r3.toInt = 0 := tne rfl kp0 c8
          exfalso; omega
      · have c7 : (J 13 40).toInt = 30 := teq rfl kp30 c7
        refine lv_bipush (v := (-6)) hx hb dX12_term__40 (by decide) ?_
        refine lv_istore_n (lv' := [(3, .int (-6)), (0, .ref (g.2.2.1 13)), (1, .int a0), (2, .int a1)]) hx hb dX12_term__42 rfl hl (by decide) rfl (fun ls hl => ?_)
        refine lv_iload_n hx hb dX12_term__43 rfl (lv_at hl 0 rfl) ?_
        refine lv_if_eq (tgt := 53) hx hb dX12_term__44 (by decide) (fun c24 => ?_) (fun c24 => ?_)
        · exact absurd c24 (by decide)
        · skip
          refine lv_aload_n hx hb dX12_term__47 rfl (lv_at hl 1 rfl) ?_
          refine lv_iload_n hx hb dX12_term__48 rfl (lv_at hl 0 rfl) ?_
          refine ci_ C hW (runV (x := (g.2.2.1 13)) (As := [.int (-6)]) (rest := []) (T := ((J, L, I, P, E, N), sgM g)) C hW (c_X12_refuse l g J L I P E N H.size (-6) (show -6 ≤ (-6 : Int32).toInt ∧ (-6 : Int32).toInt ≤ -1 from by (try simp only [kn6]); omega)) mi_X12_refuse tw_1239 (recv_ (T := ((J, L, I, P, E, N), sgM g)) C hW (mm_ rfl) rfl rfl) ⟨rfl, rfl, Nat.le_of_ble_eq_true rfl, Nat.le_of_ble_eq_true rfl⟩ rfl hl.1 rfl (Nat.le_of_ble_eq_true rfl) dX12_term__49 ⟨Nat.le_of_ble_eq_true rfl, Nat.le_of_ble_eq_true rfl⟩) (fun r25 u25 H locs hp25 hW => ?_)
          have hc25 : ((r25 = (-6))) := hp25
          clear hp25
          have hr25 : r25.toInt = (-6) := by rw [hc25]; exact kn6
          have hW : WB g A s.heap H locs ((hv J [100] [] u25), L, I, P, E, N) (sgM g) := hW
          have hWr : WB g A s.heap H locs (hv J [100, 121, 122, 123, 124] [(13, 40), (13, 55), (13, 56), (13, 57), (13, 58), (13, 59), (13, 60)] (hv J [100] [] u25), L, I, P, E, N) (sgM g) := by
            rw [← ag_hvE (J := J) (R := [100, 121, 122, 123, 124]) (F := [(13, 40), (13, 55), (13, 56), (13, 57), (13, 58), (13, 59), (13, 60)]) (ag_hv rfl rfl ag_rf)]
            exact hW
          have hwmr : WM (hv J [100] [] u25) := by exact hwm
          have hwmr : WM (hv J [100, 121, 122, 123, 124] [(13, 40), (13, 55), (13, 56), (13, 57), (13, 58), (13, 59), (13, 60)] (hv J [100] [] u25)) := by
            rw [← ag_hvE (J := J) (R := [100, 121, 122, 123, 124]) (F := [(13, 40), (13, 55), (13, 56), (13, 57), (13, 58), (13, 59), (13, 60)]) (ag_hv rfl rfl ag_rf)]; exact hwmr
          subst hQ9
          exact end_i C hr hlocks (hv J [100] [] u25) hWr ⟨hwmr, by first | exact Or.inr (Or.inl ⟨by omega, by omega, show J 13 40 = J 13 40 from by first | rfl | assumption, show J 121 = J 121 from by first | rfl | assumption, show J 122 = J 122 from by first | rfl | assumption, show J 123 = J 123 from by first | rfl | assumption, show J 124 = J 124 from by first | rfl | assumption, show J 13 55 = J 13 55 from by first | rfl | assumption⟩) | exact Or.inr (Or.inr (Or.inl ⟨by omega, by omega, show J 13 40 = J 13 40 from by first | rfl | assumption, show J 121 = J 121 from by first | rfl | assumption, show J 122 = J 122 from by first | rfl | assumption, show J 123 = J 123 from by first | rfl | assumption, show J 124 = J 124 from by first | rfl | assumption, show J 13 55 = J 13 55 from by first | rfl | assumption⟩)) | (rcases hc1 with qhc1 | qhc1 <;> rcases hc3 with qhc3 | qhc3 | qhc3 <;> first | exact Or.inr (Or.inl ⟨by omega, by omega, show J 13 40 = J 13 40 from by first | rfl | assumption, show J 121 = J 121 from by first | rfl | assumption, show J 122 = J 122 from by first | rfl | assumption, show J 123 = J 123 from by first | rfl | assumption, show J 124 = J 124 from by first | rfl | assumption, show J 13 55 = J 13 55 from by first | rfl | assumption⟩) | exact Or.inr (Or.inr (Or.inl ⟨by omega, by omega, show J 13 40 = J 13 40 from by first | rfl | assumption, show J 121 = J 121 from by first | rfl | assumption, show J 122 = J 122 from by first | rfl | assumption, show J 123 = J 123 from by first | rfl | assumption, show J 124 = J 124 from by first | rfl | assumption, show J 13 55 = J 13 55 from by first | rfl | assumption⟩)) | (exfalso; omega))⟩ dX12_term__52
  · have c2 : r1.toInt = 0 := teq rfl kp0 c2
    refine lv_aload_n hx hb dX12_term__8 rfl (lv_at hl 0 rfl) ?_
    refine lv_bipush (v := (-2)) hx hb dX12_term__9 (by decide) ?_
    refine ci_ C hW (runV (x := (g.2.2.1 13)) (As := [.int (-2)]) (rest := []) (T := ((J, L, I, P, E, N), sgM g)) C hW (c_X12_refuse l g J L I P E N H.size (-2) (show -6 ≤ (-2 : Int32).toInt ∧ (-2 : Int32).toInt ≤ -1 from by (try simp only [kn2]); omega)) mi_X12_refuse tw_1239 (recv_ (T := ((J, L, I, P, E, N), sgM g)) C hW (mm_ rfl) rfl rfl) ⟨rfl, rfl, Nat.le_of_ble_eq_true rfl, Nat.le_of_ble_eq_true rfl⟩ rfl hl.1 rfl (Nat.le_of_ble_eq_true rfl) dX12_term__11 ⟨Nat.le_of_ble_eq_true rfl, Nat.le_of_ble_eq_true rfl⟩) (fun r26 u26 H locs hp26 hW => ?_)
    have hc26 : ((r26 = (-2))) := hp26
    clear hp26
    have hr26 : r26.toInt = (-2) := by rw [hc26]; exact kn2
    have hW : WB g A s.heap H locs ((hv J [100] [] u26), L, I, P, E, N) (sgM g) := hW
    have hWr : WB g A s.heap H locs (hv J [100, 121, 122, 123, 124] [(13, 40), (13, 55), (13, 56), (13, 57), (13, 58), (13, 59), (13, 60)] (hv J [100] [] u26), L, I, P, E, N) (sgM g) := by
      rw [← ag_hvE (J := J) (R := [100, 121, 122, 123, 124]) (F := [(13, 40), (13, 55), (13, 56), (13, 57), (13, 58), (13, 59), (13, 60)]) (ag_hv rfl rfl ag_rf)]
      exact hW
    have hwmr : WM (hv J [100] [] u26) := by exact hwm
    have hwmr : WM (hv J [100, 121, 122, 123, 124] [(13, 40), (13, 55), (13, 56), (13, 57), (13, 58), (13, 59), (13, 60)] (hv J [100] [] u26)) := by
      rw [← ag_hvE (J := J) (R := [100, 121, 122, 123, 124]) (F := [(13, 40), (13, 55), (13, 56), (13, 57), (13, 58), (13, 59), (13, 60)]) (ag_hv rfl rfl ag_rf)]; exact hwmr
    subst hQ9
    exact end_i C hr hlocks (hv J [100] [] u26) hWr ⟨hwmr, by first | exact Or.inl ⟨by omega, by omega, show J 13 40 = J 13 40 from by first | rfl | assumption, show J 121 = J 121 from by first | rfl | assumption, show J 122 = J 122 from by first | rfl | assumption, show J 123 = J 123 from by first | rfl | assumption, show J 124 = J 124 from by first | rfl | assumption, show J 13 55 = J 13 55 from by first | rfl | assumption⟩ | (rcases hc1 with qhc1 | qhc1 <;> first | exact Or.inl ⟨by omega, by omega, show J 13 40 = J 13 40 from by first | rfl | assumption, show J 121 = J 121 from by first | rfl | assumption, show J 122 = J 122 from by first | rfl | assumption, show J 123 = J 123 from by first | rfl | assumption, show J 124 = J 124 from by first | rfl | assumption, show J 13 55 = J 13 55 from by first | rfl | assumption⟩ | (exfalso; omega))⟩ dX12_term__14
