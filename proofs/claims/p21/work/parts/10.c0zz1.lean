/-- the letters in their order -/
def LI : Nat → Nat
  | 0 => 107
  | 1 => 104
  | 2 => 118
  | 3 => 115
  | 4 => 109
  | 5 => 119
  | _ => 110
theorem li_of {r i : Int32} (h : (i.toInt = 0 → r.toInt = 107) ∧ (i.toInt = 1 → r.toInt = 104) ∧ (i.toInt = 2 → r.toInt = 118) ∧ (i.toInt = 3 → r.toInt = 115) ∧ (i.toInt = 4 → r.toInt = 109) ∧ (i.toInt = 5 → r.toInt = 119) ∧ (6 ≤ i.toInt → r.toInt = 110)) (h0 : 0 ≤ i.toInt) : r.toNatClampNeg = LI i.toNatClampNeg := by
  obtain ⟨a0, a1, a2, a3, a4, a5, a6⟩ := h
  have h8 := tcl r
  have h9 := tcl i
  rcases (show i.toInt = 0 ∨ i.toInt = 1 ∨ i.toInt = 2 ∨ i.toInt = 3 ∨ i.toInt = 4 ∨ i.toInt = 5 ∨ 6 ≤ i.toInt by omega) with q | q | q | q | q | q | q
  · rw [show i.toNatClampNeg = 0 by omega]; show _ = 107; have := a0 q; omega
  · rw [show i.toNatClampNeg = 1 by omega]; show _ = 104; have := a1 q; omega
  · rw [show i.toNatClampNeg = 2 by omega]; show _ = 118; have := a2 q; omega
  · rw [show i.toNatClampNeg = 3 by omega]; show _ = 115; have := a3 q; omega
  · rw [show i.toNatClampNeg = 4 by omega]; show _ = 109; have := a4 q; omega
  · rw [show i.toNatClampNeg = 5 by omega]; show _ = 119; have := a5 q; omega
  · obtain ⟨k, hk⟩ : ∃ k, i.toNatClampNeg = k + 6 := ⟨i.toNatClampNeg - 6, by omega⟩
    rw [hk]; show _ = 110; have := a6 q; omega
theorem li_all {c : Int} (h : isl c) (h1 : ¬ c = 97) : ∃ i : Nat, i < 7 ∧ c = (LI i : Nat) := by
  rcases h with e | e | e | e | e | e | e | e <;> subst e
  · exact ⟨0, by decide, rfl⟩
  · exact ⟨1, by decide, rfl⟩
  · exact ⟨2, by decide, rfl⟩
  · exact ⟨3, by decide, rfl⟩
  · exact ⟨4, by decide, rfl⟩
  · exact ⟨5, by decide, rfl⟩
  · exact absurd rfl h1
  · exact ⟨6, by decide, rfl⟩
theorem pnum_nn {nx : Nat → Int} : ∀ (n p : Nat) (v : Int), 0 ≤ v → 0 ≤ (pnum nx n p v).2
  | 0, _, _, h => h
  | n + 1, p, v, h => by
    unfold pnum
    by_cases hd : isd (nx p)
    · rw [if_pos hd]; exact pnum_nn n (p + 1) _ (by omega)
    · rw [if_neg hd]; exact h
/-- the code asks for the age only if the text does -/
theorem pz_a {nx : Nat → Int} (hnx : ∀ p, ¬ nx p = 97) : ∀ (f m d p : Nat) (c : List Int) (q : Nat), pz nx f m d p = (some c, q) → ∀ e ∈ c, ¬ e = -97
  | 0, m, d, p, c, q, h => by cases h
  | f + 1, m, d, p, c, q, h => by
    rw [pz] at h
    by_cases h4 : m = 4
    · rw [if_pos h4] at h
      by_cases h40 : nx p = 40
      · rw [if_pos h40] at h
        by_cases hd : d = 0
        · rw [if_pos hd] at h; cases h
        · rw [if_neg hd] at h
          obtain ⟨a, q1, e1, h⟩ := pb_some h
          have ha := pz_a hnx f _ _ _ _ _ e1
          try dsimp only at h
          by_cases hc : cmc (nx q1)
          · rw [if_pos hc] at h
            obtain ⟨b, q2, e2, h⟩ := pb_some h
            have hb := pz_a hnx f _ _ _ _ _ e2
            try dsimp only at h
            by_cases h41 : nx q2 = 41
            · rw [if_pos h41] at h
              cases h
              intro e he
              rcases List.mem_append.mp he with he | he
              · rcases List.mem_append.mp he with he | he
                · exact ha e he
                · exact hb e he
              · rw [List.mem_singleton.mp he]; rcases hc with y | y | y <;> omega
            · rw [if_neg h41] at h; cases h
          · rw [if_neg hc] at h
            by_cases h41 : nx q1 = 41
            · rw [if_pos h41] at h
              cases h
              exact ha
            · rw [if_neg h41] at h; cases h
      · rw [if_neg h40] at h
        by_cases hi : isd (nx p)
        · have hn := pnum_nn (nx := nx) 5 p 0 (Int.le_refl 0)
          rw [if_pos hi] at h
          cases h
          intro e he
          rw [List.mem_singleton.mp he]; omega
        · rw [if_neg hi] at h
          by_cases hl : isl (nx p)
          · rw [if_pos hl] at h
            cases h
            intro e he
            have h9 := hnx p
            rw [List.mem_singleton.mp he]; omega
          · rw [if_neg hl] at h; cases h
    · rw [if_neg h4] at h
      by_cases hm : m = 0 ∨ m = 2
      · rw [if_pos hm] at h
        obtain ⟨a, q1, e1, h⟩ := pb_some h
        obtain ⟨b, q2, e2, h⟩ := pb_some h
        have ha := pz_a hnx f _ _ _ _ _ e1
        have hb := pz_a hnx f _ _ _ _ _ e2
        cases h
        intro e he
        rcases List.mem_append.mp he with he | he
        · exact ha e he
        · exact hb e he
      · rw [if_neg hm] at h
        by_cases hs : sgn m (nx p)
        · rw [if_pos hs] at h
          obtain ⟨a, q1, e1, h⟩ := pb_some h
          obtain ⟨b, q2, e2, h⟩ := pb_some h
          have ha := pz_a hnx f _ _ _ _ _ e1
          have hb := pz_a hnx f _ _ _ _ _ e2
          cases h
          intro e he
          rcases List.mem_append.mp he with he | he
          · exact ha e he
          · rcases List.mem_cons.mp he with he | he
            · have h9 := hnx p
              subst he; omega
            · exact hb e he
        · rw [if_neg hs] at h; cases h; exact fun e he => (by cases he)
section TVS
variable {sz x t : Nat → Int32} {k q : Nat} {L L' : Int → Int32} {r a b : Int32} {w : Int}
/-- a text without the age's letter is worth the same by letters that differ there alone -/
theorem tvl_na (hna : ∀ i : Nat, (i : Int) < (sz k).toInt → ¬ (x (60 * k + i)).toInt = 97) (hL : ∀ i : Nat, i < 7 → L (LI i : Nat) = L' (LI i : Nat)) (h : TVL sz x k L r) : TVL sz x k L' r := by
  refine h.imp (fun ⟨q, c, h1, h2⟩ => ⟨q, c, h1, fun st => ?_⟩) id
  obtain ⟨F, hF⟩ := h1
  have hc := pz_a (nx := NX (fun i => x (60 * k + i)) (sz k)) (fun p y => by
    unfold NX at y
    by_cases e : (p : Int) < (sz k).toInt
    · rw [if_pos e] at y; exact hna p e y
    · rw [if_neg e] at y; omega) F _ _ _ _ _ (hF F (Nat.le_refl _))
  rw [← fold_congr (L := L) (L' := L') (c := c) (fun e he hl => by
    obtain ⟨i, hi, ei⟩ := li_all hl (by have := hc e he; omega)
    rw [ei]; exact hL i hi) st]
  exact h2 st
theorem tvl_k (ea : a.toInt = 60 * (k : Int)) (es : b = sz k) (hg : (¬ w = 0 ∧ ∃ c, PT (NX (RBY a t x) b) 0 5 0 q c ∧ VAL L c r) ∨ (w = 0 ∧ PF (NX (RBY a t x) b) 0 5 0 q)) : TVL sz x k L r := by
  have e2 : RBY a t x = fun i => x (60 * k + i) := funext fun i => by
    unfold RBY
    rw [if_neg (by omega), show a.toInt.toNat = 60 * k by omega]
  rw [e2, es] at hg
  exact hg.imp (fun y => ⟨q, y.2⟩) (fun y => ⟨q, y.2⟩)
end TVS
/-- what was worth as much the last time -/
def CAH (sz x lt lw ll : Nat → Int32) (p : Nat) : Prop := ∀ k : Nat, (lt p).toInt = (k : Int) → ∃ L : Int → Int32, TVL sz x k L (lw p) ∧ ∀ i : Nat, i < 7 → L (LI i : Nat) = ll (7 * p + i)
section CAHS
variable {sz x lt lw ll lt' lw' ll' y : Nat → Int32} {p i k : Nat} {G : Nat → Nat → Int32} {w : Int32} {b n j f : Int} {pu fr : Nat → Int32} {L : Int → Int32} {r : Int32}
theorem cah_n (h : (lt p).toInt = -9) : CAH sz x lt lw ll p := fun k q => by omega
theorem cah_o (h : CAH sz x lt lw ll p) (e1 : lt' p = lt p) (e2 : lw' p = lw p) (e3 : ∀ i : Nat, i < 7 → ll' (7 * p + i) = ll (7 * p + i)) : CAH sz x lt' lw' ll' p := fun k q => by
  rw [e1] at q
  obtain ⟨L, h1, h2⟩ := h k q
  exact ⟨L, by rw [e2]; exact h1, fun i hi => by rw [e3 i hi]; exact h2 i hi⟩
theorem cah_y (e1 : (lt' p).toInt = (k : Int)) (h : TVL sz x k (LTR y) (lw' p)) (e3 : ∀ i : Nat, i < 7 → ll' (7 * p + i) = y (LI i)) : CAH sz x lt' lw' ll' p := fun k' q => by
  have e : k' = k := by omega
  subst e
  exact ⟨LTR y, h, fun i hi => (e3 i hi).symm⟩
theorem cah_s (h : CAH sz x lt lw ll p) (e1 : (lt p).toInt = (k : Int)) (hna : ∀ i : Nat, (i : Int) < (sz k).toInt → ¬ (x (60 * k + i)).toInt = 97) (e3 : ∀ i : Nat, i < 7 → ll (7 * p + i) = y (LI i)) : TVL sz x k (LTR y) (lw p) := by
  obtain ⟨L, h1, h2⟩ := h k e1
  exact tvl_na hna (fun i hi => by rw [h2 i hi, e3 i hi]; rfl) h1
theorem n9_s {r : Nat} (h : ∀ k : Nat, (k : Int) < w.toInt → (G r k).toInt = -9) (hb : b = w.toInt + 1) : ∀ k : Nat, (k : Int) < b → (up2 G r w.toNatClampNeg (-9) r k).toInt = -9 := fun k hk => by
  have h8 := tcl w
  by_cases e : k = w.toNatClampNeg
  · subst e; rw [up2_s]; decide
  · rw [up2_f _ _ _ e]; exact h k (by omega)
/-- the letters of the last time, those up to i told anew -/
def LLR (old new y : Nat → Int32) (p : Int) (i : Int) : Prop := ∀ q : Nat, ((q : Int) < 7 * p ∨ 7 * p + i ≤ (q : Int) → new q = old q) ∧ ∀ j : Nat, (q : Int) = 7 * p + (j : Int) → (j : Int) < i → new q = y (LI j)
theorem llr_0 {old y : Nat → Int32} {p i : Int} (hi : i = 0) : LLR old old y p i := fun q => ⟨fun _ => rfl, fun j h1 h2 => by omega⟩
theorem llr_s {old z y : Nat → Int32} {p i i' : Int} {u v : Int32} {r : Nat} (h : LLR old (G r) y p i) (hz : z = up2 G r u.toNatClampNeg v r) (hu : u.toInt = 7 * p + i) (h0 : 0 ≤ 7 * p + i) (h1 : 0 ≤ i) (hi : i' = i + 1) (hv : v = y (LI i.toNat)) : LLR old z y p i' := fun q => by
  have h8 := tcl u
  subst hz
  obtain ⟨a, b⟩ := h q
  by_cases e : q = u.toNatClampNeg
  · rw [e, up2_s]
    refine ⟨fun q9 => by omega, fun j h2 h3 => ?_⟩
    rw [hv, show j = i.toNat by omega]
  · rw [up2_f _ _ _ e]
    exact ⟨fun q9 => a (by omega), fun j h2 h3 => b j h2 (by omega)⟩
/-- all letters so far as the last time -/
def SML (old y : Nat → Int32) (p i : Int) : Prop := ∀ q j : Nat, (q : Int) = 7 * p + (j : Int) → (j : Int) < i → old q = y (LI j)
theorem sml_s {old new y : Nat → Int32} {p i i' : Int} {u c : Int32} (h : SML old y p i) (hl : LLR old new y p i) (hu : u.toInt = 7 * p + i) (h0 : 0 ≤ 7 * p + i) (h1 : 0 ≤ i) (hi : i' = i + 1) (hc : c.toNatClampNeg = LI i.toNat) (he : (new u.toNatClampNeg).toInt = (y c.toNatClampNeg).toInt) : SML old y p i' := fun q j h2 h3 => by
  have h8 := tcl u
  by_cases e : (j : Int) < i
  · exact h q j h2 e
  · have e1 : j = i.toNat := by omega
    have e2 : q = u.toNatClampNeg := by omega
    rw [e1, ← hc, e2, ← (hl u.toNatClampNeg).1 (Or.inr (by omega))]
    exact ext_i he
theorem rv_of (hI : IFI f (MJ pu) (MJ fr) n b j) (h0 : f < 0 → r.toInt = 0) (h1 : ∀ k : Nat, f = (k : Int) → TVL sz x k L r) : (INN (MJ pu) (MJ fr) n b j ∧ r.toInt = 0) ∨ WVM sz pu fr x L n b j 0 r := by
  rcases hI with ⟨q, h⟩ | ⟨k, q, h⟩
  · exact Or.inl ⟨h, h0 (by omega)⟩
  · exact Or.inr (Or.inr ⟨k, h, h1 k q⟩)
end CAHS
set_option maxHeartbeats 4000000 in
set_option maxRecDepth 100000 in
theorem c_X12_findsForce_a (l : Launch) (g : gG) (J : Nat → Nat → Int32) (L : Nat → Nat → Int64) (I : Nat → Nat → Nat → Int32) (P : Nat → Nat → Nat → Option Nat) (E : Nat → Option Nat) (N : Nat → Nat) (sz : Nat) (a0 : Int32) (hwm : WM J) (hm : 0 ≤ a0.toInt ∧ a0.toInt ≤ 9998) : Met l yX12_findsForce (WS yX12_findsForce cX12_findsForce 4 (some .int)) (RM (2) 0 0) (PC g [.ref (g.2.2.1 13), .int a0] ((J, L, I, P, E, N), sgM g) sz) (va_Qi (fun (r : Int32) (u : (Nat → Nat → Int32)) => (-1 ≤ (u 161 0).toInt ∧ (u 161 0).toInt < (J 13 40).toInt ∧ -1 ≤ (u 161 1).toInt ∧ (u 161 1).toInt < (J 13 40).toInt) ∧ (a0.toInt < r.toInt) ∧ (∀ j : Int, a0.toInt ≤ j → j < r.toInt → IFI (u 161 0).toInt (MJ (J 122)) (MJ (J 123)) (J 13 40).toInt 0 j ∧ IFI (u 161 1).toInt (MJ (J 122)) (MJ (J 123)) (J 13 40).toInt 1 j)) (fun u t => at_ g (FR g ((J, L, I, P, E, N), sgM g) sz) ((hv J [161] [] u, L, I, P, E, N), sgM g) t) (FR g ((J, L, I, P, E, N), sgM g) sz)) 0 0 (FR g ((J, L, I, P, E, N), sgM g) sz) := by
  refine ent (by decide +kernel) (Nat.le_of_ble_eq_true rfl) ?_
  intro p e s m below meth c ls hsz C hW hr hlocks hname hl
  generalize FR g ((J, L, I, P, E, N), sgM g) sz = A at C hW ⊢
  generalize hQ9 : (va_Qi (fun (r : Int32) (u : (Nat → Nat → Int32)) => (-1 ≤ (u 161 0).toInt ∧ (u 161 0).toInt < (J 13 40).toInt ∧ -1 ≤ (u 161 1).toInt ∧ (u 161 1).toInt < (J 13 40).toInt) ∧ (a0.toInt < r.toInt) ∧ (∀ j : Int, a0.toInt ≤ j → j < r.toInt → IFI (u 161 0).toInt (MJ (J 122)) (MJ (J 123)) (J 13 40).toInt 0 j ∧ IFI (u 161 1).toInt (MJ (J 122)) (MJ (J 123)) (J 13 40).toInt 1 j)) (fun u t => at_ g A ((hv J [161] [] u, L, I, P, E, N), sgM g) t) A) = Q9
  have hx := C.1.1
  have hb := C.1.2.1
  have hts := C.1.2.2.2.2
  have hW : WB g A s.heap s.heap [] (J, L, I, P, E, N) (sgM g) := hW
  have hl : lv_has ls 4 [(0, .ref (g.2.2.1 13)), (1, .int a0)] := hl
  obtain ⟨H, hH⟩ : ∃ H : Heap, H = s.heap := ⟨_, rfl⟩
  obtain ⟨locs, hlocs⟩ : ∃ q : List Loc, q = [] := ⟨_, rfl⟩
  have hW : WB g A s.heap H locs (J, L, I, P, E, N) (sgM g) := by rw [hH, hlocs]; exact hW
  obtain ⟨⟨hnd1, hnd2, hon, hhm1, hhm2, hhN, hcu1, hcu2, hco1, hco2, hcN⟩, ⟨hrd1, hrd2⟩, ⟨hnw1, hnw2, hns1, hns2, hof⟩, ⟨htm1, htm2, hts_⟩, ⟨had1, had2, hrw1, hrw2, htp1, htp2⟩⟩ := id hwm
  refine start_ hH hlocs ?_
  refine lv_aload_n hx hb dX12_findsForce_0 rfl (lv_at hl 0 rfl) ?_
  refine rg_13_61 C hW (mm_ rfl) tw_1084 dX12_findsForce_1 ?_
  refine lv_iconst (v := 0) hx hb dX12_findsForce_4 (by decide) ?_
  refine lv_aload_n hx hb dX12_findsForce_5 rfl (lv_at hl 0 rfl) ?_
  refine lv_iconst (v := 0) hx hb dX12_findsForce_6 (by decide) ?_
  refine lv_iload_n hx hb dX12_findsForce_7 rfl (lv_at hl 1 rfl) ?_
  refine ci_ C hW (runV (x := (g.2.2.1 13)) (As := [.int 0, .int a0]) (rest := [.int 0, .ref (g.2.2.1 161)]) (T := ((J, L, I, P, E, N), sgM g)) C hW (c_X12_inForce_e l g J L I P E N H.size 0 a0 hwm) mi_X12_inForce tw_1338 (recv_ (T := ((J, L, I, P, E, N), sgM g)) C hW (mm_ rfl) rfl rfl) ⟨rfl, rfl, Nat.le_of_ble_eq_true rfl, Nat.le_of_ble_eq_true rfl⟩ rfl hl.1 rfl (Nat.le_of_ble_eq_true rfl) dX12_findsForce_8 ⟨Nat.le_of_ble_eq_true rfl, Nat.le_of_ble_eq_true rfl⟩) (fun r1 u1 H locs hp1 hW => ?_)
  obtain ⟨hf1_0, hf1_1⟩ : (-1 ≤ r1.toInt ∧ r1.toInt < 30 ∧ (r1.toInt < (J 13 40).toInt)) ∧ (IFI r1.toInt (MJ (J 122)) (MJ (J 123)) (J 13 40).toInt 0 a0.toInt) := hp1
  have hW : WB g A s.heap H locs (J, L, I, P, E, N) (sgM g) := hW
  have hF0 := hf1_1
  have hin : vp_in 0 2 := tin kp0 (by omega)
  refine rs_161 C hW (mm_ rfl) hin dX12_findsForce_11 (fun H locs hW => ?_)
  have hW : WB g A s.heap H locs ((up2 J 161 0 r1), L, I, P, E, N) (sgM g) := hW
  refine lv_aload_n hx hb dX12_findsForce_12 rfl (lv_at hl 0 rfl) ?_
  refine rg_13_61 C hW (mm_ rfl) tw_1084 dX12_findsForce_13 ?_
  refine lv_iconst (v := 1) hx hb dX12_findsForce_16 (by decide) ?_
  refine lv_aload_n hx hb dX12_findsForce_17 rfl (lv_at hl 0 rfl) ?_
  refine lv_iconst (v := 1) hx hb dX12_findsForce_18 (by decide) ?_
  refine lv_iload_n hx hb dX12_findsForce_19 rfl (lv_at hl 1 rfl) ?_
  refine ci_ C hW (runV (x := (g.2.2.1 13)) (As := [.int 1, .int a0]) (rest := [.int 1, .ref (g.2.2.1 161)]) (T := (((up2 J 161 0 r1), L, I, P, E, N), sgM g)) C hW (c_X12_inForce_e l g (up2 J 161 0 r1) L I P E N H.size 1 a0 hwm) mi_X12_inForce tw_1338 (recv_ (T := (((up2 J 161 0 r1), L, I, P, E, N), sgM g)) C hW (mm_ rfl) rfl rfl) ⟨rfl, rfl, Nat.le_of_ble_eq_true rfl, Nat.le_of_ble_eq_true rfl⟩ rfl hl.1 rfl (Nat.le_of_ble_eq_true rfl) dX12_findsForce_20 ⟨Nat.le_of_ble_eq_true rfl, Nat.le_of_ble_eq_true rfl⟩) (fun r2 u2 H locs hp2 hW => ?_)
  obtain ⟨hf2_0, hf2_1⟩ : (-1 ≤ r2.toInt ∧ r2.toInt < 30 ∧ (r2.toInt < (J 13 40).toInt)) ∧ (IFI r2.toInt (MJ (J 122)) (MJ (J 123)) (J 13 40).toInt 1 a0.toInt) := hp2
  have hW : WB g A s.heap H locs ((up2 J 161 0 r1), L, I, P, E, N) (sgM g) := hW
  have hF1 := hf2_1
  have hin : vp_in 1 2 := tin kp1 (by omega)
  refine rs_161 C hW (mm_ rfl) hin dX12_findsForce_23 (fun H locs hW => ?_)
  have hW : WB g A s.heap H locs ((up2 (up2 J 161 0 r1) 161 1 r2), L, I, P, E, N) (sgM g) := hW
  refine lv_sipush (v := 10000) hx hb dX12_findsForce_24 (by decide) ?_
  refine lv_istore_n (lv' := [(2, .int 10000), (0, .ref (g.2.2.1 13)), (1, .int a0)]) hx hb dX12_findsForce_27 rfl hl (by decide) rfl (fun ls hl => ?_)
  refine lv_iconst (v := 0) hx hb dX12_findsForce_28 (by decide) ?_
  refine lv_istore_n (lv' := [(3, .int 0), (2, .int 10000), (0, .ref (g.2.2.1 13)), (1, .int a0)]) hx hb dX12_findsForce_29 rfl hl (by decide) rfl (fun ls hl => ?_)
  have loop30 : ∀ (n : Nat) (m2 : Int32) (m3 : Int32) (H : Heap) (locs : List Loc) (ls : Array Slot), (30 - m3.toInt).toNat < n → 0 ≤ m3.toInt ∧ a0.toInt < m2.toInt → (∀ k : Nat, (k : Int) < m3.toInt → a0.toInt < (J 123 k).toInt → m2.toInt ≤ (J 123 k).toInt) → WB g A s.heap H locs ((up2 (up2 J 161 0 r1) 161 1 r2), L, I, P, E, N) (sgM g) → lv_has ls 4 [(3, .int m3), (2, .int m2), (0, .ref (g.2.2.1 13)), (1, .int a0)] → W p l e (RM (2) 0 0) s m ([.ref (g.2.2.1 13), .int a0] : List Value).toArray below meth c H locs 0 0 (MQ below Q9 ([.ref (g.2.2.1 13), .int a0] : List Value).toArray s 0 0 A) (F0 m 30 ls []) := by
    intro n
    induction n with
    | zero => intro m2 m3 H locs ls hmeas; exact absurd hmeas (Nat.not_lt_zero _)
    | succ n ih =>
      intro m2 m3 H locs ls hmeas hi hno hW hl
      refine lv_iload_n hx hb dX12_findsForce_30 rfl (lv_at hl 0 rfl) ?_
      refine lv_aload_n hx hb dX12_findsForce_31 rfl (lv_at hl 2 rfl) ?_
      refine rg_13_40 C hW (mm_ rfl) tw_1063 dX12_findsForce_32 ?_
      refine lv_as (J 13 40) rfl ?_
      refine lv_icmp_ge (tgt := 75) hx hb dX12_findsForce_35 (by decide) (fun c3 => ?_) (fun c3 => ?_)
      · have c3 : (J 13 40).toInt ≤ m3.toInt := tle rfl rfl c3
        refine lv_iload_n hx hb dX12_findsForce_75 rfl (lv_at hl 1 rfl) ?_
        have hWr : WB g A s.heap H locs (hv J [161] [] (up2 (up2 J 161 0 r1) 161 1 r2), L, I, P, E, N) (sgM g) := by
          rw [← ag_hvE (J := J) (R := [161]) (F := []) (ag_up (Or.inl rfl) (ag_up (Or.inl rfl) ag_rf))]
          exact hW
        subst hQ9
        exact end_i C hr hlocks (up2 (up2 J 161 0 r1) 161 1 r2) hWr ⟨show -1 ≤ (r1).toInt ∧ (r1).toInt < (J 13 40).toInt ∧ -1 ≤ (r2).toInt ∧ (r2).toInt < (J 13 40).toInt from by exact ⟨by omega, by omega, by omega, by omega⟩, show a0.toInt < m2.toInt from by omega, show ∀ j : Int, a0.toInt ≤ j → j < m2.toInt → IFI (r1).toInt (MJ (J 122)) (MJ (J 123)) (J 13 40).toInt 0 j ∧ IFI (r2).toInt (MJ (J 122)) (MJ (J 123)) (J 13 40).toInt 1 j from by exact fun j h1 h2 => ⟨ifi_sh hF0 h1 (fun k hk h9 => absurd (Int.le_trans (hno k (by omega) h9.1) h9.2) (Int.not_le.mpr h2)), ifi_sh hF1 h1 (fun k hk h9 => absurd (Int.le_trans (hno k (by omega) h9.1) h9.2) (Int.not_le.mpr h2))⟩⟩ dX12_findsForce_76
      · have c3 : m3.toInt < (J 13 40).toInt := tnle rfl rfl c3
        refine lv_aload_n hx hb dX12_findsForce_38 rfl (lv_at hl 2 rfl) ?_
        refine rg_13_23 C hW (mm_ rfl) tw_1046 dX12_findsForce_39 ?_
        refine lv_iload_n hx hb dX12_findsForce_42 rfl (lv_at hl 0 rfl) ?_
        have hin : vp_in m3 30 := tin rfl (by omega)
        refine ra_123 C hW (mm_ rfl) hin dX12_findsForce_43 ?_
        refine lv_topi (fun x4 (e4 : x4 = J 123 m3.toNatClampNeg) => ?_)
        have t4 : x4.toInt = (J 123 m3.toNatClampNeg).toInt := by rw [e4]
        refine lv_iload_n hx hb dX12_findsForce_44 rfl (lv_at hl 3 rfl) ?_
        refine lv_icmp_le (tgt := 67) hx hb dX12_findsForce_45 (by decide) (fun c5 => ?_) (fun c5 => ?_)
        · have c5 : x4.toInt ≤ a0.toInt := tle rfl rfl c5
          refine lv_iload_n hx hb dX12_findsForce_67 rfl (lv_at hl 1 rfl) ?_
          refine lv_istore_n (lv' := [(2, .int m2), (3, .int m3), (0, .ref (g.2.2.1 13)), (1, .int a0)]) hx hb dX12_findsForce_68 rfl hl (by decide) rfl (fun ls hl => ?_)
          obtain ⟨x6, e6⟩ : ∃ y : Int32, y = m3 + 1 := ⟨_, rfl⟩
          refine lv_iinc (v := x6) (lv' := [(3, .int x6), (2, .int m2), (0, .ref (g.2.2.1 13)), (1, .int a0)]) hx hb dX12_findsForce_69 hl (k := 1) rfl (by rw [e6]; rfl) (by decide) rfl (fun ls hl => ?_)
          try have t6 : x6.toInt = m3.toInt + 1 := tadd e6 rfl kp1 (by omega)
          refine lv_goto (tgt := 30) hx hb dX12_findsForce_72 (by decide) ?_
          refine ih m2 x6 H locs ls ?_ ?_ ?_ hW (lv_sub hl [0, 1, 2, 3] rfl)
          · show (30 - x6.toInt).toNat < n
            omega
          · show 0 ≤ x6.toInt ∧ a0.toInt < m2.toInt
            first | omega | exact hi | assumption
          · show ∀ k : Nat, (k : Int) < x6.toInt → a0.toInt < (J 123 k).toInt → m2.toInt ≤ (J 123 k).toInt
            (intro k hk hk2; by_cases e9 : k = m3.toNatClampNeg; (rw [e9] at hk2 ⊢; omega); (have h7 := hno k (by have h8 := tcl m3; omega) hk2; omega))
        · have c5 : a0.toInt < x4.toInt := tnle rfl rfl c5
          refine lv_aload_n hx hb dX12_findsForce_48 rfl (lv_at hl 2 rfl) ?_
          refine rg_13_23 C hW (mm_ rfl) tw_1046 dX12_findsForce_49 ?_
          refine lv_iload_n hx hb dX12_findsForce_52 rfl (lv_at hl 0 rfl) ?_
          have hin : vp_in m3 30 := tin rfl (by omega)
          refine ra_123 C hW (mm_ rfl) hin dX12_findsForce_53 ?_
          refine lv_topi (fun x7 (e7 : x7 = J 123 m3.toNatClampNeg) => ?_)
          have t7 : x7.toInt = (J 123 m3.toNatClampNeg).toInt := by rw [e7]
          refine lv_iload_n hx hb dX12_findsForce_54 rfl (lv_at hl 1 rfl) ?_
          refine lv_icmp_ge (tgt := 67) hx hb dX12_findsForce_55 (by decide) (fun c8 => ?_) (fun c8 => ?_)
          · have c8 : m2.toInt ≤ x7.toInt := tle rfl rfl c8
            refine lv_iload_n hx hb dX12_findsForce_67 rfl (lv_at hl 1 rfl) ?_
            refine lv_istore_n (lv' := [(2, .int m2), (3, .int m3), (0, .ref (g.2.2.1 13)), (1, .int a0)]) hx hb dX12_findsForce_68 rfl hl (by decide) rfl (fun ls hl => ?_)
            obtain ⟨x9, e9⟩ : ∃ y : Int32, y = m3 + 1 := ⟨_, rfl⟩
            refine lv_iinc (v := x9) (lv' := [(3, .int x9), (2, .int m2), (0, .ref (g.2.2.1 13)), (1, .int a0)]) hx hb dX12_findsForce_69 hl (k := 1) rfl (by rw [e9]; rfl) (by decide) rfl (fun ls hl => ?_)
            try have t9 : x9.toInt = m3.toInt + 1 := tadd e9 rfl kp1 (by omega)
            refine lv_goto (tgt := 30) hx hb dX12_findsForce_72 (by decide) ?_
            refine ih m2 x9 H locs ls ?_ ?_ ?_ hW (lv_sub hl [0, 1, 2, 3] rfl)
            · show (30 - x9.toInt).toNat < n
              omega
            · show 0 ≤ x9.toInt ∧ a0.toInt < m2.toInt
              first | omega | exact hi | assumption
            · show ∀ k : Nat, (k : Int) < x9.toInt → a0.toInt < (J 123 k).toInt → m2.toInt ≤ (J 123 k).toInt
              (intro k hk hk2; by_cases e9 : k = m3.toNatClampNeg; (rw [e9] at hk2 ⊢; omega); (have h7 := hno k (by have h8 := tcl m3; omega) hk2; omega))
          · have c8 : x7.toInt < m2.toInt := tnle rfl rfl c8
            refine lv_aload_n hx hb dX12_findsForce_58 rfl (lv_at hl 2 rfl) ?_
            refine rg_13_23 C hW (mm_ rfl) tw_1046 dX12_findsForce_59 ?_
            refine lv_iload_n hx hb dX12_findsForce_62 rfl (lv_at hl 0 rfl) ?_
            have hin : vp_in m3 30 := tin rfl (by omega)
            refine ra_123 C hW (mm_ rfl) hin dX12_findsForce_63 ?_
            refine lv_topi (fun x10 (e10 : x10 = J 123 m3.toNatClampNeg) => ?_)
            have t10 : x10.toInt = (J 123 m3.toNatClampNeg).toInt := by rw [e10]
            refine lv_goto (tgt := 68) hx hb dX12_findsForce_64 (by decide) ?_
            refine lv_istore_n (lv' := [(2, .int x10), (3, .int m3), (0, .ref (g.2.2.1 13)), (1, .int a0)]) hx hb dX12_findsForce_68 rfl hl (by decide) rfl (fun ls hl => ?_)
            obtain ⟨x11, e11⟩ : ∃ y : Int32, y = m3 + 1 := ⟨_, rfl⟩
            refine lv_iinc (v := x11) (lv' := [(3, .int x11), (2, .int x10), (0, .ref (g.2.2.1 13)), (1, .int a0)]) hx hb dX12_findsForce_69 hl (k := 1) rfl (by rw [e11]; rfl) (by decide) rfl (fun ls hl => ?_)
            try have t11 : x11.toInt = m3.toInt + 1 := tadd e11 rfl kp1 (by omega)
            refine lv_goto (tgt := 30) hx hb dX12_findsForce_72 (by decide) ?_
            refine ih x10 x11 H locs ls ?_ ?_ ?_ hW (lv_sub hl [0, 1, 2, 3] rfl)
            · show (30 - x11.toInt).toNat < n
              omega
            · show 0 ≤ x11.toInt ∧ a0.toInt < x10.toInt
              first | omega | exact hi | assumption
            · show ∀ k : Nat, (k : Int) < x11.toInt → a0.toInt < (J 123 k).toInt → x10.toInt ≤ (J 123 k).toInt
              (intro k hk hk2; by_cases e9 : k = m3.toNatClampNeg; (rw [e9] at hk2 ⊢; omega); (have h7 := hno k (by have h8 := tcl m3; omega) hk2; omega))
  -- into the loop
  refine loop30 ((30 - (0 : Int32).toInt).toNat + 1) 10000 0 H locs ls ?_ ?_ ?_ hW (lv_sub hl [0, 1, 2, 3] rfl)
  · exact Nat.lt_succ_self _
  · show 0 ≤ (0 : Int32).toInt ∧ a0.toInt < (10000 : Int32).toInt
    try rw [kp10000]
    try rw [kp0]
    first | omega | exact hi | assumption
  · show ∀ k : Nat, (k : Int) < (0 : Int32).toInt → a0.toInt < (J 123 k).toInt → (10000 : Int32).toInt ≤ (J 123 k).toInt
    try rw [kp10000]
    try rw [kp0]
    intro k hk hk2; exfalso; omega

set_option maxHeartbeats 4000000 in
set_option maxRecDepth 100000 in
theorem c_X12_letterOf_a (l : Launch) (g : gG) (J : Nat → Nat → Int32) (L : Nat → Nat → Int64) (I : Nat → Nat → Nat → Int32) (P : Nat → Nat → Nat → Option Nat) (E : Nat → Option Nat) (N : Nat → Nat) (sz : Nat) (a0 : Int32)  : Met l yX12_letterOf (WS yX12_letterOf cX12_letterOf 1 (some .int)) (RM (1) 0 0) (PC g [.int a0] ((J, L, I, P, E, N), sgM g) sz) (va_Qi (fun (r : Int32) (u : Unit) => (0 ≤ r.toInt ∧ r.toInt < 128) ∧ ((a0.toInt = 0 → r.toInt = 107) ∧ (a0.toInt = 1 → r.toInt = 104) ∧ (a0.toInt = 2 → r.toInt = 118) ∧ (a0.toInt = 3 → r.toInt = 115) ∧ (a0.toInt = 4 → r.toInt = 109) ∧ (a0.toInt = 5 → r.toInt = 119) ∧ (6 ≤ a0.toInt → r.toInt = 110))) (fun u t => at_ g (FR g ((J, L, I, P, E, N), sgM g) sz) ((J, L, I, P, E, N), sgM g) t) (FR g ((J, L, I, P, E, N), sgM g) sz)) 0 0 (FR g ((J, L, I, P, E, N), sgM g) sz) := by
  refine ent (by decide +kernel) (Nat.le_of_ble_eq_true rfl) ?_
  intro p e s m below meth c ls hsz C hW hr hlocks hname hl
  generalize FR g ((J, L, I, P, E, N), sgM g) sz = A at C hW ⊢
  generalize hQ9 : (va_Qi (fun (r : Int32) (u : Unit) => (0 ≤ r.toInt ∧ r.toInt < 128) ∧ ((a0.toInt = 0 → r.toInt = 107) ∧ (a0.toInt = 1 → r.toInt = 104) ∧ (a0.toInt = 2 → r.toInt = 118) ∧ (a0.toInt = 3 → r.toInt = 115) ∧ (a0.toInt = 4 → r.toInt = 109) ∧ (a0.toInt = 5 → r.toInt = 119) ∧ (6 ≤ a0.toInt → r.toInt = 110))) (fun u t => at_ g A ((J, L, I, P, E, N), sgM g) t) A) = Q9
  have hx := C.1.1
  have hb := C.1.2.1
  have hts := C.1.2.2.2.2
  have hW : WB g A s.heap s.heap [] (J, L, I, P, E, N) (sgM g) := hW
  have hl : lv_has ls 1 [(0, .int a0)] := hl
  obtain ⟨H, hH⟩ : ∃ H : Heap, H = s.heap := ⟨_, rfl⟩
  obtain ⟨locs, hlocs⟩ : ∃ q : List Loc, q = [] := ⟨_, rfl⟩
  have hW : WB g A s.heap H locs (J, L, I, P, E, N) (sgM g) := by rw [hH, hlocs]; exact hW
  refine start_ hH hlocs ?_
  refine lv_iload_n hx hb dX12_letterOf_0 rfl (lv_at hl 0 rfl) ?_
  refine lv_if_ne (tgt := 9) hx hb dX12_letterOf_1 (by decide) (fun c1 => ?_) (fun c1 => ?_)
  · have c1 : ¬ a0.toInt = 0 := tne rfl kp0 c1
    refine lv_iload_n hx hb dX12_letterOf_9 rfl (lv_at hl 0 rfl) ?_
    refine lv_iconst (v := 1) hx hb dX12_letterOf_10 (by decide) ?_
    refine lv_icmp_ne (tgt := 19) hx hb dX12_letterOf_11 (by decide) (fun c2 => ?_) (fun c2 => ?_)
    · have c2 : ¬ a0.toInt = 1 := tne rfl kp1 c2
      refine lv_iload_n hx hb dX12_letterOf_19 rfl (lv_at hl 0 rfl) ?_
      refine lv_iconst (v := 2) hx hb dX12_letterOf_20 (by decide) ?_
      refine lv_icmp_ne (tgt := 29) hx hb dX12_letterOf_21 (by decide) (fun c3 => ?_) (fun c3 => ?_)
      · have c3 : ¬ a0.toInt = 2 := tne rfl kp2 c3
        refine lv_iload_n hx hb dX12_letterOf_29 rfl (lv_at hl 0 rfl) ?_
        refine lv_iconst (v := 3) hx hb dX12_letterOf_30 (by decide) ?_
        refine lv_icmp_ne (tgt := 39) hx hb dX12_letterOf_31 (by decide) (fun c4 => ?_) (fun c4 => ?_)
        · have c4 : ¬ a0.toInt = 3 := tne rfl kp3 c4
          refine lv_iload_n hx hb dX12_letterOf_39 rfl (lv_at hl 0 rfl) ?_
          refine lv_iconst (v := 4) hx hb dX12_letterOf_40 (by decide) ?_
          refine lv_icmp_ne (tgt := 49) hx hb dX12_letterOf_41 (by decide) (fun c5 => ?_) (fun c5 => ?_)
          · have c5 : ¬ a0.toInt = 4 := tne rfl kp4 c5
            refine lv_iload_n hx hb dX12_letterOf_49 rfl (lv_at hl 0 rfl) ?_
            refine lv_iconst (v := 5) hx hb dX12_letterOf_50 (by decide) ?_
            refine lv_icmp_ne (tgt := 59) hx hb dX12_letterOf_51 (by decide) (fun c6 => ?_) (fun c6 => ?_)
            · have c6 : ¬ a0.toInt = 5 := tne rfl kp5 c6
              refine lv_bipush (v := 110) hx hb dX12_letterOf_59 (by decide) ?_
              subst hQ9
              exact end_i C hr hlocks () hW ⟨show 0 ≤ 110 ∧ 110 < 128 from by omega, show (a0.toInt = 0 → 110 = 107) ∧ (a0.toInt = 1 → 110 = 104) ∧ (a0.toInt = 2 → 110 = 118) ∧ (a0.toInt = 3 → 110 = 115) ∧ (a0.toInt = 4 → 110 = 109) ∧ (a0.toInt = 5 → 110 = 119) ∧ (6 ≤ a0.toInt → 110 = 110) from by omega⟩ dX12_letterOf_61
            · have c6 : a0.toInt = 5 := teq rfl kp5 c6
              refine lv_bipush (v := 119) hx hb dX12_letterOf_54 (by decide) ?_
              refine lv_goto (tgt := 61) hx hb dX12_letterOf_56 (by decide) ?_
              subst hQ9
              exact end_i C hr hlocks () hW ⟨show 0 ≤ 119 ∧ 119 < 128 from by omega, show (a0.toInt = 0 → 119 = 107) ∧ (a0.toInt = 1 → 119 = 104) ∧ (a0.toInt = 2 → 119 = 118) ∧ (a0.toInt = 3 → 119 = 115) ∧ (a0.toInt = 4 → 119 = 109) ∧ (a0.toInt = 5 → 119 = 119) ∧ (6 ≤ a0.toInt → 119 = 110) from by omega⟩ dX12_letterOf_61
          · have c5 : a0.toInt = 4 := teq rfl kp4 c5
            refine lv_bipush (v := 109) hx hb dX12_letterOf_44 (by decide) ?_
            refine lv_goto (tgt := 61) hx hb dX12_letterOf_46 (by decide) ?_
            subst hQ9
            exact end_i C hr hlocks () hW ⟨show 0 ≤ 109 ∧ 109 < 128 from by omega, show (a0.toInt = 0 → 109 = 107) ∧ (a0.toInt = 1 → 109 = 104) ∧ (a0.toInt = 2 → 109 = 118) ∧ (a0.toInt = 3 → 109 = 115) ∧ (a0.toInt = 4 → 109 = 109) ∧ (a0.toInt = 5 → 109 = 119) ∧ (6 ≤ a0.toInt → 109 = 110) from by omega⟩ dX12_letterOf_61
        · have c4 : a0.toInt = 3 := teq rfl kp3 c4
          refine lv_bipush (v := 115) hx hb dX12_letterOf_34 (by decide) ?_
          refine lv_goto (tgt := 61) hx hb dX12_letterOf_36 (by decide) ?_
          subst hQ9
          exact end_i C hr hlocks () hW ⟨show 0 ≤ 115 ∧ 115 < 128 from by omega, show (a0.toInt = 0 → 115 = 107) ∧ (a0.toInt = 1 → 115 = 104) ∧ (a0.toInt = 2 → 115 = 118) ∧ (a0.toInt = 3 → 115 = 115) ∧ (a0.toInt = 4 → 115 = 109) ∧ (a0.toInt = 5 → 115 = 119) ∧ (6 ≤ a0.toInt → 115 = 110) from by omega⟩ dX12_letterOf_61
      · have c3 : a0.toInt = 2 := teq rfl kp2 c3
        refine lv_bipush (v := 118) hx hb dX12_letterOf_24 (by decide) ?_
        refine lv_goto (tgt := 61) hx hb dX12_letterOf_26 (by decide) ?_
        subst hQ9
        exact end_i C hr hlocks () hW ⟨show 0 ≤ 118 ∧ 118 < 128 from by omega, show (a0.toInt = 0 → 118 = 107) ∧ (a0.toInt = 1 → 118 = 104) ∧ (a0.toInt = 2 → 118 = 118) ∧ (a0.toInt = 3 → 118 = 115) ∧ (a0.toInt = 4 → 118 = 109) ∧ (a0.toInt = 5 → 118 = 119) ∧ (6 ≤ a0.toInt → 118 = 110) from by omega⟩ dX12_letterOf_61
    · have c2 : a0.toInt = 1 := teq rfl kp1 c2
      refine lv_bipush (v := 104) hx hb dX12_letterOf_14 (by decide) ?_
      refine lv_goto (tgt := 61) hx hb dX12_letterOf_16 (by decide) ?_
      subst hQ9
      exact end_i C hr hlocks () hW ⟨show 0 ≤ 104 ∧ 104 < 128 from by omega, show (a0.toInt = 0 → 104 = 107) ∧ (a0.toInt = 1 → 104 = 104) ∧ (a0.toInt = 2 → 104 = 118) ∧ (a0.toInt = 3 → 104 = 115) ∧ (a0.toInt = 4 → 104 = 109) ∧ (a0.toInt = 5 → 104 = 119) ∧ (6 ≤ a0.toInt → 104 = 110) from by omega⟩ dX12_letterOf_61
  · have c1 : a0.toInt = 0 := teq rfl kp0 c1
    refine lv_bipush (v := 107) hx hb dX12_letterOf_4 (by decide) ?_
    refine lv_goto (tgt := 61) hx hb dX12_letterOf_6 (by decide) ?_
    subst hQ9
    exact end_i C hr hlocks () hW ⟨show 0 ≤ 107 ∧ 107 < 128 from by omega, show (a0.toInt = 0 → 107 = 107) ∧ (a0.toInt = 1 → 107 = 104) ∧ (a0.toInt = 2 → 107 = 118) ∧ (a0.toInt = 3 → 107 = 115) ∧ (a0.toInt = 4 → 107 = 109) ∧ (a0.toInt = 5 → 107 = 119) ∧ (6 ≤ a0.toInt → 107 = 110) from by omega⟩ dX12_letterOf_61

set_option maxHeartbeats 4000000 in
set_option maxRecDepth 100000 in
theorem c_X12_has_a (l : Launch) (g : gG) (J : Nat → Nat → Int32) (L : Nat → Nat → Int64) (I : Nat → Nat → Nat → Int32) (P : Nat → Nat → Nat → Option Nat) (E : Nat → Option Nat) (N : Nat → Nat) (sz : Nat) (a0 : Int32) (a1 : Int32) (hwm : WM J) (hk : 0 ≤ a0.toInt ∧ a0.toInt < (J 13 40).toInt) : Met l yX12_has (WS yX12_has cX12_has 4 (some .boolean)) (RM (1) 0 0) (PC g [.ref (g.2.2.1 13), .int a0, .int a1] ((J, L, I, P, E, N), sgM g) sz) (va_Qi (fun (r : Int32) (u : Unit) => ((r.toInt = 1) ∨ (r.toInt = 0 ∧ (∀ i : Nat, (i : Int) < (J 121 a0.toNatClampNeg).toInt → ¬ (J 124 (60 * a0.toNatClampNeg + i)).toInt = a1.toInt)))) (fun u t => at_ g (FR g ((J, L, I, P, E, N), sgM g) sz) ((J, L, I, P, E, N), sgM g) t) (FR g ((J, L, I, P, E, N), sgM g) sz)) 0 0 (FR g ((J, L, I, P, E, N), sgM g) sz) := by
  refine ent (by decide +kernel) (Nat.le_of_ble_eq_true rfl) ?_
  intro p e s m below meth c ls hsz C hW hr hlocks hname hl
  generalize FR g ((J, L, I, P, E, N), sgM g) sz = A at C hW ⊢
  generalize hQ9 : (va_Qi (fun (r : Int32) (u : Unit) => ((r.toInt = 1) ∨ (r.toInt = 0 ∧ (∀ i : Nat, (i : Int) < (J 121 a0.toNatClampNeg).toInt → ¬ (J 124 (60 * a0.toNatClampNeg + i)).toInt = a1.toInt)))) (fun u t => at_ g A ((J, L, I, P, E, N), sgM g) t) A) = Q9
  have hx := C.1.1
  have hb := C.1.2.1
  have hts := C.1.2.2.2.2
  have hW : WB g A s.heap s.heap [] (J, L, I, P, E, N) (sgM g) := hW
  have hl : lv_has ls 4 [(0, .ref (g.2.2.1 13)), (1, .int a0), (2, .int a1)] := hl
  obtain ⟨H, hH⟩ : ∃ H : Heap, H = s.heap := ⟨_, rfl⟩
  obtain ⟨locs, hlocs⟩ : ∃ q : List Loc, q = [] := ⟨_, rfl⟩
  have hW : WB g A s.heap H locs (J, L, I, P, E, N) (sgM g) := by rw [hH, hlocs]; exact hW
  obtain ⟨⟨hnd1, hnd2, hon, hhm1, hhm2, hhN, hcu1, hcu2, hco1, hco2, hcN⟩, ⟨hrd1, hrd2⟩, ⟨hnw1, hnw2, hns1, hns2, hof⟩, ⟨htm1, htm2, hts_⟩, ⟨had1, had2, hrw1, hrw2, htp1, htp2⟩⟩ := id hwm
  refine start_ hH hlocs ?_
  refine lv_iconst (v := 0) hx hb dX12_has_0 (by decide) ?_
  refine lv_istore_n (lv' := [(3, .int 0), (0, .ref (g.2.2.1 13)), (1, .int a0), (2, .int a1)]) hx hb dX12_has_1 rfl hl (by decide) rfl (fun ls hl => ?_)
  have loop2 : ∀ (n : Nat) (m3 : Int32) (H : Heap) (locs : List Loc) (ls : Array Slot), (60 - m3.toInt).toNat < n → 0 ≤ m3.toInt → (∀ i : Nat, (i : Int) < m3.toInt → ¬ (J 124 (60 * a0.toNatClampNeg + i)).toInt = a1.toInt) → WB g A s.heap H locs (J, L, I, P, E, N) (sgM g) → lv_has ls 4 [(3, .int m3), (0, .ref (g.2.2.1 13)), (1, .int a0), (2, .int a1)] → W p l e (RM (1) 0 0) s m ([.ref (g.2.2.1 13), .int a0, .int a1] : List Value).toArray below meth c H locs 0 0 (MQ below Q9 ([.ref (g.2.2.1 13), .int a0, .int a1] : List Value).toArray s 0 0 A) (F0 m 2 ls []) := by
    intro n
    induction n with
    | zero => intro m3 H locs ls hmeas; exact absurd hmeas (Nat.not_lt_zero _)
    | succ n ih =>
      intro m3 H locs ls hmeas hi hno hW hl
      refine lv_iload_n hx hb dX12_has_2 rfl (lv_at hl 0 rfl) ?_
      refine lv_aload_n hx hb dX12_has_3 rfl (lv_at hl 1 rfl) ?_
      refine rg_13_21 C hW (mm_ rfl) tw_1044 dX12_has_4 ?_
      refine lv_iload_n hx hb dX12_has_7 rfl (lv_at hl 2 rfl) ?_
      have hin : vp_in a0 30 := tin rfl (by omega)
      refine ra_121 C hW (mm_ rfl) hin dX12_has_8 ?_
      refine lv_topi (fun x1 (e1 : x1 = J 121 a0.toNatClampNeg) => ?_)
      have t1 : x1.toInt = (J 121 a0.toNatClampNeg).toInt := by rw [e1]
      have q1 := hts_ a0.toNatClampNeg
      rw [← e1] at q1
      have k1 := tcl a0
      refine lv_icmp_ge (tgt := 35) hx hb dX12_has_9 (by decide) (fun c2 => ?_) (fun c2 => ?_)
      · have c2 : x1.toInt ≤ m3.toInt := tle rfl rfl c2
        refine lv_iconst (v := 0) hx hb dX12_has_35 (by decide) ?_
        subst hQ9
        exact end_z C hr hlocks (by decide) () hW (by first | exact Or.inr (⟨by decide, show (∀ i : Nat, (i : Int) < (J 121 a0.toNatClampNeg).toInt → ¬ (J 124 (60 * a0.toNatClampNeg + i)).toInt = a1.toInt) from (by exact fun i hi9 => hno i (by omega))⟩)) dX12_has_36
      · have c2 : m3.toInt < x1.toInt := tnle rfl rfl c2
        refine lv_aload_n hx hb dX12_has_12 rfl (lv_at hl 1 rfl) ?_
        refine rg_13_24 C hW (mm_ rfl) tw_1047 dX12_has_13 ?_
        refine lv_bipush (v := 60) hx hb dX12_has_16 (by decide) ?_
        refine lv_iload_n hx hb dX12_has_18 rfl (lv_at hl 2 rfl) ?_
        refine lv_imul hx hb dX12_has_19 ?_
        refine lv_topi (fun x3 (e3 : x3 = 60 * a0) => ?_)
        try have t3 : x3.toInt = 60 * a0.toInt := tmul e3 kp60 rfl (by omega)
        refine lv_iload_n hx hb dX12_has_20 rfl (lv_at hl 0 rfl) ?_
        refine lv_iadd hx hb dX12_has_21 ?_
        refine lv_topi (fun x4 (e4 : x4 = x3 + m3) => ?_)
        try have t4 : x4.toInt = x3.toInt + m3.toInt := tadd e4 rfl rfl (by omega)
        have hin : vp_in x4 1800 := tin rfl (by omega)
        refine ra_124 C hW (mm_ rfl) hin dX12_has_22 ?_
        refine lv_topi (fun x5 (e5 : x5 = J 124 x4.toNatClampNeg) => ?_)
        have t5 : x5.toInt = (J 124 x4.toNatClampNeg).toInt := by rw [e5]
        refine lv_iload_n hx hb dX12_has_23 rfl (lv_at hl 3 rfl) ?_
        refine lv_icmp_ne (tgt := 29) hx hb dX12_has_24 (by decide) (fun c6 => ?_) (fun c6 => ?_)
        · have c6 : ¬ x5.toInt = a1.toInt := tne rfl rfl c6
          obtain ⟨x7, e7⟩ : ∃ y : Int32, y = m3 + 1 := ⟨_, rfl⟩
          refine lv_iinc (v := x7) (lv' := [(3, .int x7), (0, .ref (g.2.2.1 13)), (1, .int a0), (2, .int a1)]) hx hb dX12_has_29 hl (k := 0) rfl (by rw [e7]; rfl) (by decide) rfl (fun ls hl => ?_)
          try have t7 : x7.toInt = m3.toInt + 1 := tadd e7 rfl kp1 (by omega)
          refine lv_goto (tgt := 2) hx hb dX12_has_32 (by decide) ?_
          refine ih x7 H locs ls ?_ ?_ ?_ hW (lv_sub hl [0, 1, 2, 3] rfl)
          · show (60 - x7.toInt).toNat < n
            omega
          · show 0 ≤ x7.toInt
            first | omega | exact hi | assumption
          · show ∀ i : Nat, (i : Int) < x7.toInt → ¬ (J 124 (60 * a0.toNatClampNeg + i)).toInt = a1.toInt
            (intro i hi9; by_cases e9 : i = m3.toNatClampNeg; (rw [e9, show 60 * a0.toNatClampNeg + m3.toNatClampNeg = x4.toNatClampNeg by (have h7 := tcl a0; have h8 := tcl m3; have h9 := tcl x4; omega)]; omega); exact hno i (by have h8 := tcl m3; omega))
        · have c6 : x5.toInt = a1.toInt := teq rfl rfl c6
          refine lv_iconst (v := 1) hx hb dX12_has_27 (by decide) ?_
          subst hQ9
          exact end_z C hr hlocks (by decide) () hW (by first | exact Or.inl (by decide)) dX12_has_28
  -- into the loop
  refine loop2 ((60 - (0 : Int32).toInt).toNat + 1) 0 H locs ls ?_ ?_ ?_ hW (lv_sub hl [0, 1, 2, 3] rfl)
  · exact Nat.lt_succ_self _
  · show 0 ≤ (0 : Int32).toInt
    try rw [kp0]
    first | omega | exact hi | assumption
  · show ∀ i : Nat, (i : Int) < (0 : Int32).toInt → ¬ (J 124 (60 * a0.toNatClampNeg + i)).toInt = a1.toInt
    try rw [kp0]
    intro i hi9; exfalso; omega
