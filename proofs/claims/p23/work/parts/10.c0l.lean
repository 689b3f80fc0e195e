/-- a row judged as adverts of one minute -/
def JBAD (x : Nat → Int32) (n : Int) (k : Nat) : Prop := n ≤ (k : Int) ∨ (x k).toInt < 0 ∨ 9 < (x k).toInt ∨ (0 < k ∧ (x (k - 1)).toInt = (x k).toInt)
def JDG (x : Nat → Int32) (n r : Int) : Prop := (∃ k : Nat, k < 5 ∧ r = k ∧ JBAD x n k ∧ ∀ j : Nat, j < k → ¬ JBAD x n j) ∨ ((∀ j : Nat, j < 5 → ¬ JBAD x n j) ∧ ((5 < n ∧ r = 5) ∨ (n ≤ 5 ∧ r = -9)))
section JUDGE
variable {x y K : Nat → Int32} {n n' m m' r r' a a' : Int} {c : Nat}
theorem jb_0 (h : m = 0) : ∀ j : Nat, (j : Int) < m → ¬ JBAD x n j := fun j hj => by omega
theorem jb_s (h : ∀ j : Nat, (j : Int) < m → ¬ JBAD x n j) (hm : (c : Int) = m) (hm' : m' = m + 1) (h1 : (c : Int) < n) (h2 : 0 ≤ (x c).toInt) (h3 : (x c).toInt ≤ 9) (h4 : c = 0 ∨ ¬ (x (c - 1)).toInt = (x c).toInt) : ∀ j : Nat, (j : Int) < m' → ¬ JBAD x n j := fun j hj => by
  by_cases e : j = c
  · subst e
    rintro (q | q | q | ⟨q1, q2⟩)
    · omega
    · omega
    · omega
    · rcases h4 with h4 | h4
      · omega
      · exact h4 q2
  · exact h j (by omega)
/-- a row checked as a log -/
def CHK (x K : Nat → Int32) (a n r : Int) : Prop := (∃ k : Nat, (k : Int) < n ∧ r = k ∧ ¬ (x k).toInt = (K (a.toNat + k)).toInt ∧ ∀ j : Nat, j < k → (x j).toInt = (K (a.toNat + j)).toInt) ∨ ((∀ j : Nat, (j : Int) < n → (x j).toInt = (K (a.toNat + j)).toInt) ∧ r = -9)
theorem ck_0 (h : m = 0) : ∀ j : Nat, (j : Int) < m → (x j).toInt = (K (a.toNat + j)).toInt := fun j hj => by omega
theorem ck_s (h : ∀ j : Nat, (j : Int) < m → (x j).toInt = (K (a.toNat + j)).toInt) (hm : (c : Int) = m) (hm' : m' = m + 1) (h1 : (x c).toInt = (K (a.toNat + c)).toInt) : ∀ j : Nat, (j : Int) < m' → (x j).toInt = (K (a.toNat + j)).toInt := fun j hj => by
  by_cases e : j = c
  · subst e; exact h1
  · exact h j (by omega)
theorem rw_add {x' y' : Nat → Int32} {G G' : Nat → Nat → Int32} {r r' : Nat} {w w' v : Int32} {l : Int} (h : ∀ k : Nat, (k : Int) < w.toInt → G r k = G' r' k) (hw : w.toInt = w'.toInt) (e1 : x' = up2 G r w.toNatClampNeg v r) (e2 : y' = up2 G' r' w'.toNatClampNeg v r') (hl : l = w.toInt + 1) (h0 : 0 ≤ w.toInt) : ∀ k : Nat, (k : Int) < l → x' k = y' k := fun k hk => by
  have h8 := tcl w
  have h9 := tcl w'
  subst e1 e2
  by_cases e : k = w.toNatClampNeg
  · have e2 : k = w'.toNatClampNeg := by omega
    rw [e, up2_s, ← e, e2, up2_s]
  · rw [up2_f _ _ _ e, up2_f _ _ _ (by omega)]; exact h k (by omega)
end JUDGE
set_option maxHeartbeats 4000000 in
set_option maxRecDepth 100000 in
theorem c_X11_put_e (l : Launch) (g : gG) (J : Nat → Nat → Int32) (L : Nat → Nat → Int64) (I : Nat → Nat → Nat → Int32) (P : Nat → Nat → Nat → Option Nat) (E : Nat → Option Nat) (N : Nat → Nat) (dy : List (Nat × Nat)) (sz : Nat) (a0 : Int32) (hwf : WXF g J P E N dy) (hrl : 0 ≤ (J 12 11).toInt) : Met l yX11_put (WS yX11_put cX11_put 2 (some .int)) (RM (2) 0 0) (PC g [.ref (g.2.2.1 12), .int a0] ((J, L, I, P, E, N), sgX g ++ dy) sz) (va_Qi (fun (r : Int32) (u : (Nat → Nat → Int32)) => ((r.toInt = (-4) ∧ (a0.toInt < -32768) ∧ u 12 11 = J 12 11 ∧ u 41 = J 41) ∨ (r.toInt = (-6) ∧ (-32768 ≤ a0.toInt ∧ (32767 < a0.toInt ∨ 60 ≤ (J 12 11).toInt)) ∧ u 12 11 = J 12 11 ∧ u 41 = J 41) ∨ (r.toInt = (J 12 11).toInt + 1 ∧ (-32768 ≤ a0.toInt ∧ a0.toInt ≤ 32767 ∧ (J 12 11).toInt ≤ 59) ∧ (u 12 11).toInt = (J 12 11).toInt + 1 ∧ u 41 = up2 J 41 (J 12 11).toNatClampNeg a0 41)) ∧ (0 ≤ (u 12 11).toInt)) (fun u t => at_ g (FR g ((J, L, I, P, E, N), sgX g ++ dy) sz) (((hv J [41, 42] [(12, 11)] u), L, I, P, E, N), sgX g ++ dy) t) (FR g ((J, L, I, P, E, N), sgX g ++ dy) sz)) 0 0 (FR g ((J, L, I, P, E, N), sgX g ++ dy) sz) := by
  refine ent (by decide +kernel) (Nat.le_of_ble_eq_true rfl) ?_
  intro p e s m below meth c ls hsz C hW hr hlocks hname hl
  generalize FR g ((J, L, I, P, E, N), sgX g ++ dy) sz = A at C hW ⊢
  generalize hQ9 : (va_Qi (fun (r : Int32) (u : (Nat → Nat → Int32)) => ((r.toInt = (-4) ∧ (a0.toInt < -32768) ∧ u 12 11 = J 12 11 ∧ u 41 = J 41) ∨ (r.toInt = (-6) ∧ (-32768 ≤ a0.toInt ∧ (32767 < a0.toInt ∨ 60 ≤ (J 12 11).toInt)) ∧ u 12 11 = J 12 11 ∧ u 41 = J 41) ∨ (r.toInt = (J 12 11).toInt + 1 ∧ (-32768 ≤ a0.toInt ∧ a0.toInt ≤ 32767 ∧ (J 12 11).toInt ≤ 59) ∧ (u 12 11).toInt = (J 12 11).toInt + 1 ∧ u 41 = up2 J 41 (J 12 11).toNatClampNeg a0 41)) ∧ (0 ≤ (u 12 11).toInt)) (fun u t => at_ g A (((hv J [41, 42] [(12, 11)] u), L, I, P, E, N), sgX g ++ dy) t) A) = Q9
  have hx := C.1.1
  have hb := C.1.2.1
  have hts := C.1.2.2.2.2
  have hl : lv_has ls 2 [(0, .ref (g.2.2.1 12)), (1, .int a0)] := hl
  obtain ⟨H, hH⟩ : ∃ H : Heap, H = s.heap := ⟨_, rfl⟩
  obtain ⟨locs, hlocs⟩ : ∃ q : List Loc, q = [] := ⟨_, rfl⟩
  have hW : WB g A s.heap H locs (J, L, I, P, E, N) (sgX g ++ dy) := by rw [hH, hlocs]; exact hW
  refine start_ hH hlocs ?_
  refine lv_iload_n hx hb dX11_put_0 rfl (lv_at hl 1 rfl) ?_
  refine lv_sipush (v := (-32768)) hx hb dX11_put_1 (by decide) ?_
  refine lv_icmp_ge (tgt := 14) hx hb dX11_put_4 (by decide) (fun c1 => ?_) (fun c1 => ?_)
  · have c1 : (-32768) ≤ a0.toInt := tle kn32768 rfl c1
    refine lv_iload_n hx hb dX11_put_14 rfl (lv_at hl 1 rfl) ?_
    refine lv_sipush (v := 32767) hx hb dX11_put_15 (by decide) ?_
    refine lv_icmp_gt (tgt := 33) hx hb dX11_put_18 (by decide) (fun c2 => ?_) (fun c2 => ?_)
    · have c2 : 32767 < a0.toInt := tlt kp32767 rfl c2
      refine lv_aload_n hx hb dX11_put_33 rfl (lv_at hl 0 rfl) ?_
      refine lv_bipush (v := (-6)) hx hb dX11_put_34 (by decide) ?_
      refine ci_ C hW (runV (x := (g.2.2.1 12)) (As := [.int (-6)]) (rest := []) (T := ((J, L, I, P, E, N), sgX g ++ dy)) C hW (c_X11_refuse l g J L I P E N dy H.size (-6) hwf) mi_X11_refuse tw_411 (recv_ (T := ((J, L, I, P, E, N), sgX g ++ dy)) C hW (mx_ rfl) rfl rfl) ⟨rfl, rfl, Nat.le_of_ble_eq_true rfl, Nat.le_of_ble_eq_true rfl⟩ rfl hl.1 rfl (Nat.le_of_ble_eq_true rfl) dX11_put_36 ⟨Nat.le_of_ble_eq_true rfl, Nat.le_of_ble_eq_true rfl⟩) (fun r3 u3 H locs hp3 hW => ?_)
      have hc3 : ((r3 = (-6))) := hp3
      clear hp3
      have hr3 : r3.toInt = (-6) := by rw [hc3]; exact kn6
      have hW : WB g A s.heap H locs ((hv J [42] [] u3), L, I, P, E, N) (sgX g ++ dy) := hW
      have hWr : WB g A s.heap H locs ((hv J [41, 42] [(12, 11)] (hv J [42] [] u3)), L, I, P, E, N) (sgX g ++ dy) := by
        rw [← ag_hvE (J := J) (R := [41, 42]) (F := [(12, 11)]) (ag_hv rfl rfl ag_rf)]
        exact hW
      subst hQ9
      exact end_i C hr hlocks (hv J [42] [] u3) hWr ⟨by first | exact Or.inl ⟨by omega, by omega, show J 12 11 = J 12 11 from by first | rfl | assumption, show J 41 = J 41 from by first | rfl | assumption⟩ | exact Or.inr (Or.inl ⟨by omega, by omega, show J 12 11 = J 12 11 from by first | rfl | assumption, show J 41 = J 41 from by first | rfl | assumption⟩) | exact Or.inr (Or.inr (⟨by omega, by omega, show (J 12 11).toInt = (J 12 11).toInt + 1 from by first | rfl | omega, show J 41 = up2 J 41 (J 12 11).toNatClampNeg a0 41 from by first | rfl | omega⟩)), show 0 ≤ (J 12 11).toInt from by first | omega | decide | assumption⟩ dX11_put_39
    · have c2 : a0.toInt ≤ 32767 := tnlt kp32767 rfl c2
      refine lv_aload_n hx hb dX11_put_21 rfl (lv_at hl 0 rfl) ?_
      refine rg_12_11 C hW (mx_ rfl) tw_375 dX11_put_22 ?_
      refine lv_aload_n hx hb dX11_put_25 rfl (lv_at hl 0 rfl) ?_
      refine rg_12_8 C hW (mx_ rfl) tw_372 dX11_put_26 ?_
      refine rl_41 C hW (mx_ rfl) dX11_put_29 ?_
      refine lv_icmp_lt (tgt := 40) hx hb dX11_put_30 (by decide) (fun c4 => ?_) (fun c4 => ?_)
      · have c4 : (J 12 11).toInt < 60 := tlt rfl kp60 c4
        refine lv_aload_n hx hb dX11_put_40 rfl (lv_at hl 0 rfl) ?_
        refine rg_12_8 C hW (mx_ rfl) tw_372 dX11_put_41 ?_
        refine lv_aload_n hx hb dX11_put_44 rfl (lv_at hl 0 rfl) ?_
        refine rg_12_11 C hW (mx_ rfl) tw_375 dX11_put_45 ?_
        refine lv_iload_n hx hb dX11_put_48 rfl (lv_at hl 1 rfl) ?_
        have hin : vp_in (J 12 11) 60 := tin rfl (by omega)
        refine rs_41 C hW (mx_ rfl) hin dX11_put_49 (fun H locs hW => ?_)
        refine lv_aload_n hx hb dX11_put_50 rfl (lv_at hl 0 rfl) ?_
        refine lv_dup hx hb dX11_put_51 rfl ?_
        refine rg_12_11 C hW (mx_ rfl) tw_375 dX11_put_52 ?_
        refine lv_as (J 12 11) rfl ?_
        refine lv_iconst (v := 1) hx hb dX11_put_55 (by decide) ?_
        refine lv_iadd hx hb dX11_put_56 ?_
        refine lv_topi (fun x5 (e5 : x5 = (J 12 11) + 1) => ?_)
        try have t5 : x5.toInt = (J 12 11).toInt + 1 := tadd e5 rfl kp1 (by omega)
        refine rp_12_11 C hW (mx_ rfl) tw_375 dX11_put_57 (fun H locs hW => ?_)
        refine lv_aload_n hx hb dX11_put_60 rfl (lv_at hl 0 rfl) ?_
        refine rg_12_11 C hW (mx_ rfl) tw_375 dX11_put_61 ?_
        refine lv_as x5 rfl ?_
        have hWr : WB g A s.heap H locs ((hv J [41, 42] [(12, 11)] (up2 (up2 J 41 ((J 12 11).toNatClampNeg) a0) 12 11 x5)), L, I, P, E, N) (sgX g ++ dy) := by
          rw [← ag_hvE (J := J) (R := [41, 42]) (F := [(12, 11)]) (ag_up (Or.inr rfl) (ag_up (Or.inl rfl) ag_rf))]
          exact hW
        subst hQ9
        exact end_i C hr hlocks (up2 (up2 J 41 ((J 12 11).toNatClampNeg) a0) 12 11 x5) hWr ⟨by first | exact Or.inl ⟨by omega, by omega, show x5 = J 12 11 from by first | rfl | assumption, show (up2 J 41 ((J 12 11).toNatClampNeg) a0) 41 = J 41 from by first | rfl | assumption⟩ | exact Or.inr (Or.inl ⟨by omega, by omega, show x5 = J 12 11 from by first | rfl | assumption, show (up2 J 41 ((J 12 11).toNatClampNeg) a0) 41 = J 41 from by first | rfl | assumption⟩) | exact Or.inr (Or.inr (⟨by omega, by omega, show (x5).toInt = (J 12 11).toInt + 1 from by first | rfl | omega, show (up2 J 41 ((J 12 11).toNatClampNeg) a0) 41 = up2 J 41 (J 12 11).toNatClampNeg a0 41 from by first | rfl | omega⟩)), show 0 ≤ (x5).toInt from by first | omega | decide | assumption⟩ dX11_put_64
      · have c4 : 60 ≤ (J 12 11).toInt := tnlt rfl kp60 c4
        refine lv_aload_n hx hb dX11_put_33 rfl (lv_at hl 0 rfl) ?_
        refine lv_bipush (v := (-6)) hx hb dX11_put_34 (by decide) ?_
        refine ci_ C hW (runV (x := (g.2.2.1 12)) (As := [.int (-6)]) (rest := []) (T := ((J, L, I, P, E, N), sgX g ++ dy)) C hW (c_X11_refuse l g J L I P E N dy H.size (-6) hwf) mi_X11_refuse tw_411 (recv_ (T := ((J, L, I, P, E, N), sgX g ++ dy)) C hW (mx_ rfl) rfl rfl) ⟨rfl, rfl, Nat.le_of_ble_eq_true rfl, Nat.le_of_ble_eq_true rfl⟩ rfl hl.1 rfl (Nat.le_of_ble_eq_true rfl) dX11_put_36 ⟨Nat.le_of_ble_eq_true rfl, Nat.le_of_ble_eq_true rfl⟩) (fun r6 u6 H locs hp6 hW => ?_)
        have hc6 : ((r6 = (-6))) := hp6
        clear hp6
        have hr6 : r6.toInt = (-6) := by rw [hc6]; exact kn6
        have hW : WB g A s.heap H locs ((hv J [42] [] u6), L, I, P, E, N) (sgX g ++ dy) := hW
        have hWr : WB g A s.heap H locs ((hv J [41, 42] [(12, 11)] (hv J [42] [] u6)), L, I, P, E, N) (sgX g ++ dy) := by
          rw [← ag_hvE (J := J) (R := [41, 42]) (F := [(12, 11)]) (ag_hv rfl rfl ag_rf)]
          exact hW
        subst hQ9
        exact end_i C hr hlocks (hv J [42] [] u6) hWr ⟨by first | exact Or.inl ⟨by omega, by omega, show J 12 11 = J 12 11 from by first | rfl | assumption, show J 41 = J 41 from by first | rfl | assumption⟩ | exact Or.inr (Or.inl ⟨by omega, by omega, show J 12 11 = J 12 11 from by first | rfl | assumption, show J 41 = J 41 from by first | rfl | assumption⟩) | exact Or.inr (Or.inr (⟨by omega, by omega, show (J 12 11).toInt = (J 12 11).toInt + 1 from by first | rfl | omega, show J 41 = up2 J 41 (J 12 11).toNatClampNeg a0 41 from by first | rfl | omega⟩)), show 0 ≤ (J 12 11).toInt from by first | omega | decide | assumption⟩ dX11_put_39
  · have c1 : a0.toInt < (-32768) := tnle kn32768 rfl c1
    refine lv_aload_n hx hb dX11_put_7 rfl (lv_at hl 0 rfl) ?_
    refine lv_bipush (v := (-4)) hx hb dX11_put_8 (by decide) ?_
    refine ci_ C hW (runV (x := (g.2.2.1 12)) (As := [.int (-4)]) (rest := []) (T := ((J, L, I, P, E, N), sgX g ++ dy)) C hW (c_X11_refuse l g J L I P E N dy H.size (-4) hwf) mi_X11_refuse tw_411 (recv_ (T := ((J, L, I, P, E, N), sgX g ++ dy)) C hW (mx_ rfl) rfl rfl) ⟨rfl, rfl, Nat.le_of_ble_eq_true rfl, Nat.le_of_ble_eq_true rfl⟩ rfl hl.1 rfl (Nat.le_of_ble_eq_true rfl) dX11_put_10 ⟨Nat.le_of_ble_eq_true rfl, Nat.le_of_ble_eq_true rfl⟩) (fun r7 u7 H locs hp7 hW => ?_)
    have hc7 : ((r7 = (-4))) := hp7
    clear hp7
    have hr7 : r7.toInt = (-4) := by rw [hc7]; exact kn4
    have hW : WB g A s.heap H locs ((hv J [42] [] u7), L, I, P, E, N) (sgX g ++ dy) := hW
    have hWr : WB g A s.heap H locs ((hv J [41, 42] [(12, 11)] (hv J [42] [] u7)), L, I, P, E, N) (sgX g ++ dy) := by
      rw [← ag_hvE (J := J) (R := [41, 42]) (F := [(12, 11)]) (ag_hv rfl rfl ag_rf)]
      exact hW
    subst hQ9
    exact end_i C hr hlocks (hv J [42] [] u7) hWr ⟨by first | exact Or.inl ⟨by omega, by omega, show J 12 11 = J 12 11 from by first | rfl | assumption, show J 41 = J 41 from by first | rfl | assumption⟩ | exact Or.inr (Or.inl ⟨by omega, by omega, show J 12 11 = J 12 11 from by first | rfl | assumption, show J 41 = J 41 from by first | rfl | assumption⟩) | exact Or.inr (Or.inr (⟨by omega, by omega, show (J 12 11).toInt = (J 12 11).toInt + 1 from by first | rfl | omega, show J 41 = up2 J 41 (J 12 11).toNatClampNeg a0 41 from by first | rfl | omega⟩)), show 0 ≤ (J 12 11).toInt from by first | omega | decide | assumption⟩ dX11_put_13

set_option maxHeartbeats 4000000 in
set_option maxRecDepth 100000 in
theorem c_X11_judge_e (l : Launch) (g : gG) (J : Nat → Nat → Int32) (L : Nat → Nat → Int64) (I : Nat → Nat → Nat → Int32) (P : Nat → Nat → Nat → Option Nat) (E : Nat → Option Nat) (N : Nat → Nat) (dy : List (Nat × Nat)) (sz : Nat)  (hwf : WXF g J P E N dy) (hrl : 0 ≤ (J 12 11).toInt) : Met l yX11_judge (WS yX11_judge cX11_judge 4 (some .int)) (RM (1) 0 0) (PC g [.ref (g.2.2.1 12)] ((J, L, I, P, E, N), sgX g ++ dy) sz) (va_Qi (fun (r : Int32) (u : (Nat → Nat → Int32)) => (0 ≤ (u 12 11).toInt) ∧ ((u 12 11).toInt = 0) ∧ (JDG (J 41) (J 12 11).toInt r.toInt)) (fun u t => at_ g (FR g ((J, L, I, P, E, N), sgX g ++ dy) sz) (((hv J [] [(12, 11)] u), L, I, P, E, N), sgX g ++ dy) t) (FR g ((J, L, I, P, E, N), sgX g ++ dy) sz)) 0 0 (FR g ((J, L, I, P, E, N), sgX g ++ dy) sz) := by
  refine ent (by decide +kernel) (Nat.le_of_ble_eq_true rfl) ?_
  intro p e s m below meth c ls hsz C hW hr hlocks hname hl
  generalize FR g ((J, L, I, P, E, N), sgX g ++ dy) sz = A at C hW ⊢
  generalize hQ9 : (va_Qi (fun (r : Int32) (u : (Nat → Nat → Int32)) => (0 ≤ (u 12 11).toInt) ∧ ((u 12 11).toInt = 0) ∧ (JDG (J 41) (J 12 11).toInt r.toInt)) (fun u t => at_ g A (((hv J [] [(12, 11)] u), L, I, P, E, N), sgX g ++ dy) t) A) = Q9
  have hx := C.1.1
  have hb := C.1.2.1
  have hts := C.1.2.2.2.2
  have hl : lv_has ls 4 [(0, .ref (g.2.2.1 12))] := hl
  obtain ⟨H, hH⟩ : ∃ H : Heap, H = s.heap := ⟨_, rfl⟩
  obtain ⟨locs, hlocs⟩ : ∃ q : List Loc, q = [] := ⟨_, rfl⟩
  have hW : WB g A s.heap H locs (J, L, I, P, E, N) (sgX g ++ dy) := by rw [hH, hlocs]; exact hW
  refine start_ hH hlocs ?_
  refine lv_aload_n hx hb dX11_judge_0 rfl (lv_at hl 0 rfl) ?_
  refine rg_12_11 C hW (mx_ rfl) tw_375 dX11_judge_1 ?_
  refine lv_istore_n (lv' := [(1, .int (J 12 11)), (0, .ref (g.2.2.1 12))]) hx hb dX11_judge_4 rfl hl (by decide) rfl (fun ls hl => ?_)
  refine lv_aload_n hx hb dX11_judge_5 rfl (lv_at hl 1 rfl) ?_
  refine lv_iconst (v := 0) hx hb dX11_judge_6 (by decide) ?_
  refine rp_12_11 C hW (mx_ rfl) tw_375 dX11_judge_7 (fun H locs hW => ?_)
  refine lv_iconst (v := 0) hx hb dX11_judge_10 (by decide) ?_
  refine lv_istore_n (lv' := [(2, .int 0), (1, .int (J 12 11)), (0, .ref (g.2.2.1 12))]) hx hb dX11_judge_11 rfl hl (by decide) rfl (fun ls hl => ?_)
  have loop12 : ∀ (n : Nat) (m2 : Int32) (H : Heap) (locs : List Loc) (ls : Array Slot), (5 - m2.toInt).toNat < n → 0 ≤ m2.toInt ∧ m2.toInt ≤ 5 → (∀ j : Nat, (j : Int) < m2.toInt → ¬ JBAD (J 41) (J 12 11).toInt j) → WB g A s.heap H locs ((up2 J 12 11 0), L, I, P, E, N) (sgX g ++ dy) → lv_has ls 4 [(2, .int m2), (1, .int (J 12 11)), (0, .ref (g.2.2.1 12))] → W p l e (RM (1) 0 0) s m ([.ref (g.2.2.1 12)] : List Value).toArray below meth c H locs 0 0 (MQ below Q9 ([.ref (g.2.2.1 12)] : List Value).toArray s 0 0 A) (F0 m 12 ls []) := by
    intro n
    induction n with
    | zero => intro m2 H locs ls hmeas; exact absurd hmeas (Nat.not_lt_zero _)
    | succ n ih =>
      intro m2 H locs ls hmeas hi hno hW hl
      refine lv_iload_n hx hb dX11_judge_12 rfl (lv_at hl 0 rfl) ?_
      refine lv_iconst (v := 5) hx hb dX11_judge_13 (by decide) ?_
      refine lv_icmp_ge (tgt := 74) hx hb dX11_judge_14 (by decide) (fun c1 => ?_) (fun c1 => ?_)
      · have c1 : 5 ≤ m2.toInt := tle kp5 rfl c1
        refine lv_iload_n hx hb dX11_judge_74 rfl (lv_at hl 1 rfl) ?_
        refine lv_iconst (v := 5) hx hb dX11_judge_75 (by decide) ?_
        refine lv_icmp_le (tgt := 83) hx hb dX11_judge_76 (by decide) (fun c2 => ?_) (fun c2 => ?_)
        · have c2 : (J 12 11).toInt ≤ 5 := tle rfl kp5 c2
          refine lv_bipush (v := (-9)) hx hb dX11_judge_83 (by decide) ?_
          have hWr : WB g A s.heap H locs ((hv J [] [(12, 11)] (up2 J 12 11 0)), L, I, P, E, N) (sgX g ++ dy) := by
            rw [← ag_hvE (J := J) (R := []) (F := [(12, 11)]) (ag_up (Or.inr rfl) ag_rf)]
            exact hW
          subst hQ9
          exact end_i C hr hlocks (up2 J 12 11 0) hWr ⟨show 0 ≤ ((0 : Int32)).toInt from by first | omega | decide | assumption, show ((0 : Int32)).toInt = 0 from by exact kp0, show JDG (J 41) (J 12 11).toInt (-9) from by exact Or.inr ⟨fun j hj => hno j (by omega), Or.inr ⟨by omega, rfl⟩⟩⟩ dX11_judge_85
        · have c2 : 5 < (J 12 11).toInt := tnle rfl kp5 c2
          refine lv_iconst (v := 5) hx hb dX11_judge_79 (by decide) ?_
          refine lv_goto (tgt := 85) hx hb dX11_judge_80 (by decide) ?_
          have hWr : WB g A s.heap H locs ((hv J [] [(12, 11)] (up2 J 12 11 0)), L, I, P, E, N) (sgX g ++ dy) := by
            rw [← ag_hvE (J := J) (R := []) (F := [(12, 11)]) (ag_up (Or.inr rfl) ag_rf)]
            exact hW
          subst hQ9
          exact end_i C hr hlocks (up2 J 12 11 0) hWr ⟨show 0 ≤ ((0 : Int32)).toInt from by first | omega | decide | assumption, show ((0 : Int32)).toInt = 0 from by exact kp0, show JDG (J 41) (J 12 11).toInt 5 from by exact Or.inr ⟨fun j hj => hno j (by omega), Or.inl ⟨by omega, rfl⟩⟩⟩ dX11_judge_85
      · have c1 : m2.toInt < 5 := tnle kp5 rfl c1
        refine lv_iload_n hx hb dX11_judge_17 rfl (lv_at hl 0 rfl) ?_
        refine lv_iload_n hx hb dX11_judge_18 rfl (lv_at hl 1 rfl) ?_
        refine lv_icmp_ge (tgt := 31) hx hb dX11_judge_19 (by decide) (fun c3 => ?_) (fun c3 => ?_)
        · have c3 : (J 12 11).toInt ≤ m2.toInt := tle rfl rfl c3
          refine lv_iload_n hx hb dX11_judge_31 rfl (lv_at hl 0 rfl) ?_
          have hWr : WB g A s.heap H locs ((hv J [] [(12, 11)] (up2 J 12 11 0)), L, I, P, E, N) (sgX g ++ dy) := by
            rw [← ag_hvE (J := J) (R := []) (F := [(12, 11)]) (ag_up (Or.inr rfl) ag_rf)]
            exact hW
          subst hQ9
          exact end_i C hr hlocks (up2 J 12 11 0) hWr ⟨show 0 ≤ ((0 : Int32)).toInt from by first | omega | decide | assumption, show ((0 : Int32)).toInt = 0 from by exact kp0, show JDG (J 41) (J 12 11).toInt m2.toInt from by first | exact Or.inl ⟨m2.toNatClampNeg, (by have h8 := tcl m2; omega), (by have h8 := tcl m2; omega), Or.inl (by have h8 := tcl m2; omega), fun j hj => hno j (by have h8 := tcl m2; omega)⟩ | exact Or.inl ⟨m2.toNatClampNeg, (by have h8 := tcl m2; omega), (by have h8 := tcl m2; omega), Or.inr (Or.inl (by omega)), fun j hj => hno j (by have h8 := tcl m2; omega)⟩ | exact Or.inl ⟨m2.toNatClampNeg, (by have h8 := tcl m2; omega), (by have h8 := tcl m2; omega), Or.inr (Or.inr (Or.inl (by omega))), fun j hj => hno j (by have h8 := tcl m2; omega)⟩ | exact Or.inl ⟨m2.toNatClampNeg, (by have h8 := tcl m2; omega), (by have h8 := tcl m2; omega), (by rcases Int.lt_or_le (J 41 m2.toNatClampNeg).toInt 0 with q | q; exact Or.inr (Or.inl q); exact Or.inr (Or.inr (Or.inl (by omega)))), fun j hj => hno j (by have h8 := tcl m2; omega)⟩⟩ dX11_judge_32
        · have c3 : m2.toInt < (J 12 11).toInt := tnle rfl rfl c3
          refine lv_iload_n hx hb dX11_judge_22 rfl (lv_at hl 0 rfl) ?_
          refine lv_aload_n hx hb dX11_judge_23 rfl (lv_at hl 2 rfl) ?_
          refine rg_12_8 C hW (mx_ rfl) tw_372 dX11_judge_24 ?_
          refine rl_41 C hW (mx_ rfl) dX11_judge_27 ?_
          refine lv_icmp_lt (tgt := 33) hx hb dX11_judge_28 (by decide) (fun c4 => ?_) (fun c4 => ?_)
          · have c4 : m2.toInt < 60 := tlt rfl kp60 c4
            refine lv_aload_n hx hb dX11_judge_33 rfl (lv_at hl 2 rfl) ?_
            refine rg_12_8 C hW (mx_ rfl) tw_372 dX11_judge_34 ?_
            refine lv_iload_n hx hb dX11_judge_37 rfl (lv_at hl 0 rfl) ?_
            have hin : vp_in m2 60 := tin rfl (by omega)
            refine ra_41 C hW (mx_ rfl) hin dX11_judge_38 ?_
            refine lv_topi (fun x5 (e5 : x5 = J 41 m2.toNatClampNeg) => ?_)
            have t5 : x5.toInt = (J 41 m2.toNatClampNeg).toInt := by rw [e5]
            refine lv_istore_n (lv' := [(3, .int x5), (2, .int m2), (1, .int (J 12 11)), (0, .ref (g.2.2.1 12))]) hx hb dX11_judge_39 rfl hl (by decide) rfl (fun ls hl => ?_)
            refine lv_iload_n hx hb dX11_judge_40 rfl (lv_at hl 0 rfl) ?_
            refine lv_if_lt (tgt := 66) hx hb dX11_judge_41 (by decide) (fun c6 => ?_) (fun c6 => ?_)
            · have c6 : x5.toInt < 0 := tlt rfl kp0 c6
              refine lv_iload_n hx hb dX11_judge_66 rfl (lv_at hl 1 rfl) ?_
              have hWr : WB g A s.heap H locs ((hv J [] [(12, 11)] (up2 J 12 11 0)), L, I, P, E, N) (sgX g ++ dy) := by
                rw [← ag_hvE (J := J) (R := []) (F := [(12, 11)]) (ag_up (Or.inr rfl) ag_rf)]
                exact hW
              subst hQ9
              exact end_i C hr hlocks (up2 J 12 11 0) hWr ⟨show 0 ≤ ((0 : Int32)).toInt from by first | omega | decide | assumption, show ((0 : Int32)).toInt = 0 from by exact kp0, show JDG (J 41) (J 12 11).toInt m2.toInt from by first | exact Or.inl ⟨m2.toNatClampNeg, (by have h8 := tcl m2; omega), (by have h8 := tcl m2; omega), Or.inl (by have h8 := tcl m2; omega), fun j hj => hno j (by have h8 := tcl m2; omega)⟩ | exact Or.inl ⟨m2.toNatClampNeg, (by have h8 := tcl m2; omega), (by have h8 := tcl m2; omega), Or.inr (Or.inl (by omega)), fun j hj => hno j (by have h8 := tcl m2; omega)⟩ | exact Or.inl ⟨m2.toNatClampNeg, (by have h8 := tcl m2; omega), (by have h8 := tcl m2; omega), Or.inr (Or.inr (Or.inl (by omega))), fun j hj => hno j (by have h8 := tcl m2; omega)⟩ | exact Or.inl ⟨m2.toNatClampNeg, (by have h8 := tcl m2; omega), (by have h8 := tcl m2; omega), (by rcases Int.lt_or_le (J 41 m2.toNatClampNeg).toInt 0 with q | q; exact Or.inr (Or.inl q); exact Or.inr (Or.inr (Or.inl (by omega)))), fun j hj => hno j (by have h8 := tcl m2; omega)⟩⟩ dX11_judge_67
            · have c6 : 0 ≤ x5.toInt := tnlt rfl kp0 c6
              refine lv_iload_n hx hb dX11_judge_44 rfl (lv_at hl 0 rfl) ?_
              refine lv_bipush (v := 9) hx hb dX11_judge_45 (by decide) ?_
              refine lv_icmp_gt (tgt := 66) hx hb dX11_judge_47 (by decide) (fun c7 => ?_) (fun c7 => ?_)
              · have c7 : 9 < x5.toInt := tlt kp9 rfl c7
                refine lv_iload_n hx hb dX11_judge_66 rfl (lv_at hl 1 rfl) ?_
                have hWr : WB g A s.heap H locs ((hv J [] [(12, 11)] (up2 J 12 11 0)), L, I, P, E, N) (sgX g ++ dy) := by
                  rw [← ag_hvE (J := J) (R := []) (F := [(12, 11)]) (ag_up (Or.inr rfl) ag_rf)]
                  exact hW
                subst hQ9
                exact end_i C hr hlocks (up2 J 12 11 0) hWr ⟨show 0 ≤ ((0 : Int32)).toInt from by first | omega | decide | assumption, show ((0 : Int32)).toInt = 0 from by exact kp0, show JDG (J 41) (J 12 11).toInt m2.toInt from by first | exact Or.inl ⟨m2.toNatClampNeg, (by have h8 := tcl m2; omega), (by have h8 := tcl m2; omega), Or.inl (by have h8 := tcl m2; omega), fun j hj => hno j (by have h8 := tcl m2; omega)⟩ | exact Or.inl ⟨m2.toNatClampNeg, (by have h8 := tcl m2; omega), (by have h8 := tcl m2; omega), Or.inr (Or.inl (by omega)), fun j hj => hno j (by have h8 := tcl m2; omega)⟩ | exact Or.inl ⟨m2.toNatClampNeg, (by have h8 := tcl m2; omega), (by have h8 := tcl m2; omega), Or.inr (Or.inr (Or.inl (by omega))), fun j hj => hno j (by have h8 := tcl m2; omega)⟩ | exact Or.inl ⟨m2.toNatClampNeg, (by have h8 := tcl m2; omega), (by have h8 := tcl m2; omega), (by rcases Int.lt_or_le (J 41 m2.toNatClampNeg).toInt 0 with q | q; exact Or.inr (Or.inl q); exact Or.inr (Or.inr (Or.inl (by omega)))), fun j hj => hno j (by have h8 := tcl m2; omega)⟩⟩ dX11_judge_67
              · have c7 : x5.toInt ≤ 9 := tnlt kp9 rfl c7
                refine lv_iload_n hx hb dX11_judge_50 rfl (lv_at hl 1 rfl) ?_
                refine lv_if_le (tgt := 68) hx hb dX11_judge_51 (by decide) (fun c8 => ?_) (fun c8 => ?_)
                · have c8 : m2.toInt ≤ 0 := tle rfl kp0 c8
                  obtain ⟨x9, e9⟩ : ∃ y : Int32, y = m2 + 1 := ⟨_, rfl⟩
                  refine lv_iinc (v := x9) (lv' := [(2, .int x9), (3, .int x5), (1, .int (J 12 11)), (0, .ref (g.2.2.1 12))]) hx hb dX11_judge_68 hl (k := 1) rfl (by rw [e9]; rfl) (by decide) rfl (fun ls hl => ?_)
                  try have t9 : x9.toInt = m2.toInt + 1 := tadd e9 rfl kp1 (by omega)
                  refine lv_goto (tgt := 12) hx hb dX11_judge_71 (by decide) ?_
                  refine ih x9 H locs ls ?_ ?_ ?_ hW (lv_sub hl [0, 2, 3] rfl)
                  · show (5 - x9.toInt).toNat < n
                    omega
                  · show 0 ≤ x9.toInt ∧ x9.toInt ≤ 5
                    first | omega | exact hi | assumption
                  · show ∀ j : Nat, (j : Int) < x9.toInt → ¬ JBAD (J 41) (J 12 11).toInt j
                    first | exact jb_s (c := m2.toNatClampNeg) hno (by have h8 := tcl m2; omega) (by omega) (by have h8 := tcl m2; omega) (by omega) (by omega) (Or.inl (by have h8 := tcl m2; omega))
                · have c8 : 0 < m2.toInt := tnle rfl kp0 c8
                  refine lv_aload_n hx hb dX11_judge_54 rfl (lv_at hl 3 rfl) ?_
                  refine rg_12_8 C hW (mx_ rfl) tw_372 dX11_judge_55 ?_
                  refine lv_iload_n hx hb dX11_judge_58 rfl (lv_at hl 1 rfl) ?_
                  refine lv_iconst (v := 1) hx hb dX11_judge_59 (by decide) ?_
                  refine lv_isub hx hb dX11_judge_60 ?_
                  refine lv_topi (fun x10 (e10 : x10 = m2 - 1) => ?_)
                  try have t10 : x10.toInt = m2.toInt - 1 := tsub e10 rfl kp1 (by omega)
                  have hin : vp_in x10 60 := tin rfl (by omega)
                  refine ra_41 C hW (mx_ rfl) hin dX11_judge_61 ?_
                  refine lv_topi (fun x11 (e11 : x11 = J 41 x10.toNatClampNeg) => ?_)
                  have t11 : x11.toInt = (J 41 x10.toNatClampNeg).toInt := by rw [e11]
                  refine lv_iload_n hx hb dX11_judge_62 rfl (lv_at hl 0 rfl) ?_
                  refine lv_icmp_ne (tgt := 68) hx hb dX11_judge_63 (by decide) (fun c12 => ?_) (fun c12 => ?_)
                  · have c12 : ¬ x11.toInt = x5.toInt := tne rfl rfl c12
                    obtain ⟨x13, e13⟩ : ∃ y : Int32, y = m2 + 1 := ⟨_, rfl⟩
                    refine lv_iinc (v := x13) (lv' := [(2, .int x13), (3, .int x5), (1, .int (J 12 11)), (0, .ref (g.2.2.1 12))]) hx hb dX11_judge_68 hl (k := 1) rfl (by rw [e13]; rfl) (by decide) rfl (fun ls hl => ?_)
                    try have t13 : x13.toInt = m2.toInt + 1 := tadd e13 rfl kp1 (by omega)
                    refine lv_goto (tgt := 12) hx hb dX11_judge_71 (by decide) ?_
                    refine ih x13 H locs ls ?_ ?_ ?_ hW (lv_sub hl [0, 2, 3] rfl)
                    · show (5 - x13.toInt).toNat < n
                      omega
                    · show 0 ≤ x13.toInt ∧ x13.toInt ≤ 5
                      first | omega | exact hi | assumption
                    · show ∀ j : Nat, (j : Int) < x13.toInt → ¬ JBAD (J 41) (J 12 11).toInt j
                      first | exact jb_s (c := m2.toNatClampNeg) hno (by have h8 := tcl m2; omega) (by omega) (by have h8 := tcl m2; omega) (by omega) (by omega) (Or.inl (by have h8 := tcl m2; omega)) | exact jb_s (c := m2.toNatClampNeg) hno (by have h8 := tcl m2; omega) (by omega) (by have h8 := tcl m2; omega) (by omega) (by omega) (Or.inr (by rw [show m2.toNatClampNeg - 1 = x10.toNatClampNeg by (have h8 := tcl m2; have h9 := tcl x10; omega)]; omega))
                  · have c12 : x11.toInt = x5.toInt := teq rfl rfl c12
                    refine lv_iload_n hx hb dX11_judge_66 rfl (lv_at hl 1 rfl) ?_
                    have hWr : WB g A s.heap H locs ((hv J [] [(12, 11)] (up2 J 12 11 0)), L, I, P, E, N) (sgX g ++ dy) := by
                      rw [← ag_hvE (J := J) (R := []) (F := [(12, 11)]) (ag_up (Or.inr rfl) ag_rf)]
                      exact hW
                    subst hQ9
                    exact end_i C hr hlocks (up2 J 12 11 0) hWr ⟨show 0 ≤ ((0 : Int32)).toInt from by first | omega | decide | assumption, show ((0 : Int32)).toInt = 0 from by exact kp0, show JDG (J 41) (J 12 11).toInt m2.toInt from by first | exact Or.inl ⟨m2.toNatClampNeg, (by have h8 := tcl m2; omega), (by have h8 := tcl m2; omega), Or.inl (by have h8 := tcl m2; omega), fun j hj => hno j (by have h8 := tcl m2; omega)⟩ | exact Or.inl ⟨m2.toNatClampNeg, (by have h8 := tcl m2; omega), (by have h8 := tcl m2; omega), Or.inr (Or.inl (by omega)), fun j hj => hno j (by have h8 := tcl m2; omega)⟩ | exact Or.inl ⟨m2.toNatClampNeg, (by have h8 := tcl m2; omega), (by have h8 := tcl m2; omega), Or.inr (Or.inr (Or.inl (by omega))), fun j hj => hno j (by have h8 := tcl m2; omega)⟩ | exact Or.inl ⟨m2.toNatClampNeg, (by have h8 := tcl m2; omega), (by have h8 := tcl m2; omega), (by rcases Int.lt_or_le (J 41 m2.toNatClampNeg).toInt 0 with q | q; exact Or.inr (Or.inl q); exact Or.inr (Or.inr (Or.inl (by omega)))), fun j hj => hno j (by have h8 := tcl m2; omega)⟩ | exact Or.inl ⟨m2.toNatClampNeg, (by have h8 := tcl m2; omega), (by have h8 := tcl m2; omega), Or.inr (Or.inr (Or.inr ⟨(by have h8 := tcl m2; omega), (by rw [show m2.toNatClampNeg - 1 = x10.toNatClampNeg by (have h8 := tcl m2; have h9 := tcl x10; omega)]; omega)⟩)), fun j hj => hno j (by have h8 := tcl m2; omega)⟩⟩ dX11_judge_67
          · have c4 : 60 ≤ m2.toInt := tnlt rfl kp60 c4
            exfalso; omega
  -- into the loop
  refine loop12 ((5 - (0 : Int32).toInt).toNat + 1) 0 H locs ls ?_ ?_ ?_ hW (lv_sub hl [0, 1, 2] rfl)
  · exact Nat.lt_succ_self _
  · show 0 ≤ (0 : Int32).toInt ∧ (0 : Int32).toInt ≤ 5
    try rw [kp0]
    first | omega | exact hi | assumption
  · show ∀ j : Nat, (j : Int) < (0 : Int32).toInt → ¬ JBAD (J 41) (J 12 11).toInt j
    try rw [kp0]
    exact jb_0 kp0

set_option maxHeartbeats 4000000 in
set_option maxRecDepth 100000 in
theorem c_X11_check_e (l : Launch) (g : gG) (J : Nat → Nat → Int32) (L : Nat → Nat → Int64) (I : Nat → Nat → Nat → Int32) (P : Nat → Nat → Nat → Option Nat) (E : Nat → Option Nat) (N : Nat → Nat) (dy : List (Nat × Nat)) (sz : Nat) (a0 : Int32) (hwf : WXF g J P E N dy) (hrl : 0 ≤ (J 12 11).toInt) (hrl2 : (J 12 11).toInt ≤ 60) (hspr : SPR I E P (J 27 2).toInt (J 3 1).toInt (J 116) (J 117) (J 118) (J 119) (J 120)) (hnw : 0 ≤ (J 3 1).toInt ∧ (J 3 1).toInt ≤ 9999) : Met l yX11_check (WS yX11_check cX11_check 5 (some .int)) (RM (5) 0 0) (PC g [.ref (g.2.2.1 12), .int a0] ((J, L, I, P, E, N), sgX g ++ dy) sz) (va_Qi (fun (r : Int32) (u : (Nat → Nat → Int32)) => ((r.toInt = (-1) ∧ (¬ (0 ≤ a0.toInt ∧ a0.toInt < (J 3 1).toInt ∧ (J 12 11).toInt ≤ (J 3 1).toInt - a0.toInt)) ∧ u 12 11 = J 12 11 ∧ u 41 = J 41) ∨ (r = r ∧ (0 ≤ a0.toInt ∧ a0.toInt < (J 3 1).toInt ∧ (J 12 11).toInt ≤ (J 3 1).toInt - a0.toInt) ∧ (u 12 11).toInt = 0 ∧ u 41 = J 41 ∧ CHK (J 41) (J 116) a0.toInt (J 12 11).toInt r.toInt)) ∧ (0 ≤ (u 12 11).toInt)) (fun u t => at_ g (FR g ((J, L, I, P, E, N), sgX g ++ dy) sz) (((hv J [42] [(12, 11)] u), L, I, P, E, N), sgX g ++ dy) t) (FR g ((J, L, I, P, E, N), sgX g ++ dy) sz)) 0 0 (FR g ((J, L, I, P, E, N), sgX g ++ dy) sz) := by
  refine ent (by decide +kernel) (Nat.le_of_ble_eq_true rfl) ?_
  intro p e s m below meth c ls hsz C hW hr hlocks hname hl
  generalize FR g ((J, L, I, P, E, N), sgX g ++ dy) sz = A at C hW ⊢
  generalize hQ9 : (va_Qi (fun (r : Int32) (u : (Nat → Nat → Int32)) => ((r.toInt = (-1) ∧ (¬ (0 ≤ a0.toInt ∧ a0.toInt < (J 3 1).toInt ∧ (J 12 11).toInt ≤ (J 3 1).toInt - a0.toInt)) ∧ u 12 11 = J 12 11 ∧ u 41 = J 41) ∨ (r = r ∧ (0 ≤ a0.toInt ∧ a0.toInt < (J 3 1).toInt ∧ (J 12 11).toInt ≤ (J 3 1).toInt - a0.toInt) ∧ (u 12 11).toInt = 0 ∧ u 41 = J 41 ∧ CHK (J 41) (J 116) a0.toInt (J 12 11).toInt r.toInt)) ∧ (0 ≤ (u 12 11).toInt)) (fun u t => at_ g A (((hv J [42] [(12, 11)] u), L, I, P, E, N), sgX g ++ dy) t) A) = Q9
  have hx := C.1.1
  have hb := C.1.2.1
  have hts := C.1.2.2.2.2
  have hl : lv_has ls 5 [(0, .ref (g.2.2.1 12)), (1, .int a0)] := hl
  obtain ⟨H, hH⟩ : ∃ H : Heap, H = s.heap := ⟨_, rfl⟩
  obtain ⟨locs, hlocs⟩ : ∃ q : List Loc, q = [] := ⟨_, rfl⟩
  have hW : WB g A s.heap H locs (J, L, I, P, E, N) (sgX g ++ dy) := by rw [hH, hlocs]; exact hW
  refine start_ hH hlocs ?_
  refine lv_iload_n hx hb dX11_check_0 rfl (lv_at hl 1 rfl) ?_
  refine lv_if_lt (tgt := 31) hx hb dX11_check_1 (by decide) (fun c1 => ?_) (fun c1 => ?_)
  · have c1 : a0.toInt < 0 := tlt rfl kp0 c1
    refine lv_aload_n hx hb dX11_check_31 rfl (lv_at hl 0 rfl) ?_
    refine lv_iconst (v := (-1)) hx hb dX11_check_32 (by decide) ?_
    refine ci_ C hW (runV (x := (g.2.2.1 12)) (As := [.int (-1)]) (rest := []) (T := ((J, L, I, P, E, N), sgX g ++ dy)) C hW (c_X11_refuse l g J L I P E N dy H.size (-1) hwf) mi_X11_refuse tw_411 (recv_ (T := ((J, L, I, P, E, N), sgX g ++ dy)) C hW (mx_ rfl) rfl rfl) ⟨rfl, rfl, Nat.le_of_ble_eq_true rfl, Nat.le_of_ble_eq_true rfl⟩ rfl hl.1 rfl (Nat.le_of_ble_eq_true rfl) dX11_check_33 ⟨Nat.le_of_ble_eq_true rfl, Nat.le_of_ble_eq_true rfl⟩) (fun r2 u2 H locs hp2 hW => ?_)
    have hc2 : ((r2 = (-1))) := hp2
    clear hp2
    have hr2 : r2.toInt = (-1) := by rw [hc2]; exact kn1
    have hW : WB g A s.heap H locs ((hv J [42] [] u2), L, I, P, E, N) (sgX g ++ dy) := hW
    have hWr : WB g A s.heap H locs ((hv J [42] [(12, 11)] (hv J [42] [] u2)), L, I, P, E, N) (sgX g ++ dy) := by
      rw [← ag_hvE (J := J) (R := [42]) (F := [(12, 11)]) (ag_hv rfl rfl ag_rf)]
      exact hW
    subst hQ9
    exact end_i C hr hlocks (hv J [42] [] u2) hWr ⟨by first | exact Or.inl ⟨by omega, by omega, show J 12 11 = J 12 11 from by first | rfl | assumption, show J 41 = J 41 from by first | rfl | assumption⟩, show 0 ≤ (J 12 11).toInt from by first | omega | decide | assumption⟩ dX11_check_36
  · have c1 : 0 ≤ a0.toInt := tnlt rfl kp0 c1
    refine lv_iload_n hx hb dX11_check_4 rfl (lv_at hl 1 rfl) ?_
    refine lv_aload_n hx hb dX11_check_5 rfl (lv_at hl 0 rfl) ?_
    refine rg_12_1 C hW (mx_ rfl) tw_365 dX11_check_6 ?_
    refine rg_3_1 C hW (mx_ rfl) tw_278 dX11_check_9 ?_
    refine lv_icmp_ge (tgt := 31) hx hb dX11_check_12 (by decide) (fun c3 => ?_) (fun c3 => ?_)
    · have c3 : (J 3 1).toInt ≤ a0.toInt := tle rfl rfl c3
      refine lv_aload_n hx hb dX11_check_31 rfl (lv_at hl 0 rfl) ?_
      refine lv_iconst (v := (-1)) hx hb dX11_check_32 (by decide) ?_
      refine ci_ C hW (runV (x := (g.2.2.1 12)) (As := [.int (-1)]) (rest := []) (T := ((J, L, I, P, E, N), sgX g ++ dy)) C hW (c_X11_refuse l g J L I P E N dy H.size (-1) hwf) mi_X11_refuse tw_411 (recv_ (T := ((J, L, I, P, E, N), sgX g ++ dy)) C hW (mx_ rfl) rfl rfl) ⟨rfl, rfl, Nat.le_of_ble_eq_true rfl, Nat.le_of_ble_eq_true rfl⟩ rfl hl.1 rfl (Nat.le_of_ble_eq_true rfl) dX11_check_33 ⟨Nat.le_of_ble_eq_true rfl, Nat.le_of_ble_eq_true rfl⟩) (fun r4 u4 H locs hp4 hW => ?_)
      have hc4 : ((r4 = (-1))) := hp4
      clear hp4
      have hr4 : r4.toInt = (-1) := by rw [hc4]; exact kn1
      have hW : WB g A s.heap H locs ((hv J [42] [] u4), L, I, P, E, N) (sgX g ++ dy) := hW
      have hWr : WB g A s.heap H locs ((hv J [42] [(12, 11)] (hv J [42] [] u4)), L, I, P, E, N) (sgX g ++ dy) := by
        rw [← ag_hvE (J := J) (R := [42]) (F := [(12, 11)]) (ag_hv rfl rfl ag_rf)]
        exact hW
      subst hQ9
      exact end_i C hr hlocks (hv J [42] [] u4) hWr ⟨by first | exact Or.inl ⟨by omega, by omega, show J 12 11 = J 12 11 from by first | rfl | assumption, show J 41 = J 41 from by first | rfl | assumption⟩, show 0 ≤ (J 12 11).toInt from by first | omega | decide | assumption⟩ dX11_check_36
    · have c3 : a0.toInt < (J 3 1).toInt := tnle rfl rfl c3
      refine lv_aload_n hx hb dX11_check_15 rfl (lv_at hl 0 rfl) ?_
      refine rg_12_11 C hW (mx_ rfl) tw_375 dX11_check_16 ?_
      refine lv_aload_n hx hb dX11_check_19 rfl (lv_at hl 0 rfl) ?_
      refine rg_12_1 C hW (mx_ rfl) tw_365 dX11_check_20 ?_
      refine rg_3_1 C hW (mx_ rfl) tw_278 dX11_check_23 ?_
      refine lv_iload_n hx hb dX11_check_26 rfl (lv_at hl 1 rfl) ?_
      refine lv_isub hx hb dX11_check_27 ?_
      refine lv_topi (fun x5 (e5 : x5 = (J 3 1) - a0) => ?_)
      try have t5 : x5.toInt = (J 3 1).toInt - a0.toInt := tsub e5 rfl rfl (by omega)
      refine lv_icmp_le (tgt := 37) hx hb dX11_check_28 (by decide) (fun c6 => ?_) (fun c6 => ?_)
      · have c6 : (J 12 11).toInt ≤ x5.toInt := tle rfl rfl c6
        refine lv_aload_n hx hb dX11_check_37 rfl (lv_at hl 0 rfl) ?_
        refine rg_12_11 C hW (mx_ rfl) tw_375 dX11_check_38 ?_
        refine lv_istore_n (lv' := [(2, .int (J 12 11)), (0, .ref (g.2.2.1 12)), (1, .int a0)]) hx hb dX11_check_41 rfl hl (by decide) rfl (fun ls hl => ?_)
        refine lv_aload_n hx hb dX11_check_42 rfl (lv_at hl 1 rfl) ?_
        refine lv_iconst (v := 0) hx hb dX11_check_43 (by decide) ?_
        refine rp_12_11 C hW (mx_ rfl) tw_375 dX11_check_44 (fun H locs hW => ?_)
        refine lv_iconst (v := 0) hx hb dX11_check_47 (by decide) ?_
        refine lv_istore_n (lv' := [(3, .int 0), (2, .int (J 12 11)), (0, .ref (g.2.2.1 12)), (1, .int a0)]) hx hb dX11_check_48 rfl hl (by decide) rfl (fun ls hl => ?_)
        have loop49 : ∀ (n : Nat) (m3 : Int32) (H : Heap) (locs : List Loc) (ls : Array Slot), (60 - m3.toInt).toNat < n → 0 ≤ m3.toInt ∧ m3.toInt ≤ (J 12 11).toInt → (∀ j : Nat, (j : Int) < m3.toInt → (J 41 j).toInt = (J 116 (a0.toInt.toNat + j)).toInt) → WB g A s.heap H locs ((up2 J 12 11 0), L, I, P, E, N) (sgX g ++ dy) → lv_has ls 5 [(3, .int m3), (2, .int (J 12 11)), (0, .ref (g.2.2.1 12)), (1, .int a0)] → W p l e (RM (5) 0 0) s m ([.ref (g.2.2.1 12), .int a0] : List Value).toArray below meth c H locs 0 0 (MQ below Q9 ([.ref (g.2.2.1 12), .int a0] : List Value).toArray s 0 0 A) (F0 m 49 ls []) := by
          intro n
          induction n with
          | zero => intro m3 H locs ls hmeas; exact absurd hmeas (Nat.not_lt_zero _)
          | succ n ih =>
            intro m3 H locs ls hmeas hi hno hW hl
            refine lv_iload_n hx hb dX11_check_49 rfl (lv_at hl 0 rfl) ?_
            refine lv_iload_n hx hb dX11_check_50 rfl (lv_at hl 1 rfl) ?_
            refine lv_icmp_ge (tgt := 102) hx hb dX11_check_51 (by decide) (fun c7 => ?_) (fun c7 => ?_)
            · have c7 : (J 12 11).toInt ≤ m3.toInt := tle rfl rfl c7
              refine lv_bipush (v := (-9)) hx hb dX11_check_102 (by decide) ?_
              have hWr : WB g A s.heap H locs ((hv J [42] [(12, 11)] (up2 J 12 11 0)), L, I, P, E, N) (sgX g ++ dy) := by
                rw [← ag_hvE (J := J) (R := [42]) (F := [(12, 11)]) (ag_up (Or.inr rfl) ag_rf)]
                exact hW
              subst hQ9
              exact end_i C hr hlocks (up2 J 12 11 0) hWr ⟨by first | exact Or.inr (⟨by first | rfl | assumption, by omega, show ((0 : Int32)).toInt = 0 from (by first | rfl | exact kp0 | exact (by exact Or.inr ⟨fun j hj => hno j (by omega), rfl⟩)), show J 41 = J 41 from (by first | rfl | exact kp0 | exact (by exact Or.inr ⟨fun j hj => hno j (by omega), rfl⟩)), show CHK (J 41) (J 116) a0.toInt (J 12 11).toInt (-9) from (by first | rfl | exact kp0 | exact (by exact Or.inr ⟨fun j hj => hno j (by omega), rfl⟩))⟩), show 0 ≤ ((0 : Int32)).toInt from by first | omega | decide | assumption⟩ dX11_check_104
            · have c7 : m3.toInt < (J 12 11).toInt := tnle rfl rfl c7
              refine lv_iload_n hx hb dX11_check_54 rfl (lv_at hl 0 rfl) ?_
              refine lv_aload_n hx hb dX11_check_55 rfl (lv_at hl 2 rfl) ?_
              refine rg_12_8 C hW (mx_ rfl) tw_372 dX11_check_56 ?_
              refine rl_41 C hW (mx_ rfl) dX11_check_59 ?_
              refine lv_icmp_ge (tgt := 102) hx hb dX11_check_60 (by decide) (fun c8 => ?_) (fun c8 => ?_)
              · have c8 : 60 ≤ m3.toInt := tle kp60 rfl c8
                refine lv_bipush (v := (-9)) hx hb dX11_check_102 (by decide) ?_
                have hWr : WB g A s.heap H locs ((hv J [42] [(12, 11)] (up2 J 12 11 0)), L, I, P, E, N) (sgX g ++ dy) := by
                  rw [← ag_hvE (J := J) (R := [42]) (F := [(12, 11)]) (ag_up (Or.inr rfl) ag_rf)]
                  exact hW
                subst hQ9
                exact end_i C hr hlocks (up2 J 12 11 0) hWr ⟨by first | exact Or.inr (⟨by first | rfl | assumption, by omega, show ((0 : Int32)).toInt = 0 from (by first | rfl | exact kp0 | exact (by exact Or.inr ⟨fun j hj => hno j (by omega), rfl⟩)), show J 41 = J 41 from (by first | rfl | exact kp0 | exact (by exact Or.inr ⟨fun j hj => hno j (by omega), rfl⟩)), show CHK (J 41) (J 116) a0.toInt (J 12 11).toInt (-9) from (by first | rfl | exact kp0 | exact (by exact Or.inr ⟨fun j hj => hno j (by omega), rfl⟩))⟩), show 0 ≤ ((0 : Int32)).toInt from by first | omega | decide | assumption⟩ dX11_check_104
              · have c8 : m3.toInt < 60 := tnle kp60 rfl c8
                refine lv_aload_n hx hb dX11_check_63 rfl (lv_at hl 2 rfl) ?_
                refine rg_12_1 C hW (mx_ rfl) tw_365 dX11_check_64 ?_
                refine lv_iload_n hx hb dX11_check_67 rfl (lv_at hl 3 rfl) ?_
                refine lv_iload_n hx hb dX11_check_68 rfl (lv_at hl 0 rfl) ?_
                refine lv_iadd hx hb dX11_check_69 ?_
                refine lv_topi (fun x9 (e9 : x9 = a0 + m3) => ?_)
                try have t9 : x9.toInt = a0.toInt + m3.toInt := tadd e9 rfl rfl (by omega)
                refine cq_ C hW (runV (x := (g.2.2.1 3)) (As := [.int x9]) (rest := []) (T := (((up2 J 12 11 0), L, I, P, E, N), sgX g ++ dy)) C hW (c_X2_spanOf_e l g (up2 J 12 11 0) L I P E N dy H.size x9 hwf (show SPR I E P (J 27 2).toInt (J 3 1).toInt (J 116) (J 117) (J 118) (J 119) (J 120) from hspr)) mi_X2_spanOf tw_639 (recv_ (T := (((up2 J 12 11 0), L, I, P, E, N), sgX g ++ dy)) C hW (mx_ rfl) rfl rfl) ⟨rfl, rfl, Nat.le_of_ble_eq_true rfl, Nat.le_of_ble_eq_true rfl⟩ rfl hl.1 rfl (Nat.le_of_ble_eq_true rfl) dX11_check_70 ⟨Nat.le_of_ble_eq_true rfl, Nat.le_of_ble_eq_true rfl⟩) (fun q10 u10 H locs hp10 hW => ?_)
                have hq10 : ((q10 = none ∧ (¬ (0 ≤ x9.toInt ∧ x9.toInt < (J 3 1).toInt))) ∨ (∃ o9 : Nat, q10 = some o9 ∧ (9, o9) ∈ dy ∧ (0 ≤ x9.toInt ∧ x9.toInt < (J 3 1).toInt ∧ (I 9 0 o9).toInt ≤ x9.toInt ∧ x9.toInt ≤ (I 9 1 o9).toInt ∧ SPO I o9 (J 3 1).toInt (J 116) (J 117) (J 118) (J 119) (J 120)))) := hp10
                clear hp10
                have hW : WB g A s.heap H locs ((up2 J 12 11 0), L, I, P, E, N) (sgX g ++ dy) := hW
                rcases hq10 with ⟨ho10, hn10⟩ | ⟨o10, ho10, hm10, hs10⟩ <;> subst ho10
                · refine lv_asv (v' := .null) rfl ?_
                  refine lv_astoreN (lv' := [(4, .null), (3, .int m3), (2, .int (J 12 11)), (0, .ref (g.2.2.1 12)), (1, .int a0)]) hx hb dX11_check_73 hl (by decide) rfl (fun ls hl => ?_)
                  refine lv_aloadN hx hb dX11_check_75 (lv_at hl 0 rfl) ?_
                  refine lv_ifnullN (tgt := 94) hx hb dX11_check_77 (by decide) ?_
                  refine lv_iload_n hx hb dX11_check_94 rfl (lv_at hl 1 rfl) ?_
                  have hWr : WB g A s.heap H locs ((hv J [42] [(12, 11)] (up2 J 12 11 0)), L, I, P, E, N) (sgX g ++ dy) := by
                    rw [← ag_hvE (J := J) (R := [42]) (F := [(12, 11)]) (ag_up (Or.inr rfl) ag_rf)]
                    exact hW
                  subst hQ9
                  exact end_i C hr hlocks (up2 J 12 11 0) hWr ⟨by first | exact Or.inr (⟨by first | rfl | assumption, by omega, show ((0 : Int32)).toInt = 0 from (by first | rfl | exact kp0 | exact (by first | (exfalso; omega) | exact Or.inl ⟨m3.toNatClampNeg, (by have h8 := tcl m3; omega), (by have h8 := tcl m3; omega), (by rw [show a0.toInt.toNat + m3.toNatClampNeg = x9.toNatClampNeg by (have h8 := tcl m3; have h9 := tcl x9; omega)]; omega), fun j hj => hno j (by have h8 := tcl m3; omega)⟩)), show J 41 = J 41 from (by first | rfl | exact kp0 | exact (by first | (exfalso; omega) | exact Or.inl ⟨m3.toNatClampNeg, (by have h8 := tcl m3; omega), (by have h8 := tcl m3; omega), (by rw [show a0.toInt.toNat + m3.toNatClampNeg = x9.toNatClampNeg by (have h8 := tcl m3; have h9 := tcl x9; omega)]; omega), fun j hj => hno j (by have h8 := tcl m3; omega)⟩)), show CHK (J 41) (J 116) a0.toInt (J 12 11).toInt m3.toInt from (by first | rfl | exact kp0 | exact (by first | (exfalso; omega) | exact Or.inl ⟨m3.toNatClampNeg, (by have h8 := tcl m3; omega), (by have h8 := tcl m3; omega), (by rw [show a0.toInt.toNat + m3.toNatClampNeg = x9.toNatClampNeg by (have h8 := tcl m3; have h9 := tcl x9; omega)]; omega), fun j hj => hno j (by have h8 := tcl m3; omega)⟩))⟩), show 0 ≤ ((0 : Int32)).toInt from by first | omega | decide | assumption⟩ dX11_check_95
                · refine lv_asv (v' := .ref o10) rfl ?_
                  obtain ⟨hsK10, hsR10, hsV10, hsO10, hsT10⟩ := spo_at hs10
                  have hsk10 := congrArg Int32.toInt hsK10
                  refine lv_astore (lv' := [(4, .ref o10), (3, .int m3), (2, .int (J 12 11)), (0, .ref (g.2.2.1 12)), (1, .int a0)]) hx hb dX11_check_73 hl (by decide) rfl (fun ls hl => ?_)
                  refine lv_aload hx hb dX11_check_75 (lv_at hl 0 rfl) ?_
                  refine lv_ifnull hx hb dX11_check_77 ?_
                  refine lv_aload hx hb dX11_check_80 (lv_at hl 0 rfl) ?_
                  refine rg_9_2 C hW (List.mem_append_right _ hm10) tw_429 dX11_check_82 ?_
                  refine lv_topi (fun x11 (e11 : x11 = I 9 2 o10) => ?_)
                  have t11 : x11.toInt = (I 9 2 o10).toInt := by rw [e11]
                  refine lv_aload_n hx hb dX11_check_85 rfl (lv_at hl 3 rfl) ?_
                  refine rg_12_8 C hW (mx_ rfl) tw_372 dX11_check_86 ?_
                  refine lv_iload_n hx hb dX11_check_89 rfl (lv_at hl 1 rfl) ?_
                  have hin : vp_in m3 60 := tin rfl (by omega)
                  refine ra_41 C hW (mx_ rfl) hin dX11_check_90 ?_
                  refine lv_topi (fun x12 (e12 : x12 = J 41 m3.toNatClampNeg) => ?_)
                  have t12 : x12.toInt = (J 41 m3.toNatClampNeg).toInt := by rw [e12]
                  refine lv_icmp_eq (tgt := 96) hx hb dX11_check_91 (by decide) (fun c13 => ?_) (fun c13 => ?_)
                  · have c13 : x11.toInt = x12.toInt := teq rfl rfl c13
                    obtain ⟨x14, e14⟩ : ∃ y : Int32, y = m3 + 1 := ⟨_, rfl⟩
                    refine lv_iinc (v := x14) (lv' := [(3, .int x14), (4, .ref o10), (2, .int (J 12 11)), (0, .ref (g.2.2.1 12)), (1, .int a0)]) hx hb dX11_check_96 hl (k := 1) rfl (by rw [e14]; rfl) (by decide) rfl (fun ls hl => ?_)
                    try have t14 : x14.toInt = m3.toInt + 1 := tadd e14 rfl kp1 (by omega)
                    refine lv_goto (tgt := 49) hx hb dX11_check_99 (by decide) ?_
                    refine ih x14 H locs ls ?_ ?_ ?_ hW (lv_sub hl [0, 2, 3, 4] rfl)
                    · show (60 - x14.toInt).toNat < n
                      omega
                    · show 0 ≤ x14.toInt ∧ x14.toInt ≤ (J 12 11).toInt
                      first | omega | exact hi | assumption
                    · show ∀ j : Nat, (j : Int) < x14.toInt → (J 41 j).toInt = (J 116 (a0.toInt.toNat + j)).toInt
                      exact ck_s (c := m3.toNatClampNeg) hno (by have h8 := tcl m3; omega) (by omega) (by rw [show a0.toInt.toNat + m3.toNatClampNeg = x9.toNatClampNeg by (have h8 := tcl m3; have h9 := tcl x9; omega)]; omega)
                  · have c13 : ¬ x11.toInt = x12.toInt := tne rfl rfl c13
                    refine lv_iload_n hx hb dX11_check_94 rfl (lv_at hl 1 rfl) ?_
                    have hWr : WB g A s.heap H locs ((hv J [42] [(12, 11)] (up2 J 12 11 0)), L, I, P, E, N) (sgX g ++ dy) := by
                      rw [← ag_hvE (J := J) (R := [42]) (F := [(12, 11)]) (ag_up (Or.inr rfl) ag_rf)]
                      exact hW
                    subst hQ9
                    exact end_i C hr hlocks (up2 J 12 11 0) hWr ⟨by first | exact Or.inr (⟨by first | rfl | assumption, by omega, show ((0 : Int32)).toInt = 0 from (by first | rfl | exact kp0 | exact (by first | (exfalso; omega) | exact Or.inl ⟨m3.toNatClampNeg, (by have h8 := tcl m3; omega), (by have h8 := tcl m3; omega), (by rw [show a0.toInt.toNat + m3.toNatClampNeg = x9.toNatClampNeg by (have h8 := tcl m3; have h9 := tcl x9; omega)]; omega), fun j hj => hno j (by have h8 := tcl m3; omega)⟩)), show J 41 = J 41 from (by first | rfl | exact kp0 | exact (by first | (exfalso; omega) | exact Or.inl ⟨m3.toNatClampNeg, (by have h8 := tcl m3; omega), (by have h8 := tcl m3; omega), (by rw [show a0.toInt.toNat + m3.toNatClampNeg = x9.toNatClampNeg by (have h8 := tcl m3; have h9 := tcl x9; omega)]; omega), fun j hj => hno j (by have h8 := tcl m3; omega)⟩)), show CHK (J 41) (J 116) a0.toInt (J 12 11).toInt m3.toInt from (by first | rfl | exact kp0 | exact (by first | (exfalso; omega) | exact Or.inl ⟨m3.toNatClampNeg, (by have h8 := tcl m3; omega), (by have h8 := tcl m3; omega), (by rw [show a0.toInt.toNat + m3.toNatClampNeg = x9.toNatClampNeg by (have h8 := tcl m3; have h9 := tcl x9; omega)]; omega), fun j hj => hno j (by have h8 := tcl m3; omega)⟩))⟩), show 0 ≤ ((0 : Int32)).toInt from by first | omega | decide | assumption⟩ dX11_check_95
        -- into the loop
        refine loop49 ((60 - (0 : Int32).toInt).toNat + 1) 0 H locs ls ?_ ?_ ?_ hW (lv_sub hl [0, 1, 2, 3] rfl)
        · exact Nat.lt_succ_self _
        · show 0 ≤ (0 : Int32).toInt ∧ (0 : Int32).toInt ≤ (J 12 11).toInt
          try rw [kp0]
          first | omega | exact hi | assumption
        · show ∀ j : Nat, (j : Int) < (0 : Int32).toInt → (J 41 j).toInt = (J 116 (a0.toInt.toNat + j)).toInt
          try rw [kp0]
          exact ck_0 kp0
      · have c6 : x5.toInt < (J 12 11).toInt := tnle rfl rfl c6
        refine lv_aload_n hx hb dX11_check_31 rfl (lv_at hl 0 rfl) ?_
        refine lv_iconst (v := (-1)) hx hb dX11_check_32 (by decide) ?_
        refine ci_ C hW (runV (x := (g.2.2.1 12)) (As := [.int (-1)]) (rest := []) (T := ((J, L, I, P, E, N), sgX g ++ dy)) C hW (c_X11_refuse l g J L I P E N dy H.size (-1) hwf) mi_X11_refuse tw_411 (recv_ (T := ((J, L, I, P, E, N), sgX g ++ dy)) C hW (mx_ rfl) rfl rfl) ⟨rfl, rfl, Nat.le_of_ble_eq_true rfl, Nat.le_of_ble_eq_true rfl⟩ rfl hl.1 rfl (Nat.le_of_ble_eq_true rfl) dX11_check_33 ⟨Nat.le_of_ble_eq_true rfl, Nat.le_of_ble_eq_true rfl⟩) (fun r15 u15 H locs hp15 hW => ?_)
        have hc15 : ((r15 = (-1))) := hp15
        clear hp15
        have hr15 : r15.toInt = (-1) := by rw [hc15]; exact kn1
        have hW : WB g A s.heap H locs ((hv J [42] [] u15), L, I, P, E, N) (sgX g ++ dy) := hW
        have hWr : WB g A s.heap H locs ((hv J [42] [(12, 11)] (hv J [42] [] u15)), L, I, P, E, N) (sgX g ++ dy) := by
          rw [← ag_hvE (J := J) (R := [42]) (F := [(12, 11)]) (ag_hv rfl rfl ag_rf)]
          exact hW
        subst hQ9
        exact end_i C hr hlocks (hv J [42] [] u15) hWr ⟨by first | exact Or.inl ⟨by omega, by omega, show J 12 11 = J 12 11 from by first | rfl | assumption, show J 41 = J 41 from by first | rfl | assumption⟩, show 0 ≤ (J 12 11).toInt from by first | omega | decide | assumption⟩ dX11_check_36

set_option maxHeartbeats 4000000 in
set_option maxRecDepth 100000 in
theorem c_X12_put_e (l : Launch) (g : gG) (J : Nat → Nat → Int32) (L : Nat → Nat → Int64) (I : Nat → Nat → Nat → Int32) (P : Nat → Nat → Nat → Option Nat) (E : Nat → Option Nat) (N : Nat → Nat) (sz : Nat) (a0 : Int32) (hwm : WM J) : Met l yX12_put (WS yX12_put cX12_put 3 (some .int)) (RM (3) 0 0) (PC g [.ref (g.2.2.1 13), .int a0] ((J, L, I, P, E, N), sgM g) sz) (va_Qi (fun (r : Int32) (u : (Nat → Nat → Int32)) => WM (hv J [100, 130] [(13, 44)] u) ∧ ((r.toInt = (-4) ∧ (a0.toInt < -32768) ∧ u 13 44 = J 13 44 ∧ u 130 = J 130) ∨ (r.toInt = (-6) ∧ (-32768 ≤ a0.toInt ∧ (32767 < a0.toInt ∨ (J 13 44).toInt = 60)) ∧ u 13 44 = J 13 44 ∧ u 130 = J 130) ∨ (r.toInt = (J 13 44).toInt + 1 ∧ (-32768 ≤ a0.toInt ∧ a0.toInt ≤ 32767 ∧ (J 13 44).toInt ≤ 59) ∧ (u 13 44).toInt = (J 13 44).toInt + 1 ∧ u 130 = up2 J 130 (J 13 44).toNatClampNeg a0 130))) (fun u t => at_ g (FR g ((J, L, I, P, E, N), sgM g) sz) ((hv J [100, 130] [(13, 44)] u, L, I, P, E, N), sgM g) t) (FR g ((J, L, I, P, E, N), sgM g) sz)) 0 0 (FR g ((J, L, I, P, E, N), sgM g) sz) := by
  refine ent (by decide +kernel) (Nat.le_of_ble_eq_true rfl) ?_
  intro p e s m below meth c ls hsz C hW hr hlocks hname hl
  generalize FR g ((J, L, I, P, E, N), sgM g) sz = A at C hW ⊢
  generalize hQ9 : (va_Qi (fun (r : Int32) (u : (Nat → Nat → Int32)) => WM (hv J [100, 130] [(13, 44)] u) ∧ ((r.toInt = (-4) ∧ (a0.toInt < -32768) ∧ u 13 44 = J 13 44 ∧ u 130 = J 130) ∨ (r.toInt = (-6) ∧ (-32768 ≤ a0.toInt ∧ (32767 < a0.toInt ∨ (J 13 44).toInt = 60)) ∧ u 13 44 = J 13 44 ∧ u 130 = J 130) ∨ (r.toInt = (J 13 44).toInt + 1 ∧ (-32768 ≤ a0.toInt ∧ a0.toInt ≤ 32767 ∧ (J 13 44).toInt ≤ 59) ∧ (u 13 44).toInt = (J 13 44).toInt + 1 ∧ u 130 = up2 J 130 (J 13 44).toNatClampNeg a0 130))) (fun u t => at_ g A ((hv J [100, 130] [(13, 44)] u, L, I, P, E, N), sgM g) t) A) = Q9
  have hx := C.1.1
  have hb := C.1.2.1
  have hts := C.1.2.2.2.2
  have hW : WB g A s.heap s.heap [] (J, L, I, P, E, N) (sgM g) := hW
  have hl : lv_has ls 3 [(0, .ref (g.2.2.1 13)), (1, .int a0)] := hl
  obtain ⟨H, hH⟩ : ∃ H : Heap, H = s.heap := ⟨_, rfl⟩
  obtain ⟨locs, hlocs⟩ : ∃ q : List Loc, q = [] := ⟨_, rfl⟩
  have hW : WB g A s.heap H locs (J, L, I, P, E, N) (sgM g) := by rw [hH, hlocs]; exact hW
  obtain ⟨⟨hnd1, hnd2, hon, hhm1, hhm2, hhN, hcu1, hcu2, hco1, hco2, hcN⟩, ⟨hrd1, hrd2⟩, ⟨hnw1, hnw2, hns1, hns2, hof⟩, ⟨htm1, htm2, hts_⟩, ⟨had1, had2, hrw1, hrw2, htp1, htp2⟩⟩ := id hwm
  refine start_ hH hlocs ?_
  refine lv_iload_n hx hb dX12_put_0 rfl (lv_at hl 1 rfl) ?_
  refine lv_sipush (v := (-32768)) hx hb dX12_put_1 (by decide) ?_
  refine lv_sipush (v := 32767) hx hb dX12_put_4 (by decide) ?_
  refine ci_ C hW (runS (As := [.int a0, .int (-32768), .int 32767]) (rest := []) (T := ((J, L, I, P, E, N), sgM g)) C hW (c_X12_within l g J L I P E N H.size a0 (-32768) 32767 ) mi_X12_within tw_1258 ⟨rfl, rfl, Nat.le_of_ble_eq_true rfl, Nat.le_of_ble_eq_true rfl⟩ rfl hl.1 rfl (Nat.le_of_ble_eq_true rfl) dX12_put_7 ⟨Nat.le_of_ble_eq_true rfl, Nat.le_of_ble_eq_true rfl⟩) (fun r1 u1 H locs hp1 hW => ?_)
  have hc1 : ((r1.toInt = (-4) ∧ (a0.toInt < (-32768 : Int32).toInt)) ∨ (r1.toInt = (-6) ∧ ((-32768 : Int32).toInt ≤ a0.toInt ∧ 32767 < a0.toInt)) ∨ (r1.toInt = 0 ∧ ((-32768 : Int32).toInt ≤ a0.toInt ∧ a0.toInt ≤ 32767))) := hp1
  clear hp1
  try simp only [kn32768] at hc1
  have hW : WB g A s.heap H locs (J, L, I, P, E, N) (sgM g) := hW
  refine lv_istore_n (lv' := [(2, .int r1), (0, .ref (g.2.2.1 13)), (1, .int a0)]) hx hb dX12_put_10 rfl hl (by decide) rfl (fun ls hl => ?_)
  refine lv_iload_n hx hb dX12_put_11 rfl (lv_at hl 0 rfl) ?_
  refine lv_if_ne (tgt := 27) hx hb dX12_put_12 (by decide) (fun c2 => ?_) (fun c2 => ?_)
  · have c2 : ¬ r1.toInt = 0 := tne rfl kp0 c2
    refine lv_iload_n hx hb dX12_put_27 rfl (lv_at hl 0 rfl) ?_
    refine lv_if_eq (tgt := 37) hx hb dX12_put_28 (by decide) (fun c3 => ?_) (fun c3 => ?_)
    · have c3 : r1.toInt = 0 := teq rfl kp0 c3
      exfalso; omega
    · have c3 : ¬ r1.toInt = 0 := tne rfl kp0 c3
      refine lv_aload_n hx hb dX12_put_31 rfl (lv_at hl 1 rfl) ?_
      refine lv_iload_n hx hb dX12_put_32 rfl (lv_at hl 0 rfl) ?_
      refine ci_ C hW (runV (x := (g.2.2.1 13)) (As := [.int r1]) (rest := []) (T := ((J, L, I, P, E, N), sgM g)) C hW (c_X12_refuse l g J L I P E N H.size r1 (show -6 ≤ r1.toInt ∧ r1.toInt ≤ -1 from by omega)) mi_X12_refuse tw_1239 (recv_ (T := ((J, L, I, P, E, N), sgM g)) C hW (mm_ rfl) rfl rfl) ⟨rfl, rfl, Nat.le_of_ble_eq_true rfl, Nat.le_of_ble_eq_true rfl⟩ rfl hl.1 rfl (Nat.le_of_ble_eq_true rfl) dX12_put_33 ⟨Nat.le_of_ble_eq_true rfl, Nat.le_of_ble_eq_true rfl⟩) (fun r4 u4 H locs hp4 hW => ?_)
      have hc4 : ((r4 = r1)) := hp4
      clear hp4
      have hr4 : r4.toInt = (r1).toInt := by rw [hc4]
      have hW : WB g A s.heap H locs ((hv J [100] [] u4), L, I, P, E, N) (sgM g) := hW
      have hWr : WB g A s.heap H locs (hv J [100, 130] [(13, 44)] (hv J [100] [] u4), L, I, P, E, N) (sgM g) := by
        rw [← ag_hvE (J := J) (R := [100, 130]) (F := [(13, 44)]) (ag_hv rfl rfl ag_rf)]
        exact hW
      have hwmr : WM (hv J [100] [] u4) := by first | exact hwm | exact wm_rowed hwm (by omega)
      have hwmr : WM (hv J [100, 130] [(13, 44)] (hv J [100] [] u4)) := by
        rw [← ag_hvE (J := J) (R := [100, 130]) (F := [(13, 44)]) (ag_hv rfl rfl ag_rf)]; exact hwmr
      subst hQ9
      exact end_i C hr hlocks (hv J [100] [] u4) hWr ⟨hwmr, by first | exact Or.inl ⟨by omega, by omega, show J 13 44 = J 13 44 from by first | rfl | assumption, show J 130 = J 130 from by first | rfl | assumption⟩ | exact Or.inr (Or.inl ⟨by omega, by omega, show J 13 44 = J 13 44 from by first | rfl | assumption, show J 130 = J 130 from by first | rfl | assumption⟩) | exact Or.inr (Or.inr (⟨by omega, by omega, show (J 13 44).toInt = (J 13 44).toInt + 1 from by first | rfl | omega, show J 130 = up2 J 130 (J 13 44).toNatClampNeg a0 130 from by first | rfl | omega⟩)) | (rcases hc1 with qhc1 | qhc1 | qhc1 <;> first | exact Or.inl ⟨by omega, by omega, show J 13 44 = J 13 44 from by first | rfl | assumption, show J 130 = J 130 from by first | rfl | assumption⟩ | exact Or.inr (Or.inl ⟨by omega, by omega, show J 13 44 = J 13 44 from by first | rfl | assumption, show J 130 = J 130 from by first | rfl | assumption⟩) | exact Or.inr (Or.inr (⟨by omega, by omega, show (J 13 44).toInt = (J 13 44).toInt + 1 from by first | rfl | omega, show J 130 = up2 J 130 (J 13 44).toNatClampNeg a0 130 from by first | rfl | omega⟩)) | (exfalso; omega))⟩ dX12_put_36
  · have c2 : r1.toInt = 0 := teq rfl kp0 c2
    refine lv_aload_n hx hb dX12_put_15 rfl (lv_at hl 1 rfl) ?_
    refine rg_13_44 C hW (mm_ rfl) tw_1067 dX12_put_16 ?_
    refine lv_bipush (v := 60) hx hb dX12_put_19 (by decide) ?_
    refine lv_icmp_ne (tgt := 27) hx hb dX12_put_21 (by decide) (fun c5 => ?_) (fun c5 => ?_)
    · have c5 : ¬ (J 13 44).toInt = 60 := tne rfl kp60 c5
      refine lv_iload_n hx hb dX12_put_27 rfl (lv_at hl 0 rfl) ?_
      refine lv_if_eq (tgt := 37) hx hb dX12_put_28 (by decide) (fun c6 => ?_) (fun c6 => ?_)
      · have c6 : r1.toInt = 0 := teq rfl kp0 c6
        refine lv_aload_n hx hb dX12_put_37 rfl (lv_at hl 1 rfl) ?_
        refine rg_13_30 C hW (mm_ rfl) tw_1053 dX12_put_38 ?_
        refine lv_aload_n hx hb dX12_put_41 rfl (lv_at hl 1 rfl) ?_
        refine rg_13_44 C hW (mm_ rfl) tw_1067 dX12_put_42 ?_
        refine lv_iload_n hx hb dX12_put_45 rfl (lv_at hl 2 rfl) ?_
        have hin : vp_in (J 13 44) 60 := tin rfl (by omega)
        refine rs_130 C hW (mm_ rfl) hin dX12_put_46 (fun H locs hW => ?_)
        refine lv_aload_n hx hb dX12_put_47 rfl (lv_at hl 1 rfl) ?_
        refine lv_dup hx hb dX12_put_48 rfl ?_
        refine rg_13_44 C hW (mm_ rfl) tw_1067 dX12_put_49 ?_
        refine lv_as (J 13 44) rfl ?_
        refine lv_iconst (v := 1) hx hb dX12_put_52 (by decide) ?_
        refine lv_iadd hx hb dX12_put_53 ?_
        refine lv_topi (fun x7 (e7 : x7 = (J 13 44) + 1) => ?_)
        try have t7 : x7.toInt = (J 13 44).toInt + 1 := tadd e7 rfl kp1 (by omega)
        refine rp_13_44 C hW (mm_ rfl) tw_1067 dX12_put_54 (fun H locs hW => ?_)
        refine lv_aload_n hx hb dX12_put_57 rfl (lv_at hl 1 rfl) ?_
        refine rg_13_44 C hW (mm_ rfl) tw_1067 dX12_put_58 ?_
        refine lv_as x7 rfl ?_
        have hWr : WB g A s.heap H locs (hv J [100, 130] [(13, 44)] (up2 (up2 J 130 ((J 13 44).toNatClampNeg) a0) 13 44 x7), L, I, P, E, N) (sgM g) := by
          rw [← ag_hvE (J := J) (R := [100, 130]) (F := [(13, 44)]) (ag_up (Or.inr rfl) (ag_up (Or.inl rfl) ag_rf))]
          exact hW
        have hwmr : WM (up2 (up2 J 130 ((J 13 44).toNatClampNeg) a0) 13 44 x7) := by first | exact hwm | exact wm_rowed hwm (by omega)
        have hwmr : WM (hv J [100, 130] [(13, 44)] (up2 (up2 J 130 ((J 13 44).toNatClampNeg) a0) 13 44 x7)) := by
          rw [← ag_hvE (J := J) (R := [100, 130]) (F := [(13, 44)]) (ag_up (Or.inr rfl) (ag_up (Or.inl rfl) ag_rf))]; exact hwmr
        subst hQ9
        exact end_i C hr hlocks (up2 (up2 J 130 ((J 13 44).toNatClampNeg) a0) 13 44 x7) hWr ⟨hwmr, by first | exact Or.inl ⟨by omega, by omega, show x7 = J 13 44 from by first | rfl | assumption, show (up2 J 130 ((J 13 44).toNatClampNeg) a0) 130 = J 130 from by first | rfl | assumption⟩ | exact Or.inr (Or.inl ⟨by omega, by omega, show x7 = J 13 44 from by first | rfl | assumption, show (up2 J 130 ((J 13 44).toNatClampNeg) a0) 130 = J 130 from by first | rfl | assumption⟩) | exact Or.inr (Or.inr (⟨by omega, by omega, show (x7).toInt = (J 13 44).toInt + 1 from by first | rfl | omega, show (up2 J 130 ((J 13 44).toNatClampNeg) a0) 130 = up2 J 130 (J 13 44).toNatClampNeg a0 130 from by first | rfl | omega⟩)) | (rcases hc1 with qhc1 | qhc1 | qhc1 <;> first | exact Or.inl ⟨by omega, by omega, show x7 = J 13 44 from by first | rfl | assumption, show (up2 J 130 ((J 13 44).toNatClampNeg) a0) 130 = J 130 from by first | rfl | assumption⟩ | exact Or.inr (Or.inl ⟨by omega, by omega, show x7 = J 13 44 from by first | rfl | assumption, show (up2 J 130 ((J 13 44).toNatClampNeg) a0) 130 = J 130 from by first | rfl | assumption⟩) | exact Or.inr (Or.inr (⟨by omega, by omega, show (x7).toInt = (J 13 44).toInt + 1 from by first | rfl | omega, show (up2 J 130 ((J 13 44).toNatClampNeg) a0) 130 = up2 J 130 (J 13 44).toNatClampNeg a0 130 from by first | rfl | omega⟩)) | (exfalso; omega))⟩ dX12_put_61
      · have c6 : ¬ r1.toInt = 0 := tne rfl kp0 c6
        exfalso; omega
    · have c5 : (J 13 44).toInt = 60 := teq rfl kp60 c5
      refine lv_bipush (v := (-6)) hx hb dX12_put_24 (by decide) ?_
      refine lv_istore_n (lv' := [(2, .int (-6)), (0, .ref (g.2.2.1 13)), (1, .int a0)]) hx hb dX12_put_26 rfl hl (by decide) rfl (fun ls hl => ?_)
      refine lv_iload_n hx hb dX12_put_27 rfl (lv_at hl 0 rfl) ?_
      refine lv_if_eq (tgt := 37) hx hb dX12_put_28 (by decide) (fun c8 => ?_) (fun c8 => ?_)
      · exact absurd c8 (by decide)
      · skip
        refine lv_aload_n hx hb dX12_put_31 rfl (lv_at hl 1 rfl) ?_
        refine lv_iload_n hx hb dX12_put_32 rfl (lv_at hl 0 rfl) ?_
        refine ci_ C hW (runV (x := (g.2.2.1 13)) (As := [.int (-6)]) (rest := []) (T := ((J, L, I, P, E, N), sgM g)) C hW (c_X12_refuse l g J L I P E N H.size (-6) (show -6 ≤ (-6 : Int32).toInt ∧ (-6 : Int32).toInt ≤ -1 from by (try simp only [kn6]); omega)) mi_X12_refuse tw_1239 (recv_ (T := ((J, L, I, P, E, N), sgM g)) C hW (mm_ rfl) rfl rfl) ⟨rfl, rfl, Nat.le_of_ble_eq_true rfl, Nat.le_of_ble_eq_true rfl⟩ rfl hl.1 rfl (Nat.le_of_ble_eq_true rfl) dX12_put_33 ⟨Nat.le_of_ble_eq_true rfl, Nat.le_of_ble_eq_true rfl⟩) (fun r9 u9 H locs hp9 hW => ?_)
        have hc9 : ((r9 = (-6))) := hp9
        clear hp9
        have hr9 : r9.toInt = (-6) := by rw [hc9]; exact kn6
        have hW : WB g A s.heap H locs ((hv J [100] [] u9), L, I, P, E, N) (sgM g) := hW
        have hWr : WB g A s.heap H locs (hv J [100, 130] [(13, 44)] (hv J [100] [] u9), L, I, P, E, N) (sgM g) := by
          rw [← ag_hvE (J := J) (R := [100, 130]) (F := [(13, 44)]) (ag_hv rfl rfl ag_rf)]
          exact hW
        have hwmr : WM (hv J [100] [] u9) := by first | exact hwm | exact wm_rowed hwm (by omega)
        have hwmr : WM (hv J [100, 130] [(13, 44)] (hv J [100] [] u9)) := by
          rw [← ag_hvE (J := J) (R := [100, 130]) (F := [(13, 44)]) (ag_hv rfl rfl ag_rf)]; exact hwmr
        subst hQ9
        exact end_i C hr hlocks (hv J [100] [] u9) hWr ⟨hwmr, by first | exact Or.inl ⟨by omega, by omega, show J 13 44 = J 13 44 from by first | rfl | assumption, show J 130 = J 130 from by first | rfl | assumption⟩ | exact Or.inr (Or.inl ⟨by omega, by omega, show J 13 44 = J 13 44 from by first | rfl | assumption, show J 130 = J 130 from by first | rfl | assumption⟩) | exact Or.inr (Or.inr (⟨by omega, by omega, show (J 13 44).toInt = (J 13 44).toInt + 1 from by first | rfl | omega, show J 130 = up2 J 130 (J 13 44).toNatClampNeg a0 130 from by first | rfl | omega⟩)) | (rcases hc1 with qhc1 | qhc1 | qhc1 <;> first | exact Or.inl ⟨by omega, by omega, show J 13 44 = J 13 44 from by first | rfl | assumption, show J 130 = J 130 from by first | rfl | assumption⟩ | exact Or.inr (Or.inl ⟨by omega, by omega, show J 13 44 = J 13 44 from by first | rfl | assumption, show J 130 = J 130 from by first | rfl | assumption⟩) | exact Or.inr (Or.inr (⟨by omega, by omega, show (J 13 44).toInt = (J 13 44).toInt + 1 from by first | rfl | omega, show J 130 = up2 J 130 (J 13 44).toNatClampNeg a0 130 from by first | rfl | omega⟩)) | (exfalso; omega))⟩ dX12_put_36

set_option maxHeartbeats 4000000 in
set_option maxRecDepth 100000 in
theorem c_X12_judge_e (l : Launch) (g : gG) (J : Nat → Nat → Int32) (L : Nat → Nat → Int64) (I : Nat → Nat → Nat → Int32) (P : Nat → Nat → Nat → Option Nat) (E : Nat → Option Nat) (N : Nat → Nat) (sz : Nat)  (hwm : WM J) : Met l yX12_judge (WS yX12_judge cX12_judge 3 (some .int)) (RM (3) 0 0) (PC g [.ref (g.2.2.1 13)] ((J, L, I, P, E, N), sgM g) sz) (va_Qi (fun (r : Int32) (u : (Nat → Nat → Int32)) => WM (hv J [] [(13, 44)] u) ∧ ((u 13 44).toInt = 0) ∧ (JDG (J 130) (J 13 44).toInt r.toInt)) (fun u t => at_ g (FR g ((J, L, I, P, E, N), sgM g) sz) ((hv J [] [(13, 44)] u, L, I, P, E, N), sgM g) t) (FR g ((J, L, I, P, E, N), sgM g) sz)) 0 0 (FR g ((J, L, I, P, E, N), sgM g) sz) := by
  refine ent (by decide +kernel) (Nat.le_of_ble_eq_true rfl) ?_
  intro p e s m below meth c ls hsz C hW hr hlocks hname hl
  generalize FR g ((J, L, I, P, E, N), sgM g) sz = A at C hW ⊢
  generalize hQ9 : (va_Qi (fun (r : Int32) (u : (Nat → Nat → Int32)) => WM (hv J [] [(13, 44)] u) ∧ ((u 13 44).toInt = 0) ∧ (JDG (J 130) (J 13 44).toInt r.toInt)) (fun u t => at_ g A ((hv J [] [(13, 44)] u, L, I, P, E, N), sgM g) t) A) = Q9
  have hx := C.1.1
  have hb := C.1.2.1
  have hts := C.1.2.2.2.2
  have hW : WB g A s.heap s.heap [] (J, L, I, P, E, N) (sgM g) := hW
  have hl : lv_has ls 3 [(0, .ref (g.2.2.1 13))] := hl
  obtain ⟨H, hH⟩ : ∃ H : Heap, H = s.heap := ⟨_, rfl⟩
  obtain ⟨locs, hlocs⟩ : ∃ q : List Loc, q = [] := ⟨_, rfl⟩
  have hW : WB g A s.heap H locs (J, L, I, P, E, N) (sgM g) := by rw [hH, hlocs]; exact hW
  obtain ⟨⟨hnd1, hnd2, hon, hhm1, hhm2, hhN, hcu1, hcu2, hco1, hco2, hcN⟩, ⟨hrd1, hrd2⟩, ⟨hnw1, hnw2, hns1, hns2, hof⟩, ⟨htm1, htm2, hts_⟩, ⟨had1, had2, hrw1, hrw2, htp1, htp2⟩⟩ := id hwm
  refine start_ hH hlocs ?_
  refine lv_aload_n hx hb dX12_judge_0 rfl (lv_at hl 0 rfl) ?_
  refine rg_13_44 C hW (mm_ rfl) tw_1067 dX12_judge_1 ?_
  refine lv_istore_n (lv' := [(1, .int (J 13 44)), (0, .ref (g.2.2.1 13))]) hx hb dX12_judge_4 rfl hl (by decide) rfl (fun ls hl => ?_)
  refine lv_aload_n hx hb dX12_judge_5 rfl (lv_at hl 1 rfl) ?_
  refine lv_iconst (v := 0) hx hb dX12_judge_6 (by decide) ?_
  refine rp_13_44 C hW (mm_ rfl) tw_1067 dX12_judge_7 (fun H locs hW => ?_)
  refine lv_iconst (v := 0) hx hb dX12_judge_10 (by decide) ?_
  refine lv_istore_n (lv' := [(2, .int 0), (1, .int (J 13 44)), (0, .ref (g.2.2.1 13))]) hx hb dX12_judge_11 rfl hl (by decide) rfl (fun ls hl => ?_)
  have loop12 : ∀ (n : Nat) (m2 : Int32) (H : Heap) (locs : List Loc) (ls : Array Slot), (5 - m2.toInt).toNat < n → 0 ≤ m2.toInt ∧ m2.toInt ≤ 5 → (∀ j : Nat, (j : Int) < m2.toInt → ¬ JBAD (J 130) (J 13 44).toInt j) → WB g A s.heap H locs ((up2 J 13 44 0), L, I, P, E, N) (sgM g) → lv_has ls 3 [(2, .int m2), (1, .int (J 13 44)), (0, .ref (g.2.2.1 13))] → W p l e (RM (3) 0 0) s m ([.ref (g.2.2.1 13)] : List Value).toArray below meth c H locs 0 0 (MQ below Q9 ([.ref (g.2.2.1 13)] : List Value).toArray s 0 0 A) (F0 m 12 ls []) := by
    intro n
    induction n with
    | zero => intro m2 H locs ls hmeas; exact absurd hmeas (Nat.not_lt_zero _)
    | succ n ih =>
      intro m2 H locs ls hmeas hi hno hW hl
      refine lv_iload_n hx hb dX12_judge_12 rfl (lv_at hl 0 rfl) ?_
      refine lv_iconst (v := 5) hx hb dX12_judge_13 (by decide) ?_
      refine lv_icmp_ge (tgt := 65) hx hb dX12_judge_14 (by decide) (fun c1 => ?_) (fun c1 => ?_)
      · have c1 : 5 ≤ m2.toInt := tle kp5 rfl c1
        refine lv_iload_n hx hb dX12_judge_65 rfl (lv_at hl 1 rfl) ?_
        refine lv_iconst (v := 5) hx hb dX12_judge_66 (by decide) ?_
        refine lv_icmp_le (tgt := 74) hx hb dX12_judge_67 (by decide) (fun c2 => ?_) (fun c2 => ?_)
        · have c2 : (J 13 44).toInt ≤ 5 := tle rfl kp5 c2
          refine lv_bipush (v := (-9)) hx hb dX12_judge_74 (by decide) ?_
          have hWr : WB g A s.heap H locs (hv J [] [(13, 44)] (up2 J 13 44 0), L, I, P, E, N) (sgM g) := by
            rw [← ag_hvE (J := J) (R := []) (F := [(13, 44)]) (ag_up (Or.inr rfl) ag_rf)]
            exact hW
          have hwmr : WM (up2 J 13 44 0) := by exact wm_row0 hwm
          have hwmr : WM (hv J [] [(13, 44)] (up2 J 13 44 0)) := by
            rw [← ag_hvE (J := J) (R := []) (F := [(13, 44)]) (ag_up (Or.inr rfl) ag_rf)]; exact hwmr
          subst hQ9
          exact end_i C hr hlocks (up2 J 13 44 0) hWr ⟨hwmr, show ((0 : Int32)).toInt = 0 from by exact kp0, show JDG (J 130) (J 13 44).toInt (-9) from by exact Or.inr ⟨fun j hj => hno j (by omega), Or.inr ⟨by omega, rfl⟩⟩⟩ dX12_judge_76
        · have c2 : 5 < (J 13 44).toInt := tnle rfl kp5 c2
          refine lv_iconst (v := 5) hx hb dX12_judge_70 (by decide) ?_
          refine lv_goto (tgt := 76) hx hb dX12_judge_71 (by decide) ?_
          have hWr : WB g A s.heap H locs (hv J [] [(13, 44)] (up2 J 13 44 0), L, I, P, E, N) (sgM g) := by
            rw [← ag_hvE (J := J) (R := []) (F := [(13, 44)]) (ag_up (Or.inr rfl) ag_rf)]
            exact hW
          have hwmr : WM (up2 J 13 44 0) := by exact wm_row0 hwm
          have hwmr : WM (hv J [] [(13, 44)] (up2 J 13 44 0)) := by
            rw [← ag_hvE (J := J) (R := []) (F := [(13, 44)]) (ag_up (Or.inr rfl) ag_rf)]; exact hwmr
          subst hQ9
          exact end_i C hr hlocks (up2 J 13 44 0) hWr ⟨hwmr, show ((0 : Int32)).toInt = 0 from by exact kp0, show JDG (J 130) (J 13 44).toInt 5 from by exact Or.inr ⟨fun j hj => hno j (by omega), Or.inl ⟨by omega, rfl⟩⟩⟩ dX12_judge_76
      · have c1 : m2.toInt < 5 := tnle kp5 rfl c1
        refine lv_iload_n hx hb dX12_judge_17 rfl (lv_at hl 0 rfl) ?_
        refine lv_iload_n hx hb dX12_judge_18 rfl (lv_at hl 1 rfl) ?_
        refine lv_icmp_ge (tgt := 57) hx hb dX12_judge_19 (by decide) (fun c3 => ?_) (fun c3 => ?_)
        · have c3 : (J 13 44).toInt ≤ m2.toInt := tle rfl rfl c3
          refine lv_iload_n hx hb dX12_judge_57 rfl (lv_at hl 0 rfl) ?_
          have hWr : WB g A s.heap H locs (hv J [] [(13, 44)] (up2 J 13 44 0), L, I, P, E, N) (sgM g) := by
            rw [← ag_hvE (J := J) (R := []) (F := [(13, 44)]) (ag_up (Or.inr rfl) ag_rf)]
            exact hW
          have hwmr : WM (up2 J 13 44 0) := by exact wm_row0 hwm
          have hwmr : WM (hv J [] [(13, 44)] (up2 J 13 44 0)) := by
            rw [← ag_hvE (J := J) (R := []) (F := [(13, 44)]) (ag_up (Or.inr rfl) ag_rf)]; exact hwmr
          subst hQ9
          exact end_i C hr hlocks (up2 J 13 44 0) hWr ⟨hwmr, show ((0 : Int32)).toInt = 0 from by exact kp0, show JDG (J 130) (J 13 44).toInt m2.toInt from by first | exact Or.inl ⟨m2.toNatClampNeg, (by have h8 := tcl m2; omega), (by have h8 := tcl m2; omega), Or.inl (by have h8 := tcl m2; omega), fun j hj => hno j (by have h8 := tcl m2; omega)⟩ | exact Or.inl ⟨m2.toNatClampNeg, (by have h8 := tcl m2; omega), (by have h8 := tcl m2; omega), Or.inr (Or.inl (by omega)), fun j hj => hno j (by have h8 := tcl m2; omega)⟩ | exact Or.inl ⟨m2.toNatClampNeg, (by have h8 := tcl m2; omega), (by have h8 := tcl m2; omega), Or.inr (Or.inr (Or.inl (by omega))), fun j hj => hno j (by have h8 := tcl m2; omega)⟩ | exact Or.inl ⟨m2.toNatClampNeg, (by have h8 := tcl m2; omega), (by have h8 := tcl m2; omega), (by rcases Int.lt_or_le (J 130 m2.toNatClampNeg).toInt 0 with q | q; exact Or.inr (Or.inl q); exact Or.inr (Or.inr (Or.inl (by omega)))), fun j hj => hno j (by have h8 := tcl m2; omega)⟩⟩ dX12_judge_58
        · have c3 : m2.toInt < (J 13 44).toInt := tnle rfl rfl c3
          refine lv_aload_n hx hb dX12_judge_22 rfl (lv_at hl 2 rfl) ?_
          refine rg_13_30 C hW (mm_ rfl) tw_1053 dX12_judge_23 ?_
          refine lv_iload_n hx hb dX12_judge_26 rfl (lv_at hl 0 rfl) ?_
          have hin : vp_in m2 60 := tin rfl (by omega)
          refine ra_130 C hW (mm_ rfl) hin dX12_judge_27 ?_
          refine lv_topi (fun x4 (e4 : x4 = J 130 m2.toNatClampNeg) => ?_)
          have t4 : x4.toInt = (J 130 m2.toNatClampNeg).toInt := by rw [e4]
          refine lv_bipush (v := 10) hx hb dX12_judge_28 (by decide) ?_
          refine ci_ C hW (runS (As := [.int x4, .int 10]) (rest := []) (T := (((up2 J 13 44 0), L, I, P, E, N), sgM g)) C hW (c_X12_isIn l g (up2 J 13 44 0) L I P E N H.size x4 10 ) mi_X12_isIn tw_1255 ⟨rfl, rfl, Nat.le_of_ble_eq_true rfl, Nat.le_of_ble_eq_true rfl⟩ rfl hl.1 rfl (Nat.le_of_ble_eq_true rfl) dX12_judge_30 ⟨Nat.le_of_ble_eq_true rfl, Nat.le_of_ble_eq_true rfl⟩) (fun r5 u5 H locs hp5 hW => ?_)
          have hc5 : ((r5.toInt = 1 ∧ (0 ≤ x4.toInt ∧ x4.toInt < 10)) ∨ (r5.toInt = 0 ∧ (¬ (0 ≤ x4.toInt ∧ x4.toInt < 10)))) := hp5
          clear hp5
          have hW : WB g A s.heap H locs ((up2 J 13 44 0), L, I, P, E, N) (sgM g) := hW
          refine lv_if_eq (tgt := 57) hx hb dX12_judge_33 (by decide) (fun c6 => ?_) (fun c6 => ?_)
          · have c6 : r5.toInt = 0 := teq rfl kp0 c6
            refine lv_iload_n hx hb dX12_judge_57 rfl (lv_at hl 0 rfl) ?_
            have hWr : WB g A s.heap H locs (hv J [] [(13, 44)] (up2 J 13 44 0), L, I, P, E, N) (sgM g) := by
              rw [← ag_hvE (J := J) (R := []) (F := [(13, 44)]) (ag_up (Or.inr rfl) ag_rf)]
              exact hW
            have hwmr : WM (up2 J 13 44 0) := by exact wm_row0 hwm
            have hwmr : WM (hv J [] [(13, 44)] (up2 J 13 44 0)) := by
              rw [← ag_hvE (J := J) (R := []) (F := [(13, 44)]) (ag_up (Or.inr rfl) ag_rf)]; exact hwmr
            subst hQ9
            exact end_i C hr hlocks (up2 J 13 44 0) hWr ⟨hwmr, show ((0 : Int32)).toInt = 0 from by exact kp0, show JDG (J 130) (J 13 44).toInt m2.toInt from by first | exact Or.inl ⟨m2.toNatClampNeg, (by have h8 := tcl m2; omega), (by have h8 := tcl m2; omega), Or.inl (by have h8 := tcl m2; omega), fun j hj => hno j (by have h8 := tcl m2; omega)⟩ | exact Or.inl ⟨m2.toNatClampNeg, (by have h8 := tcl m2; omega), (by have h8 := tcl m2; omega), Or.inr (Or.inl (by omega)), fun j hj => hno j (by have h8 := tcl m2; omega)⟩ | exact Or.inl ⟨m2.toNatClampNeg, (by have h8 := tcl m2; omega), (by have h8 := tcl m2; omega), Or.inr (Or.inr (Or.inl (by omega))), fun j hj => hno j (by have h8 := tcl m2; omega)⟩ | exact Or.inl ⟨m2.toNatClampNeg, (by have h8 := tcl m2; omega), (by have h8 := tcl m2; omega), (by rcases Int.lt_or_le (J 130 m2.toNatClampNeg).toInt 0 with q | q; exact Or.inr (Or.inl q); exact Or.inr (Or.inr (Or.inl (by omega)))), fun j hj => hno j (by have h8 := tcl m2; omega)⟩⟩ dX12_judge_58
          · have c6 : ¬ r5.toInt = 0 := tne rfl kp0 c6
            refine lv_iload_n hx hb dX12_judge_36 rfl (lv_at hl 0 rfl) ?_
            refine lv_if_le (tgt := 59) hx hb dX12_judge_37 (by decide) (fun c7 => ?_) (fun c7 => ?_)
            · have c7 : m2.toInt ≤ 0 := tle rfl kp0 c7
              obtain ⟨x8, e8⟩ : ∃ y : Int32, y = m2 + 1 := ⟨_, rfl⟩
              refine lv_iinc (v := x8) (lv' := [(2, .int x8), (1, .int (J 13 44)), (0, .ref (g.2.2.1 13))]) hx hb dX12_judge_59 hl (k := 0) rfl (by rw [e8]; rfl) (by decide) rfl (fun ls hl => ?_)
              try have t8 : x8.toInt = m2.toInt + 1 := tadd e8 rfl kp1 (by omega)
              refine lv_goto (tgt := 12) hx hb dX12_judge_62 (by decide) ?_
              refine ih x8 H locs ls ?_ ?_ ?_ hW (lv_sub hl [0, 1, 2] rfl)
              · show (5 - x8.toInt).toNat < n
                omega
              · show 0 ≤ x8.toInt ∧ x8.toInt ≤ 5
                first | omega | exact hi | assumption
              · show ∀ j : Nat, (j : Int) < x8.toInt → ¬ JBAD (J 130) (J 13 44).toInt j
                first | exact jb_s (c := m2.toNatClampNeg) hno (by have h8 := tcl m2; omega) (by omega) (by have h8 := tcl m2; omega) (by omega) (by omega) (Or.inl (by have h8 := tcl m2; omega))
            · have c7 : 0 < m2.toInt := tnle rfl kp0 c7
              refine lv_aload_n hx hb dX12_judge_40 rfl (lv_at hl 2 rfl) ?_
              refine rg_13_30 C hW (mm_ rfl) tw_1053 dX12_judge_41 ?_
              refine lv_iload_n hx hb dX12_judge_44 rfl (lv_at hl 0 rfl) ?_
              have hin : vp_in m2 60 := tin rfl (by omega)
              refine ra_130 C hW (mm_ rfl) hin dX12_judge_45 ?_
              refine lv_topi (fun x9 (e9 : x9 = J 130 m2.toNatClampNeg) => ?_)
              have t9 : x9.toInt = (J 130 m2.toNatClampNeg).toInt := by rw [e9]
              refine lv_aload_n hx hb dX12_judge_46 rfl (lv_at hl 2 rfl) ?_
              refine rg_13_30 C hW (mm_ rfl) tw_1053 dX12_judge_47 ?_
              refine lv_iload_n hx hb dX12_judge_50 rfl (lv_at hl 0 rfl) ?_
              refine lv_iconst (v := 1) hx hb dX12_judge_51 (by decide) ?_
              refine lv_isub hx hb dX12_judge_52 ?_
              refine lv_topi (fun x10 (e10 : x10 = m2 - 1) => ?_)
              try have t10 : x10.toInt = m2.toInt - 1 := tsub e10 rfl kp1 (by omega)
              have hin : vp_in x10 60 := tin rfl (by omega)
              refine ra_130 C hW (mm_ rfl) hin dX12_judge_53 ?_
              refine lv_topi (fun x11 (e11 : x11 = J 130 x10.toNatClampNeg) => ?_)
              have t11 : x11.toInt = (J 130 x10.toNatClampNeg).toInt := by rw [e11]
              refine lv_icmp_ne (tgt := 59) hx hb dX12_judge_54 (by decide) (fun c12 => ?_) (fun c12 => ?_)
              · have c12 : ¬ x9.toInt = x11.toInt := tne rfl rfl c12
                obtain ⟨x13, e13⟩ : ∃ y : Int32, y = m2 + 1 := ⟨_, rfl⟩
                refine lv_iinc (v := x13) (lv' := [(2, .int x13), (1, .int (J 13 44)), (0, .ref (g.2.2.1 13))]) hx hb dX12_judge_59 hl (k := 0) rfl (by rw [e13]; rfl) (by decide) rfl (fun ls hl => ?_)
                try have t13 : x13.toInt = m2.toInt + 1 := tadd e13 rfl kp1 (by omega)
                refine lv_goto (tgt := 12) hx hb dX12_judge_62 (by decide) ?_
                refine ih x13 H locs ls ?_ ?_ ?_ hW (lv_sub hl [0, 1, 2] rfl)
                · show (5 - x13.toInt).toNat < n
                  omega
                · show 0 ≤ x13.toInt ∧ x13.toInt ≤ 5
                  first | omega | exact hi | assumption
                · show ∀ j : Nat, (j : Int) < x13.toInt → ¬ JBAD (J 130) (J 13 44).toInt j
                  first | exact jb_s (c := m2.toNatClampNeg) hno (by have h8 := tcl m2; omega) (by omega) (by have h8 := tcl m2; omega) (by omega) (by omega) (Or.inl (by have h8 := tcl m2; omega)) | exact jb_s (c := m2.toNatClampNeg) hno (by have h8 := tcl m2; omega) (by omega) (by have h8 := tcl m2; omega) (by omega) (by omega) (Or.inr (by rw [show m2.toNatClampNeg - 1 = x10.toNatClampNeg by (have h8 := tcl m2; have h9 := tcl x10; omega)]; omega))
              · have c12 : x9.toInt = x11.toInt := teq rfl rfl c12
                refine lv_iload_n hx hb dX12_judge_57 rfl (lv_at hl 0 rfl) ?_
                have hWr : WB g A s.heap H locs (hv J [] [(13, 44)] (up2 J 13 44 0), L, I, P, E, N) (sgM g) := by
                  rw [← ag_hvE (J := J) (R := []) (F := [(13, 44)]) (ag_up (Or.inr rfl) ag_rf)]
                  exact hW
                have hwmr : WM (up2 J 13 44 0) := by exact wm_row0 hwm
                have hwmr : WM (hv J [] [(13, 44)] (up2 J 13 44 0)) := by
                  rw [← ag_hvE (J := J) (R := []) (F := [(13, 44)]) (ag_up (Or.inr rfl) ag_rf)]; exact hwmr
                subst hQ9
                exact end_i C hr hlocks (up2 J 13 44 0) hWr ⟨hwmr, show ((0 : Int32)).toInt = 0 from by exact kp0, show JDG (J 130) (J 13 44).toInt m2.toInt from by first | exact Or.inl ⟨m2.toNatClampNeg, (by have h8 := tcl m2; omega), (by have h8 := tcl m2; omega), Or.inl (by have h8 := tcl m2; omega), fun j hj => hno j (by have h8 := tcl m2; omega)⟩ | exact Or.inl ⟨m2.toNatClampNeg, (by have h8 := tcl m2; omega), (by have h8 := tcl m2; omega), Or.inr (Or.inl (by omega)), fun j hj => hno j (by have h8 := tcl m2; omega)⟩ | exact Or.inl ⟨m2.toNatClampNeg, (by have h8 := tcl m2; omega), (by have h8 := tcl m2; omega), Or.inr (Or.inr (Or.inl (by omega))), fun j hj => hno j (by have h8 := tcl m2; omega)⟩ | exact Or.inl ⟨m2.toNatClampNeg, (by have h8 := tcl m2; omega), (by have h8 := tcl m2; omega), (by rcases Int.lt_or_le (J 130 m2.toNatClampNeg).toInt 0 with q | q; exact Or.inr (Or.inl q); exact Or.inr (Or.inr (Or.inl (by omega)))), fun j hj => hno j (by have h8 := tcl m2; omega)⟩ | exact Or.inl ⟨m2.toNatClampNeg, (by have h8 := tcl m2; omega), (by have h8 := tcl m2; omega), Or.inr (Or.inr (Or.inr ⟨(by have h8 := tcl m2; omega), (by rw [show m2.toNatClampNeg - 1 = x10.toNatClampNeg by (have h8 := tcl m2; have h9 := tcl x10; omega)]; omega)⟩)), fun j hj => hno j (by have h8 := tcl m2; omega)⟩⟩ dX12_judge_58
  -- into the loop
  refine loop12 ((5 - (0 : Int32).toInt).toNat + 1) 0 H locs ls ?_ ?_ ?_ hW (lv_sub hl [0, 1, 2] rfl)
  · exact Nat.lt_succ_self _
  · show 0 ≤ (0 : Int32).toInt ∧ (0 : Int32).toInt ≤ 5
    try rw [kp0]
    first | omega | exact hi | assumption
  · show ∀ j : Nat, (j : Int) < (0 : Int32).toInt → ¬ JBAD (J 130) (J 13 44).toInt j
    try rw [kp0]
    exact jb_0 kp0

set_option maxHeartbeats 4000000 in
set_option maxRecDepth 100000 in
theorem c_X12_check_e (l : Launch) (g : gG) (J : Nat → Nat → Int32) (L : Nat → Nat → Int64) (I : Nat → Nat → Nat → Int32) (P : Nat → Nat → Nat → Option Nat) (E : Nat → Option Nat) (N : Nat → Nat) (sz : Nat) (a0 : Int32) (hwm : WM J) : Met l yX12_check (WS yX12_check cX12_check 4 (some .int)) (RM (3) 0 0) (PC g [.ref (g.2.2.1 13), .int a0] ((J, L, I, P, E, N), sgM g) sz) (va_Qi (fun (r : Int32) (u : (Nat → Nat → Int32)) => WM (hv J [100] [(13, 44)] u) ∧ ((r.toInt = (-1) ∧ (¬ (0 ≤ a0.toInt ∧ a0.toInt < (J 13 31).toInt ∧ (J 13 44).toInt ≤ (J 13 31).toInt - a0.toInt)) ∧ u 13 44 = J 13 44 ∧ u 130 = J 130) ∨ (r = r ∧ (0 ≤ a0.toInt ∧ a0.toInt < (J 13 31).toInt ∧ (J 13 44).toInt ≤ (J 13 31).toInt - a0.toInt) ∧ (u 13 44).toInt = 0 ∧ u 130 = J 130 ∧ CHK (J 130) (J 116) a0.toInt (J 13 44).toInt r.toInt))) (fun u t => at_ g (FR g ((J, L, I, P, E, N), sgM g) sz) ((hv J [100] [(13, 44)] u, L, I, P, E, N), sgM g) t) (FR g ((J, L, I, P, E, N), sgM g) sz)) 0 0 (FR g ((J, L, I, P, E, N), sgM g) sz) := by
  refine ent (by decide +kernel) (Nat.le_of_ble_eq_true rfl) ?_
  intro p e s m below meth c ls hsz C hW hr hlocks hname hl
  generalize FR g ((J, L, I, P, E, N), sgM g) sz = A at C hW ⊢
  generalize hQ9 : (va_Qi (fun (r : Int32) (u : (Nat → Nat → Int32)) => WM (hv J [100] [(13, 44)] u) ∧ ((r.toInt = (-1) ∧ (¬ (0 ≤ a0.toInt ∧ a0.toInt < (J 13 31).toInt ∧ (J 13 44).toInt ≤ (J 13 31).toInt - a0.toInt)) ∧ u 13 44 = J 13 44 ∧ u 130 = J 130) ∨ (r = r ∧ (0 ≤ a0.toInt ∧ a0.toInt < (J 13 31).toInt ∧ (J 13 44).toInt ≤ (J 13 31).toInt - a0.toInt) ∧ (u 13 44).toInt = 0 ∧ u 130 = J 130 ∧ CHK (J 130) (J 116) a0.toInt (J 13 44).toInt r.toInt))) (fun u t => at_ g A ((hv J [100] [(13, 44)] u, L, I, P, E, N), sgM g) t) A) = Q9
  have hx := C.1.1
  have hb := C.1.2.1
  have hts := C.1.2.2.2.2
  have hW : WB g A s.heap s.heap [] (J, L, I, P, E, N) (sgM g) := hW
  have hl : lv_has ls 4 [(0, .ref (g.2.2.1 13)), (1, .int a0)] := hl
  obtain ⟨H, hH⟩ : ∃ H : Heap, H = s.heap := ⟨_, rfl⟩
  obtain ⟨locs, hlocs⟩ : ∃ q : List Loc, q = [] := ⟨_, rfl⟩
  have hW : WB g A s.heap H locs (J, L, I, P, E, N) (sgM g) := by rw [hH, hlocs]; exact hW
  obtain ⟨⟨hnd1, hnd2, hon, hhm1, hhm2, hhN, hcu1, hcu2, hco1, hco2, hcN⟩, ⟨hrd1, hrd2⟩, ⟨hnw1, hnw2, hns1, hns2, hof⟩, ⟨htm1, htm2, hts_⟩, ⟨had1, had2, hrw1, hrw2, htp1, htp2⟩⟩ := id hwm
  refine start_ hH hlocs ?_
  refine lv_aload_n hx hb dX12_check_0 rfl (lv_at hl 0 rfl) ?_
  refine lv_iload_n hx hb dX12_check_1 rfl (lv_at hl 1 rfl) ?_
  refine ci_ C hW (runV (x := (g.2.2.1 13)) (As := [.int a0]) (rest := []) (T := ((J, L, I, P, E, N), sgM g)) C hW (c_X12_isPast l g J L I P E N H.size a0 hwm) mi_X12_isPast tw_1326 (recv_ (T := ((J, L, I, P, E, N), sgM g)) C hW (mm_ rfl) rfl rfl) ⟨rfl, rfl, Nat.le_of_ble_eq_true rfl, Nat.le_of_ble_eq_true rfl⟩ rfl hl.1 rfl (Nat.le_of_ble_eq_true rfl) dX12_check_2 ⟨Nat.le_of_ble_eq_true rfl, Nat.le_of_ble_eq_true rfl⟩) (fun r1 u1 H locs hp1 hW => ?_)
  have hc1 : ((r1.toInt = 1 ∧ (0 ≤ a0.toInt ∧ a0.toInt < (J 13 31).toInt)) ∨ (r1.toInt = 0 ∧ (¬ (0 ≤ a0.toInt ∧ a0.toInt < (J 13 31).toInt)))) := hp1
  clear hp1
  have hW : WB g A s.heap H locs (J, L, I, P, E, N) (sgM g) := hW
  refine lv_if_eq (tgt := 21) hx hb dX12_check_5 (by decide) (fun c2 => ?_) (fun c2 => ?_)
  · have c2 : r1.toInt = 0 := teq rfl kp0 c2
    refine lv_aload_n hx hb dX12_check_21 rfl (lv_at hl 0 rfl) ?_
    refine lv_iconst (v := (-1)) hx hb dX12_check_22 (by decide) ?_
    refine ci_ C hW (runV (x := (g.2.2.1 13)) (As := [.int (-1)]) (rest := []) (T := ((J, L, I, P, E, N), sgM g)) C hW (c_X12_refuse l g J L I P E N H.size (-1) (show -6 ≤ (-1 : Int32).toInt ∧ (-1 : Int32).toInt ≤ -1 from by (try simp only [kn1]); omega)) mi_X12_refuse tw_1239 (recv_ (T := ((J, L, I, P, E, N), sgM g)) C hW (mm_ rfl) rfl rfl) ⟨rfl, rfl, Nat.le_of_ble_eq_true rfl, Nat.le_of_ble_eq_true rfl⟩ rfl hl.1 rfl (Nat.le_of_ble_eq_true rfl) dX12_check_23 ⟨Nat.le_of_ble_eq_true rfl, Nat.le_of_ble_eq_true rfl⟩) (fun r3 u3 H locs hp3 hW => ?_)
    have hc3 : ((r3 = (-1))) := hp3
    clear hp3
    have hr3 : r3.toInt = (-1) := by rw [hc3]; exact kn1
    have hW : WB g A s.heap H locs ((hv J [100] [] u3), L, I, P, E, N) (sgM g) := hW
    have hWr : WB g A s.heap H locs (hv J [100] [(13, 44)] (hv J [100] [] u3), L, I, P, E, N) (sgM g) := by
      rw [← ag_hvE (J := J) (R := [100]) (F := [(13, 44)]) (ag_hv rfl rfl ag_rf)]
      exact hW
    have hwmr : WM (hv J [100] [] u3) := by first | exact hwm | exact wm_row0 hwm
    have hwmr : WM (hv J [100] [(13, 44)] (hv J [100] [] u3)) := by
      rw [← ag_hvE (J := J) (R := [100]) (F := [(13, 44)]) (ag_hv rfl rfl ag_rf)]; exact hwmr
    subst hQ9
    exact end_i C hr hlocks (hv J [100] [] u3) hWr ⟨hwmr, by first | exact Or.inl ⟨by omega, by omega, show J 13 44 = J 13 44 from by first | rfl | assumption, show J 130 = J 130 from by first | rfl | assumption⟩⟩ dX12_check_26
  · have c2 : ¬ r1.toInt = 0 := tne rfl kp0 c2
    refine lv_aload_n hx hb dX12_check_8 rfl (lv_at hl 0 rfl) ?_
    refine rg_13_44 C hW (mm_ rfl) tw_1067 dX12_check_9 ?_
    refine lv_aload_n hx hb dX12_check_12 rfl (lv_at hl 0 rfl) ?_
    refine rg_13_31 C hW (mm_ rfl) tw_1054 dX12_check_13 ?_
    refine lv_iload_n hx hb dX12_check_16 rfl (lv_at hl 1 rfl) ?_
    refine lv_isub hx hb dX12_check_17 ?_
    refine lv_topi (fun x4 (e4 : x4 = (J 13 31) - a0) => ?_)
    try have t4 : x4.toInt = (J 13 31).toInt - a0.toInt := tsub e4 rfl rfl (by omega)
    refine lv_icmp_le (tgt := 27) hx hb dX12_check_18 (by decide) (fun c5 => ?_) (fun c5 => ?_)
    · have c5 : (J 13 44).toInt ≤ x4.toInt := tle rfl rfl c5
      refine lv_aload_n hx hb dX12_check_27 rfl (lv_at hl 0 rfl) ?_
      refine rg_13_44 C hW (mm_ rfl) tw_1067 dX12_check_28 ?_
      refine lv_istore_n (lv' := [(2, .int (J 13 44)), (0, .ref (g.2.2.1 13)), (1, .int a0)]) hx hb dX12_check_31 rfl hl (by decide) rfl (fun ls hl => ?_)
      refine lv_aload_n hx hb dX12_check_32 rfl (lv_at hl 1 rfl) ?_
      refine lv_iconst (v := 0) hx hb dX12_check_33 (by decide) ?_
      refine rp_13_44 C hW (mm_ rfl) tw_1067 dX12_check_34 (fun H locs hW => ?_)
      refine lv_iconst (v := 0) hx hb dX12_check_37 (by decide) ?_
      refine lv_istore_n (lv' := [(3, .int 0), (2, .int (J 13 44)), (0, .ref (g.2.2.1 13)), (1, .int a0)]) hx hb dX12_check_38 rfl hl (by decide) rfl (fun ls hl => ?_)
      have loop39 : ∀ (n : Nat) (m3 : Int32) (H : Heap) (locs : List Loc) (ls : Array Slot), (60 - m3.toInt).toNat < n → 0 ≤ m3.toInt ∧ m3.toInt ≤ (J 13 44).toInt → (∀ j : Nat, (j : Int) < m3.toInt → (J 130 j).toInt = (J 116 (a0.toInt.toNat + j)).toInt) → WB g A s.heap H locs ((up2 J 13 44 0), L, I, P, E, N) (sgM g) → lv_has ls 4 [(3, .int m3), (2, .int (J 13 44)), (0, .ref (g.2.2.1 13)), (1, .int a0)] → W p l e (RM (3) 0 0) s m ([.ref (g.2.2.1 13), .int a0] : List Value).toArray below meth c H locs 0 0 (MQ below Q9 ([.ref (g.2.2.1 13), .int a0] : List Value).toArray s 0 0 A) (F0 m 39 ls []) := by
        intro n
        induction n with
        | zero => intro m3 H locs ls hmeas; exact absurd hmeas (Nat.not_lt_zero _)
        | succ n ih =>
          intro m3 H locs ls hmeas hi hno hW hl
          refine lv_iload_n hx hb dX12_check_39 rfl (lv_at hl 0 rfl) ?_
          refine lv_iload_n hx hb dX12_check_40 rfl (lv_at hl 1 rfl) ?_
          refine lv_icmp_ge (tgt := 69) hx hb dX12_check_41 (by decide) (fun c6 => ?_) (fun c6 => ?_)
          · have c6 : (J 13 44).toInt ≤ m3.toInt := tle rfl rfl c6
            refine lv_bipush (v := (-9)) hx hb dX12_check_69 (by decide) ?_
            have hWr : WB g A s.heap H locs (hv J [100] [(13, 44)] (up2 J 13 44 0), L, I, P, E, N) (sgM g) := by
              rw [← ag_hvE (J := J) (R := [100]) (F := [(13, 44)]) (ag_up (Or.inr rfl) ag_rf)]
              exact hW
            have hwmr : WM (up2 J 13 44 0) := by first | exact hwm | exact wm_row0 hwm
            have hwmr : WM (hv J [100] [(13, 44)] (up2 J 13 44 0)) := by
              rw [← ag_hvE (J := J) (R := [100]) (F := [(13, 44)]) (ag_up (Or.inr rfl) ag_rf)]; exact hwmr
            subst hQ9
            exact end_i C hr hlocks (up2 J 13 44 0) hWr ⟨hwmr, by first | exact Or.inr (⟨by first | rfl | assumption, by omega, show ((0 : Int32)).toInt = 0 from (by first | rfl | exact kp0 | exact (by exact Or.inr ⟨fun j hj => hno j (by omega), rfl⟩)), show J 130 = J 130 from (by first | rfl | exact kp0 | exact (by exact Or.inr ⟨fun j hj => hno j (by omega), rfl⟩)), show CHK (J 130) (J 116) a0.toInt (J 13 44).toInt (-9) from (by first | rfl | exact kp0 | exact (by exact Or.inr ⟨fun j hj => hno j (by omega), rfl⟩))⟩)⟩ dX12_check_71
          · have c6 : m3.toInt < (J 13 44).toInt := tnle rfl rfl c6
            refine lv_aload_n hx hb dX12_check_44 rfl (lv_at hl 2 rfl) ?_
            refine rg_13_30 C hW (mm_ rfl) tw_1053 dX12_check_45 ?_
            refine lv_iload_n hx hb dX12_check_48 rfl (lv_at hl 0 rfl) ?_
            have hin : vp_in m3 60 := tin rfl (by omega)
            refine ra_130 C hW (mm_ rfl) hin dX12_check_49 ?_
            refine lv_topi (fun x7 (e7 : x7 = J 130 m3.toNatClampNeg) => ?_)
            have t7 : x7.toInt = (J 130 m3.toNatClampNeg).toInt := by rw [e7]
            refine lv_aload_n hx hb dX12_check_50 rfl (lv_at hl 2 rfl) ?_
            refine rg_13_16 C hW (mm_ rfl) tw_1039 dX12_check_51 ?_
            refine lv_iload_n hx hb dX12_check_54 rfl (lv_at hl 3 rfl) ?_
            refine lv_iload_n hx hb dX12_check_55 rfl (lv_at hl 0 rfl) ?_
            refine lv_iadd hx hb dX12_check_56 ?_
            refine lv_topi (fun x8 (e8 : x8 = a0 + m3) => ?_)
            try have t8 : x8.toInt = a0.toInt + m3.toInt := tadd e8 rfl rfl (by omega)
            have hin : vp_in x8 10000 := tin rfl (by omega)
            refine ra_116 C hW (mm_ rfl) hin dX12_check_57 ?_
            refine lv_topi (fun x9 (e9 : x9 = J 116 x8.toNatClampNeg) => ?_)
            have t9 : x9.toInt = (J 116 x8.toNatClampNeg).toInt := by rw [e9]
            refine lv_icmp_eq (tgt := 63) hx hb dX12_check_58 (by decide) (fun c10 => ?_) (fun c10 => ?_)
            · have c10 : x7.toInt = x9.toInt := teq rfl rfl c10
              obtain ⟨x11, e11⟩ : ∃ y : Int32, y = m3 + 1 := ⟨_, rfl⟩
              refine lv_iinc (v := x11) (lv' := [(3, .int x11), (2, .int (J 13 44)), (0, .ref (g.2.2.1 13)), (1, .int a0)]) hx hb dX12_check_63 hl (k := 0) rfl (by rw [e11]; rfl) (by decide) rfl (fun ls hl => ?_)
              try have t11 : x11.toInt = m3.toInt + 1 := tadd e11 rfl kp1 (by omega)
              refine lv_goto (tgt := 39) hx hb dX12_check_66 (by decide) ?_
              refine ih x11 H locs ls ?_ ?_ ?_ hW (lv_sub hl [0, 1, 2, 3] rfl)
              · show (60 - x11.toInt).toNat < n
                omega
              · show 0 ≤ x11.toInt ∧ x11.toInt ≤ (J 13 44).toInt
                first | omega | exact hi | assumption
              · show ∀ j : Nat, (j : Int) < x11.toInt → (J 130 j).toInt = (J 116 (a0.toInt.toNat + j)).toInt
                exact ck_s (c := m3.toNatClampNeg) hno (by have h8 := tcl m3; omega) (by omega) (by rw [show a0.toInt.toNat + m3.toNatClampNeg = x8.toNatClampNeg by (have h8 := tcl m3; have h9 := tcl x8; omega)]; omega)
            · have c10 : ¬ x7.toInt = x9.toInt := tne rfl rfl c10
              refine lv_iload_n hx hb dX12_check_61 rfl (lv_at hl 0 rfl) ?_
              have hWr : WB g A s.heap H locs (hv J [100] [(13, 44)] (up2 J 13 44 0), L, I, P, E, N) (sgM g) := by
                rw [← ag_hvE (J := J) (R := [100]) (F := [(13, 44)]) (ag_up (Or.inr rfl) ag_rf)]
                exact hW
              have hwmr : WM (up2 J 13 44 0) := by first | exact hwm | exact wm_row0 hwm
              have hwmr : WM (hv J [100] [(13, 44)] (up2 J 13 44 0)) := by
                rw [← ag_hvE (J := J) (R := [100]) (F := [(13, 44)]) (ag_up (Or.inr rfl) ag_rf)]; exact hwmr
              subst hQ9
              exact end_i C hr hlocks (up2 J 13 44 0) hWr ⟨hwmr, by first | exact Or.inr (⟨by first | rfl | assumption, by omega, show ((0 : Int32)).toInt = 0 from (by first | rfl | exact kp0 | exact (by exact Or.inl ⟨m3.toNatClampNeg, (by have h8 := tcl m3; omega), (by have h8 := tcl m3; omega), (by rw [show a0.toInt.toNat + m3.toNatClampNeg = x8.toNatClampNeg by (have h8 := tcl m3; have h9 := tcl x8; omega)]; omega), fun j hj => hno j (by have h8 := tcl m3; omega)⟩)), show J 130 = J 130 from (by first | rfl | exact kp0 | exact (by exact Or.inl ⟨m3.toNatClampNeg, (by have h8 := tcl m3; omega), (by have h8 := tcl m3; omega), (by rw [show a0.toInt.toNat + m3.toNatClampNeg = x8.toNatClampNeg by (have h8 := tcl m3; have h9 := tcl x8; omega)]; omega), fun j hj => hno j (by have h8 := tcl m3; omega)⟩)), show CHK (J 130) (J 116) a0.toInt (J 13 44).toInt m3.toInt from (by first | rfl | exact kp0 | exact (by exact Or.inl ⟨m3.toNatClampNeg, (by have h8 := tcl m3; omega), (by have h8 := tcl m3; omega), (by rw [show a0.toInt.toNat + m3.toNatClampNeg = x8.toNatClampNeg by (have h8 := tcl m3; have h9 := tcl x8; omega)]; omega), fun j hj => hno j (by have h8 := tcl m3; omega)⟩))⟩)⟩ dX12_check_62
      -- into the loop
      refine loop39 ((60 - (0 : Int32).toInt).toNat + 1) 0 H locs ls ?_ ?_ ?_ hW (lv_sub hl [0, 1, 2, 3] rfl)
      · exact Nat.lt_succ_self _
      · show 0 ≤ (0 : Int32).toInt ∧ (0 : Int32).toInt ≤ (J 13 44).toInt
        try rw [kp0]
        first | omega | exact hi | assumption
      · show ∀ j : Nat, (j : Int) < (0 : Int32).toInt → (J 130 j).toInt = (J 116 (a0.toInt.toNat + j)).toInt
        try rw [kp0]
        exact ck_0 kp0
    · have c5 : x4.toInt < (J 13 44).toInt := tnle rfl rfl c5
      refine lv_aload_n hx hb dX12_check_21 rfl (lv_at hl 0 rfl) ?_
      refine lv_iconst (v := (-1)) hx hb dX12_check_22 (by decide) ?_
      refine ci_ C hW (runV (x := (g.2.2.1 13)) (As := [.int (-1)]) (rest := []) (T := ((J, L, I, P, E, N), sgM g)) C hW (c_X12_refuse l g J L I P E N H.size (-1) (show -6 ≤ (-1 : Int32).toInt ∧ (-1 : Int32).toInt ≤ -1 from by (try simp only [kn1]); omega)) mi_X12_refuse tw_1239 (recv_ (T := ((J, L, I, P, E, N), sgM g)) C hW (mm_ rfl) rfl rfl) ⟨rfl, rfl, Nat.le_of_ble_eq_true rfl, Nat.le_of_ble_eq_true rfl⟩ rfl hl.1 rfl (Nat.le_of_ble_eq_true rfl) dX12_check_23 ⟨Nat.le_of_ble_eq_true rfl, Nat.le_of_ble_eq_true rfl⟩) (fun r12 u12 H locs hp12 hW => ?_)
      have hc12 : ((r12 = (-1))) := hp12
      clear hp12
      have hr12 : r12.toInt = (-1) := by rw [hc12]; exact kn1
      have hW : WB g A s.heap H locs ((hv J [100] [] u12), L, I, P, E, N) (sgM g) := hW
      have hWr : WB g A s.heap H locs (hv J [100] [(13, 44)] (hv J [100] [] u12), L, I, P, E, N) (sgM g) := by
        rw [← ag_hvE (J := J) (R := [100]) (F := [(13, 44)]) (ag_hv rfl rfl ag_rf)]
        exact hW
      have hwmr : WM (hv J [100] [] u12) := by first | exact hwm | exact wm_row0 hwm
      have hwmr : WM (hv J [100] [(13, 44)] (hv J [100] [] u12)) := by
        rw [← ag_hvE (J := J) (R := [100]) (F := [(13, 44)]) (ag_hv rfl rfl ag_rf)]; exact hwmr
      subst hQ9
      exact end_i C hr hlocks (hv J [100] [] u12) hWr ⟨hwmr, by first | exact Or.inl ⟨by omega, by omega, show J 13 44 = J 13 44 from by first | rfl | assumption, show J 130 = J 130 from by first | rfl | assumption⟩⟩ dX12_check_26
