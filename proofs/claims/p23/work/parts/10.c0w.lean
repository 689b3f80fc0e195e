/-- how many heard a minute: surely, at most -/
def TLY (q : (Nat → Int32) → Prop) (kd : Int32) (hf : (Nat → Int32) → Nat → Int) (nh : Nat) (s m : Int32) : Prop := (kd.toInt = 6 → s.toInt = 0 ∧ m.toInt = 0) ∧ (¬ kd.toInt = 6 → ∃ x : Nat → Int32, q x ∧ s.toInt = CT2 (hf x) nh ∧ m.toInt = CT1 (hf x) nh)
/-- the terms that don't ask for a letter don't hold it -/
def ASK (I : Nat → Nat → Nat → Int32) (P : Nat → Nat → Nat → Option Nat) (E : Nat → Option Nat) (N : Nat → Nat) (n : Int) : Prop := ∀ k : Nat, (k : Int) < n → ((I 10 3 (elt E P 25 k)).toInt = 0 → ∀ c ∈ CD I P E N k, ¬ c = -115 ∧ ¬ c = -109) ∧ ((I 10 4 (elt E P 25 k)).toInt = 0 → ∀ c ∈ CD I P E N k, ¬ c = -97)
section ASKS
variable {I I' : Nat → Nat → Nat → Int32} {E E' : Nat → Option Nat} {P P' : Nat → Nat → Nat → Option Nat} {N N' : Nat → Nat} {n n' p m : Int} {dy : List (Nat × Nat)} {k o : Nat} {r : Int32}
theorem cs_memi {x : Nat → Int32} {n : Nat} {c : Int} (h : c ∈ cs x 0 n) : ∃ i, i < n ∧ c = (x i).toInt := by
  obtain ⟨i, hi, e⟩ := List.mem_map.mp h
  rw [List.mem_range'_1] at hi
  exact ⟨i, by omega, e.symm⟩
theorem ask_new {q c n0 j : Nat} {x : Nat → Int32} {w a : Int32} (he : elt E' P' 25 j = q) (hP : P' 10 2 q = some c) (hN : N' c = n0) (hw : I' 10 3 q = w) (ha : I' 10 4 q = a) (hI : ∀ i : Nat, i < n0 → I' 46 i c = x i) (f0 : w.toInt = 0 → ∀ i : Nat, i < n0 → ¬ (x i).toInt = -115 ∧ ¬ (x i).toInt = -109) (f1 : a.toInt = 0 → ∀ i : Nat, i < n0 → ¬ (x i).toInt = -97) : ((I' 10 3 (elt E' P' 25 j)).toInt = 0 → ∀ c ∈ CD I' P' E' N' j, ¬ c = -115 ∧ ¬ c = -109) ∧ ((I' 10 4 (elt E' P' 25 j)).toInt = 0 → ∀ c ∈ CD I' P' E' N' j, ¬ c = -97) := by
  rw [cd_eq he.symm hP, hN, he, hw, ha]
  refine ⟨fun h c9 h9 => ?_, fun h c9 h9 => ?_⟩
  · obtain ⟨i, hi, e⟩ := cs_memi h9
    rw [e, hI i hi]; exact f0 h i hi
  · obtain ⟨i, hi, e⟩ := cs_memi h9
    rw [e, hI i hi]; exact f1 h i hi
theorem ask_keep (h : ASK I P E N n) (hn : n' = n) (he : ∀ k : Nat, elt E' P' 25 k = elt E P 25 k) (hI : I' 10 = I 10) (hC : ∀ k : Nat, (k : Int) < n → CD I' P' E' N' k = CD I P E N k) : ASK I' P' E' N' n' := by
  subst hn
  intro k hk
  rw [he k, hI, hC k hk]; exact h k hk
theorem ask_add (h : ASK I P E N n) (hN : NOBJ I I' E E' P P' 25 10 n dy) (hd : ∀ k : Nat, (k : Int) < n → (10, elt E P 25 k) ∈ dy) (hn : n' = n + 1) (hO : ∀ k : Nat, (k : Int) < n → CD I' P' E' N' k = CD I P E N k) (hA : ∀ j : Nat, (j : Int) = n → ((I' 10 3 (elt E' P' 25 j)).toInt = 0 → ∀ c ∈ CD I' P' E' N' j, ¬ c = -115 ∧ ¬ c = -109) ∧ ((I' 10 4 (elt E' P' 25 j)).toInt = 0 → ∀ c ∈ CD I' P' E' N' j, ¬ c = -97)) : ASK I' P' E' N' n' := by
  subst hn
  intro k hk
  by_cases e : (k : Int) < n
  · rw [hN.1 k e, hN.2.1 _ (hd k e) 3, hN.2.1 _ (hd k e) 4, hO k e]; exact h k e
  · exact hA k (by omega)
theorem ask_N {g : gG} {J : Nat → Nat → Int32} (hwf : WXF g J P E N dy) (h : ASK I P E N n) (hn : n = (J 25 2).toInt) (hN : ∀ y ∈ dy, N' y.2 = N y.2) : ASK I P E N' n := by
  subst hn
  have hC := cd_old (I' := I) (P' := P) (E' := E) hwf (fun _ _ => rfl) (fun _ _ => rfl) (fun b hb => hN (46, b) hb) (fun _ _ _ => rfl)
  intro k hk
  rw [hC k hk]; exact h k hk
theorem wi_some {L : Int32 → Int32 → Int → Int32} {T : Int32 → Int32 → Prop} {b : Nat} (hk : ∃ k : Nat, o = elt E P 25 k ∧ INF (TPU I E P) (TFR I E P) n p m k) (hb : P 10 2 o = some b) (hv : ∀ b : Nat, P 10 2 o = some b → ∃ s m' : Int32, r = WGH (L s m') (cs (fun i => I 46 i b) 0 (N b)) ∧ (¬ (I 10 3 o).toInt = 0 → T s m')) : ∃ k : Nat, INF (TPU I E P) (TFR I E P) n p m k ∧ ∃ s m' : Int32, r = WGH (L s m') (CD I P E N k) ∧ (¬ (I 10 3 (elt E P 25 k)).toInt = 0 → T s m') := by
  obtain ⟨k, ho, hi⟩ := hk
  obtain ⟨s, m', h1, h2⟩ := hv b hb
  exact ⟨k, hi, s, m', by rw [cd_eq ho hb]; exact h1, by rw [← ho]; exact h2⟩
/-- both sides of worth -/
def WIF (I : Nat → Nat → Nat → Int32) (P : Nat → Nat → Nat → Option Nat) (E : Nat → Option Nat) (N : Nat → Nat) (n p m : Int) (L : Int32 → Int32 → Int → Int32) (T : Int32 → Int32 → Prop) (r : Int32) : Prop := (INN (TPU I E P) (TFR I E P) n p m ∧ ((¬ p = 2 ∧ r.toInt = 0) ∨ (p = 2 ∧ ∃ s : Int32, T s r))) ∨ ∃ k : Nat, INF (TPU I E P) (TFR I E P) n p m k ∧ ∃ s m' : Int32, r = WGH (L s m') (CD I P E N k) ∧ (¬ (I 10 3 (elt E P 25 k)).toInt = 0 → T s m')
end ASKS
set_option maxHeartbeats 4000000 in
set_option maxRecDepth 100000 in
theorem c_X9_holds_e (l : Launch) (g : gG) (J : Nat → Nat → Int32) (L : Nat → Nat → Int64) (I : Nat → Nat → Nat → Int32) (P : Nat → Nat → Nat → Option Nat) (E : Nat → Option Nat) (N : Nat → Nat) (dy : List (Nat × Nat)) (sz : Nat) (a0 : Nat) (hm0 : (46, a0) ∈ dy) (a1 : Int32) (hN : N a0 ≤ 60) (hch : 0 ≤ a1.toInt ∧ a1.toInt ≤ 200) : Met l yX9_holds (WS yX9_holds cX9_holds 6 (some .boolean)) (RM (1) 0 0) (PC g [.ref a0, .int a1] ((J, L, I, P, E, N), sgX g ++ dy) sz) (va_Qi (fun (r : Int32) (u : Unit) => ((r.toInt = 1) ∨ (r.toInt = 0 ∧ (∀ i : Nat, i < N a0 → ¬ (I 46 i a0).toInt = -a1.toInt)))) (fun u t => at_ g (FR g ((J, L, I, P, E, N), sgX g ++ dy) sz) ((J, L, I, P, E, N), sgX g ++ dy) t) (FR g ((J, L, I, P, E, N), sgX g ++ dy) sz)) 0 0 (FR g ((J, L, I, P, E, N), sgX g ++ dy) sz) := by
  refine ent (by decide +kernel) (Nat.le_of_ble_eq_true rfl) ?_
  intro p e s m below meth c ls hsz C hW hr hlocks hname hl
  generalize FR g ((J, L, I, P, E, N), sgX g ++ dy) sz = A at C hW ⊢
  generalize hQ9 : (va_Qi (fun (r : Int32) (u : Unit) => ((r.toInt = 1) ∨ (r.toInt = 0 ∧ (∀ i : Nat, i < N a0 → ¬ (I 46 i a0).toInt = -a1.toInt)))) (fun u t => at_ g A ((J, L, I, P, E, N), sgX g ++ dy) t) A) = Q9
  have hx := C.1.1
  have hb := C.1.2.1
  have hts := C.1.2.2.2.2
  have hl : lv_has ls 6 [(0, .ref a0), (1, .int a1)] := hl
  obtain ⟨H, hH⟩ : ∃ H : Heap, H = s.heap := ⟨_, rfl⟩
  obtain ⟨locs, hlocs⟩ : ∃ q : List Loc, q = [] := ⟨_, rfl⟩
  have hW : WB g A s.heap H locs (J, L, I, P, E, N) (sgX g ++ dy) := by rw [hH, hlocs]; exact hW
  refine start_ hH hlocs ?_
  refine lv_aload_n hx hb dX9_holds_0 rfl (lv_at hl 0 rfl) ?_
  refine lv_astore_n (lv' := [(2, .ref a0), (0, .ref a0), (1, .int a1)]) hx hb dX9_holds_1 rfl hl (by decide) rfl (fun ls hl => ?_)
  refine lv_aload_n hx hb dX9_holds_2 rfl (lv_at hl 0 rfl) ?_
  obtain ⟨x1, e1⟩ : ∃ y : Int32, y = Int32.ofNat (N a0) := ⟨_, rfl⟩
  have t1 : x1.toInt = (N a0 : Int) := by rw [e1]; exact Int32.toInt_ofNat_of_lt (by omega)
  refine g_alen (t0 := 0) C hW (List.mem_append_right _ hm0) rfl rfl e1.symm dX9_holds_3 ?_
  refine lv_istore_n (lv' := [(3, .int x1), (2, .ref a0), (0, .ref a0), (1, .int a1)]) hx hb dX9_holds_4 rfl hl (by decide) rfl (fun ls hl => ?_)
  refine lv_iconst (v := 0) hx hb dX9_holds_5 (by decide) ?_
  refine lv_istore (lv' := [(4, .int 0), (3, .int x1), (2, .ref a0), (0, .ref a0), (1, .int a1)]) hx hb dX9_holds_6 hl (by decide) rfl (fun ls hl => ?_)
  have loop8 : ∀ (n : Nat) (m4 : Int32) (H : Heap) (locs : List Loc) (ls : Array Slot), ((N a0 : Int) - m4.toInt).toNat < n → 0 ≤ m4.toInt ∧ m4.toInt ≤ (N a0 : Int) → (∀ i : Nat, (i : Int) < m4.toInt → ¬ (I 46 i a0).toInt = -a1.toInt) → WB g A s.heap H locs (J, L, I, P, E, N) (sgX g ++ dy) → lv_has ls 6 [(4, .int m4), (3, .int x1), (2, .ref a0), (0, .ref a0), (1, .int a1)] → W p l e (RM (1) 0 0) s m ([.ref a0, .int a1] : List Value).toArray below meth c H locs 0 0 (MQ below Q9 ([.ref a0, .int a1] : List Value).toArray s 0 0 A) (F0 m 8 ls []) := by
    intro n
    induction n with
    | zero => intro m4 H locs ls hmeas; exact absurd hmeas (Nat.not_lt_zero _)
    | succ n ih =>
      intro m4 H locs ls hmeas hi hno hW hl
      refine lv_iload hx hb dX9_holds_8 (lv_at hl 0 rfl) ?_
      refine lv_iload_n hx hb dX9_holds_10 rfl (lv_at hl 1 rfl) ?_
      refine lv_icmp_ge (tgt := 35) hx hb dX9_holds_11 (by decide) (fun c2 => ?_) (fun c2 => ?_)
      · have c2 : x1.toInt ≤ m4.toInt := tle rfl rfl c2
        refine lv_iconst (v := 0) hx hb dX9_holds_35 (by decide) ?_
        subst hQ9
        exact end_z C hr hlocks (by decide) () hW (by first | exact Or.inr (⟨by decide, show (∀ i : Nat, i < N a0 → ¬ (I 46 i a0).toInt = -a1.toInt) from (by exact fun i hi => hno i (by omega))⟩)) dX9_holds_36
      · have c2 : m4.toInt < x1.toInt := tnle rfl rfl c2
        refine lv_aload_n hx hb dX9_holds_14 rfl (lv_at hl 2 rfl) ?_
        refine lv_iload hx hb dX9_holds_15 (lv_at hl 0 rfl) ?_
        have hin17 : vp_in m4 (N a0) := tin rfl (by omega)
        refine g_iald C hW (List.mem_append_right _ hm0) rfl hin17 dX9_holds_17 ?_
        refine lv_topi (fun x3 (e3 : x3 = I 46 m4.toNatClampNeg a0) => ?_)
        refine lv_istore (lv' := [(5, .int x3), (4, .int m4), (3, .int x1), (2, .ref a0), (0, .ref a0), (1, .int a1)]) hx hb dX9_holds_18 hl (by decide) rfl (fun ls hl => ?_)
        refine lv_iload hx hb dX9_holds_20 (lv_at hl 0 rfl) ?_
        refine lv_iload_n hx hb dX9_holds_22 rfl (lv_at hl 5 rfl) ?_
        refine lv_ineg hx hb dX9_holds_23 ?_
        refine lv_topi (fun x4 (e4 : x4 = -a1) => ?_)
        try have t4 : x4.toInt = -a1.toInt := tneg e4 rfl (by omega)
        refine lv_icmp_ne (tgt := 29) hx hb dX9_holds_24 (by decide) (fun c5 => ?_) (fun c5 => ?_)
        · have c5 : ¬ x3.toInt = x4.toInt := tne rfl rfl c5
          obtain ⟨x6, e6⟩ : ∃ y : Int32, y = m4 + 1 := ⟨_, rfl⟩
          refine lv_iinc (v := x6) (lv' := [(4, .int x6), (5, .int x3), (3, .int x1), (2, .ref a0), (0, .ref a0), (1, .int a1)]) hx hb dX9_holds_29 hl (k := 1) rfl (by rw [e6]; rfl) (by decide) rfl (fun ls hl => ?_)
          try have t6 : x6.toInt = m4.toInt + 1 := tadd e6 rfl kp1 (by omega)
          refine lv_goto (tgt := 8) hx hb dX9_holds_32 (by decide) ?_
          refine ih x6 H locs ls ?_ ?_ ?_ hW (lv_sub hl [0, 2, 3, 4, 5] rfl)
          · show ((N a0 : Int) - x6.toInt).toNat < n
            omega
          · show 0 ≤ x6.toInt ∧ x6.toInt ≤ (N a0 : Int)
            first | omega | exact hi | assumption
          · show ∀ i : Nat, (i : Int) < x6.toInt → ¬ (I 46 i a0).toInt = -a1.toInt
            (intro i hi; by_cases e9 : i = m4.toNatClampNeg; (rw [e9, ← e3]; omega); exact hno i (by have h8 := tcl m4; omega))
        · have c5 : x3.toInt = x4.toInt := teq rfl rfl c5
          refine lv_iconst (v := 1) hx hb dX9_holds_27 (by decide) ?_
          subst hQ9
          exact end_z C hr hlocks (by decide) () hW (by first | exact Or.inl (by decide)) dX9_holds_28
  -- into the loop
  refine loop8 (((N a0 : Int) - (0 : Int32).toInt).toNat + 1) 0 H locs ls ?_ ?_ ?_ hW (lv_sub hl [0, 1, 2, 3, 4] rfl)
  · exact Nat.lt_succ_self _
  · show 0 ≤ (0 : Int32).toInt ∧ (0 : Int32).toInt ≤ (N a0 : Int)
    try rw [kp0]
    first | omega | exact hi | assumption
  · show ∀ i : Nat, (i : Int) < (0 : Int32).toInt → ¬ (I 46 i a0).toInt = -a1.toInt
    try rw [kp0]
    intro i hi; omega

set_option maxHeartbeats 4000000 in
set_option maxRecDepth 100000 in
theorem c_X9_init_e (l : Launch) (g : gG) (J : Nat → Nat → Int32) (L : Nat → Nat → Int64) (I : Nat → Nat → Nat → Int32) (P : Nat → Nat → Nat → Option Nat) (E : Nat → Option Nat) (N : Nat → Nat) (dy : List (Nat × Nat)) (sz : Nat) (o : Nat) (hmo : (10, o) ∈ dy) (a0 : Int32) (a1 : Int32) (a2 : Nat) (hm2 : (46, a2) ∈ dy) (hN : N a2 ≤ 60) : Met l yX9_init (WS yX9_init cX9_init 4 none) (RM (2) 0 0) (PC g [.ref o, .int a0, .int a1, .ref a2] ((J, L, I, P, E, N), sgX g ++ dy) sz) (va_Qv (fun (u : Int32 × Int32) => ((u.1).toInt = 0 → ∀ i : Nat, i < N a2 → ¬ (I 46 i a2).toInt = -115 ∧ ¬ (I 46 i a2).toInt = -109) ∧ ((u.2).toInt = 0 → ∀ i : Nat, i < N a2 → ¬ (I 46 i a2).toInt = -97)) (fun u t => at_ g (FR g ((J, L, I, P, E, N), sgX g ++ dy) sz) (((J, L, (up3 (up3 (up3 (up3 I 10 0 o a0) 10 1 o a1) 10 3 o u.1) 10 4 o u.2), (up3 P 10 2 o (some a2)), E, N), sgX g ++ dy)) t) (FR g ((J, L, I, P, E, N), sgX g ++ dy) sz)) 0 0 (FR g ((J, L, I, P, E, N), sgX g ++ dy) sz) := by
  refine ent (by decide +kernel) (Nat.le_of_ble_eq_true rfl) ?_
  intro p e s m below meth c ls hsz C hW hr hlocks hname hl
  generalize FR g ((J, L, I, P, E, N), sgX g ++ dy) sz = A at C hW ⊢
  generalize hQ9 : (va_Qv (fun (u : Int32 × Int32) => ((u.1).toInt = 0 → ∀ i : Nat, i < N a2 → ¬ (I 46 i a2).toInt = -115 ∧ ¬ (I 46 i a2).toInt = -109) ∧ ((u.2).toInt = 0 → ∀ i : Nat, i < N a2 → ¬ (I 46 i a2).toInt = -97)) (fun u t => at_ g A (((J, L, (up3 (up3 (up3 (up3 I 10 0 o a0) 10 1 o a1) 10 3 o u.1) 10 4 o u.2), (up3 P 10 2 o (some a2)), E, N), sgX g ++ dy)) t) A) = Q9
  have hx := C.1.1
  have hb := C.1.2.1
  have hts := C.1.2.2.2.2
  have hl : lv_has ls 4 [(0, .ref o), (1, .int a0), (2, .int a1), (3, .ref a2)] := hl
  obtain ⟨H, hH⟩ : ∃ H : Heap, H = s.heap := ⟨_, rfl⟩
  obtain ⟨locs, hlocs⟩ : ∃ q : List Loc, q = [] := ⟨_, rfl⟩
  have hW : WB g A s.heap H locs (J, L, I, P, E, N) (sgX g ++ dy) := by rw [hH, hlocs]; exact hW
  refine start_ hH hlocs ?_
  refine lv_aload_n hx hb dX9_init_0 rfl (lv_at hl 0 rfl) ?_
  refine W.objInit hx hb C.1.2.2.2.1 (hts _ tw_796) (hts _ tw_97) (hts _ tw_oi2) rfl (by rw [C.1.2.2.1]; exact hl.1) rfl dX9_init_1 (Nat.le_of_ble_eq_true rfl) (Nat.le_of_ble_eq_true rfl) ?_
  show W p l e (RM (2) 0 0) s m ([.ref o, .int a0, .int a1, .ref a2] : List Value).toArray below meth c H locs 0 0 (MQ below Q9 ([.ref o, .int a0, .int a1, .ref a2] : List Value).toArray s 0 0 A) (F0 m 4 ls [])
  refine lv_aload_n hx hb dX9_init_4 rfl (lv_at hl 0 rfl) ?_
  refine lv_iload_n hx hb dX9_init_5 rfl (lv_at hl 1 rfl) ?_
  refine rp_10_0 C hname rfl hW (List.mem_append_right _ hmo) tw_800 dX9_init_6 (fun H locs hW => ?_)
  have hW : WB g A s.heap H locs (J, L, (up3 I 10 0 o a0), P, E, N) (sgX g ++ dy) := hW
  refine lv_aload_n hx hb dX9_init_9 rfl (lv_at hl 0 rfl) ?_
  refine lv_iload_n hx hb dX9_init_10 rfl (lv_at hl 2 rfl) ?_
  refine rp_10_1 C hname rfl hW (List.mem_append_right _ hmo) tw_802 dX9_init_11 (fun H locs hW => ?_)
  have hW : WB g A s.heap H locs (J, L, (up3 (up3 I 10 0 o a0) 10 1 o a1), P, E, N) (sgX g ++ dy) := hW
  refine lv_aload_n hx hb dX9_init_14 rfl (lv_at hl 0 rfl) ?_
  refine lv_aload_n hx hb dX9_init_15 rfl (lv_at hl 3 rfl) ?_
  refine rp_10_2 (v := some a2) C hname rfl hW (List.mem_append_right _ hmo) tw_804 dX9_init_16 (fun H locs hW => ?_)
  have hW : WB g A s.heap H locs (J, L, (up3 (up3 I 10 0 o a0) 10 1 o a1), (up3 P 10 2 o (some a2)), E, N) (sgX g ++ dy) := hW
  refine lv_aload_n hx hb dX9_init_19 rfl (lv_at hl 0 rfl) ?_
  refine lv_aload_n hx hb dX9_init_20 rfl (lv_at hl 3 rfl) ?_
  refine lv_bipush (v := 115) hx hb dX9_init_21 (by decide) ?_
  refine ci_ C hW (runS (As := [.ref a2, .int 115]) (rest := [.ref o]) (T := ((J, L, (up3 (up3 I 10 0 o a0) 10 1 o a1), (up3 P 10 2 o (some a2)), E, N), sgX g ++ dy)) C hW (c_X9_holds_e l g J L (up3 (up3 I 10 0 o a0) 10 1 o a1) (up3 P 10 2 o (some a2)) E N dy H.size a2 hm2 115 (show N a2 ≤ 60 from by (try simp only [kp115]); omega) (show 0 ≤ (115 : Int32).toInt ∧ (115 : Int32).toInt ≤ 200 from by (try simp only [kp115]); omega)) mi_X9_holds tw_797 ⟨rfl, rfl, Nat.le_of_ble_eq_true rfl, Nat.le_of_ble_eq_true rfl⟩ rfl hl.1 rfl (Nat.le_of_ble_eq_true rfl) dX9_init_23 ⟨Nat.le_of_ble_eq_true rfl, Nat.le_of_ble_eq_true rfl⟩) (fun r1 u1 H locs hp1 hW => ?_)
  have hc1 : ((r1.toInt = 1) ∨ (r1.toInt = 0 ∧ (∀ i : Nat, i < N a2 → ¬ ((up3 (up3 I 10 0 o a0) 10 1 o a1) 46 i a2).toInt = -115))) := hp1
  clear hp1
  have hW : WB g A s.heap H locs (J, L, (up3 (up3 I 10 0 o a0) 10 1 o a1), (up3 P 10 2 o (some a2)), E, N) (sgX g ++ dy) := hW
  have hHA := hc1
  refine lv_if_ne (tgt := 38) hx hb dX9_init_26 (by decide) (fun c2 => ?_) (fun c2 => ?_)
  · have c2 : ¬ r1.toInt = 0 := tne rfl kp0 c2
    refine lv_iconst (v := 1) hx hb dX9_init_38 (by decide) ?_
    refine lv_goto (tgt := 43) hx hb dX9_init_39 (by decide) ?_
    refine rp_10_3 C hname rfl hW (List.mem_append_right _ hmo) tw_806 (by decide) dX9_init_43 (fun H locs hW => ?_)
    have hW : WB g A s.heap H locs (J, L, (up3 (up3 (up3 I 10 0 o a0) 10 1 o a1) 10 3 o 1), (up3 P 10 2 o (some a2)), E, N) (sgX g ++ dy) := hW
    refine lv_aload_n hx hb dX9_init_46 rfl (lv_at hl 0 rfl) ?_
    refine lv_aload_n hx hb dX9_init_47 rfl (lv_at hl 3 rfl) ?_
    refine lv_bipush (v := 97) hx hb dX9_init_48 (by decide) ?_
    refine ci_ C hW (runS (As := [.ref a2, .int 97]) (rest := [.ref o]) (T := ((J, L, (up3 (up3 (up3 I 10 0 o a0) 10 1 o a1) 10 3 o 1), (up3 P 10 2 o (some a2)), E, N), sgX g ++ dy)) C hW (c_X9_holds_e l g J L (up3 (up3 (up3 I 10 0 o a0) 10 1 o a1) 10 3 o 1) (up3 P 10 2 o (some a2)) E N dy H.size a2 hm2 97 (show N a2 ≤ 60 from by (try simp only [kp97]); omega) (show 0 ≤ (97 : Int32).toInt ∧ (97 : Int32).toInt ≤ 200 from by (try simp only [kp97]); omega)) mi_X9_holds tw_797 ⟨rfl, rfl, Nat.le_of_ble_eq_true rfl, Nat.le_of_ble_eq_true rfl⟩ rfl hl.1 rfl (Nat.le_of_ble_eq_true rfl) dX9_init_50 ⟨Nat.le_of_ble_eq_true rfl, Nat.le_of_ble_eq_true rfl⟩) (fun r3 u3 H locs hp3 hW => ?_)
    have hc3 : ((r3.toInt = 1) ∨ (r3.toInt = 0 ∧ (∀ i : Nat, i < N a2 → ¬ ((up3 (up3 (up3 I 10 0 o a0) 10 1 o a1) 10 3 o 1) 46 i a2).toInt = -97))) := hp3
    clear hp3
    have hW : WB g A s.heap H locs (J, L, (up3 (up3 (up3 I 10 0 o a0) 10 1 o a1) 10 3 o 1), (up3 P 10 2 o (some a2)), E, N) (sgX g ++ dy) := hW
    have hHC := hc3
    refine rp_10_4 C hname rfl hW (List.mem_append_right _ hmo) tw_808 (b01 (by omega)) dX9_init_53 (fun H locs hW => ?_)
    have hW : WB g A s.heap H locs (J, L, (up3 (up3 (up3 (up3 I 10 0 o a0) 10 1 o a1) 10 3 o 1) 10 4 o r3), (up3 P 10 2 o (some a2)), E, N) (sgX g ++ dy) := hW
    subst hQ9
    exact end_v C hr hlocks ((1 : Int32), r3) hW ⟨by show ((1 : Int32)).toInt = 0 → ∀ i : Nat, i < N a2 → ¬ (I 46 i a2).toInt = -115 ∧ ¬ (I 46 i a2).toInt = -109; first | (intro h9; exact absurd h9 (by decide)) | (intro h9 i9 hi9; have q1 := (hHA.elim (fun q => absurd q (by omega)) (fun q => q.2)) i9 hi9; have q2 := (hHB.elim (fun q => absurd q (by omega)) (fun q => q.2)) i9 hi9; exact ⟨q1, q2⟩), by show (r3).toInt = 0 → ∀ i : Nat, i < N a2 → ¬ (I 46 i a2).toInt = -97; intro h9 i9 hi9; exact (hHC.elim (fun q => absurd q (by omega)) (fun q => q.2)) i9 hi9⟩ dX9_init_56
  · have c2 : r1.toInt = 0 := teq rfl kp0 c2
    refine lv_aload_n hx hb dX9_init_29 rfl (lv_at hl 3 rfl) ?_
    refine lv_bipush (v := 109) hx hb dX9_init_30 (by decide) ?_
    refine ci_ C hW (runS (As := [.ref a2, .int 109]) (rest := [.ref o]) (T := ((J, L, (up3 (up3 I 10 0 o a0) 10 1 o a1), (up3 P 10 2 o (some a2)), E, N), sgX g ++ dy)) C hW (c_X9_holds_e l g J L (up3 (up3 I 10 0 o a0) 10 1 o a1) (up3 P 10 2 o (some a2)) E N dy H.size a2 hm2 109 (show N a2 ≤ 60 from by (try simp only [kp109]); omega) (show 0 ≤ (109 : Int32).toInt ∧ (109 : Int32).toInt ≤ 200 from by (try simp only [kp109]); omega)) mi_X9_holds tw_797 ⟨rfl, rfl, Nat.le_of_ble_eq_true rfl, Nat.le_of_ble_eq_true rfl⟩ rfl hl.1 rfl (Nat.le_of_ble_eq_true rfl) dX9_init_32 ⟨Nat.le_of_ble_eq_true rfl, Nat.le_of_ble_eq_true rfl⟩) (fun r4 u4 H locs hp4 hW => ?_)
    have hc4 : ((r4.toInt = 1) ∨ (r4.toInt = 0 ∧ (∀ i : Nat, i < N a2 → ¬ ((up3 (up3 I 10 0 o a0) 10 1 o a1) 46 i a2).toInt = -109))) := hp4
    clear hp4
    have hW : WB g A s.heap H locs (J, L, (up3 (up3 I 10 0 o a0) 10 1 o a1), (up3 P 10 2 o (some a2)), E, N) (sgX g ++ dy) := hW
    have hHB := hc4
    refine lv_if_eq (tgt := 42) hx hb dX9_init_35 (by decide) (fun c5 => ?_) (fun c5 => ?_)
    · have c5 : r4.toInt = 0 := teq rfl kp0 c5
      refine lv_iconst (v := 0) hx hb dX9_init_42 (by decide) ?_
      refine rp_10_3 C hname rfl hW (List.mem_append_right _ hmo) tw_806 (by decide) dX9_init_43 (fun H locs hW => ?_)
      have hW : WB g A s.heap H locs (J, L, (up3 (up3 (up3 I 10 0 o a0) 10 1 o a1) 10 3 o 0), (up3 P 10 2 o (some a2)), E, N) (sgX g ++ dy) := hW
      refine lv_aload_n hx hb dX9_init_46 rfl (lv_at hl 0 rfl) ?_
      refine lv_aload_n hx hb dX9_init_47 rfl (lv_at hl 3 rfl) ?_
      refine lv_bipush (v := 97) hx hb dX9_init_48 (by decide) ?_
      refine ci_ C hW (runS (As := [.ref a2, .int 97]) (rest := [.ref o]) (T := ((J, L, (up3 (up3 (up3 I 10 0 o a0) 10 1 o a1) 10 3 o 0), (up3 P 10 2 o (some a2)), E, N), sgX g ++ dy)) C hW (c_X9_holds_e l g J L (up3 (up3 (up3 I 10 0 o a0) 10 1 o a1) 10 3 o 0) (up3 P 10 2 o (some a2)) E N dy H.size a2 hm2 97 (show N a2 ≤ 60 from by (try simp only [kp97]); omega) (show 0 ≤ (97 : Int32).toInt ∧ (97 : Int32).toInt ≤ 200 from by (try simp only [kp97]); omega)) mi_X9_holds tw_797 ⟨rfl, rfl, Nat.le_of_ble_eq_true rfl, Nat.le_of_ble_eq_true rfl⟩ rfl hl.1 rfl (Nat.le_of_ble_eq_true rfl) dX9_init_50 ⟨Nat.le_of_ble_eq_true rfl, Nat.le_of_ble_eq_true rfl⟩) (fun r6 u6 H locs hp6 hW => ?_)
      have hc6 : ((r6.toInt = 1) ∨ (r6.toInt = 0 ∧ (∀ i : Nat, i < N a2 → ¬ ((up3 (up3 (up3 I 10 0 o a0) 10 1 o a1) 10 3 o 0) 46 i a2).toInt = -97))) := hp6
      clear hp6
      have hW : WB g A s.heap H locs (J, L, (up3 (up3 (up3 I 10 0 o a0) 10 1 o a1) 10 3 o 0), (up3 P 10 2 o (some a2)), E, N) (sgX g ++ dy) := hW
      have hHC := hc6
      refine rp_10_4 C hname rfl hW (List.mem_append_right _ hmo) tw_808 (b01 (by omega)) dX9_init_53 (fun H locs hW => ?_)
      have hW : WB g A s.heap H locs (J, L, (up3 (up3 (up3 (up3 I 10 0 o a0) 10 1 o a1) 10 3 o 0) 10 4 o r6), (up3 P 10 2 o (some a2)), E, N) (sgX g ++ dy) := hW
      subst hQ9
      exact end_v C hr hlocks ((0 : Int32), r6) hW ⟨by show ((0 : Int32)).toInt = 0 → ∀ i : Nat, i < N a2 → ¬ (I 46 i a2).toInt = -115 ∧ ¬ (I 46 i a2).toInt = -109; first | (intro h9; exact absurd h9 (by decide)) | (intro h9 i9 hi9; have q1 := (hHA.elim (fun q => absurd q (by omega)) (fun q => q.2)) i9 hi9; have q2 := (hHB.elim (fun q => absurd q (by omega)) (fun q => q.2)) i9 hi9; exact ⟨q1, q2⟩), by show (r6).toInt = 0 → ∀ i : Nat, i < N a2 → ¬ (I 46 i a2).toInt = -97; intro h9 i9 hi9; exact (hHC.elim (fun q => absurd q (by omega)) (fun q => q.2)) i9 hi9⟩ dX9_init_56
    · have c5 : ¬ r4.toInt = 0 := tne rfl kp0 c5
      refine lv_iconst (v := 1) hx hb dX9_init_38 (by decide) ?_
      refine lv_goto (tgt := 43) hx hb dX9_init_39 (by decide) ?_
      refine rp_10_3 C hname rfl hW (List.mem_append_right _ hmo) tw_806 (by decide) dX9_init_43 (fun H locs hW => ?_)
      have hW : WB g A s.heap H locs (J, L, (up3 (up3 (up3 I 10 0 o a0) 10 1 o a1) 10 3 o 1), (up3 P 10 2 o (some a2)), E, N) (sgX g ++ dy) := hW
      refine lv_aload_n hx hb dX9_init_46 rfl (lv_at hl 0 rfl) ?_
      refine lv_aload_n hx hb dX9_init_47 rfl (lv_at hl 3 rfl) ?_
      refine lv_bipush (v := 97) hx hb dX9_init_48 (by decide) ?_
      refine ci_ C hW (runS (As := [.ref a2, .int 97]) (rest := [.ref o]) (T := ((J, L, (up3 (up3 (up3 I 10 0 o a0) 10 1 o a1) 10 3 o 1), (up3 P 10 2 o (some a2)), E, N), sgX g ++ dy)) C hW (c_X9_holds_e l g J L (up3 (up3 (up3 I 10 0 o a0) 10 1 o a1) 10 3 o 1) (up3 P 10 2 o (some a2)) E N dy H.size a2 hm2 97 (show N a2 ≤ 60 from by (try simp only [kp97]); omega) (show 0 ≤ (97 : Int32).toInt ∧ (97 : Int32).toInt ≤ 200 from by (try simp only [kp97]); omega)) mi_X9_holds tw_797 ⟨rfl, rfl, Nat.le_of_ble_eq_true rfl, Nat.le_of_ble_eq_true rfl⟩ rfl hl.1 rfl (Nat.le_of_ble_eq_true rfl) dX9_init_50 ⟨Nat.le_of_ble_eq_true rfl, Nat.le_of_ble_eq_true rfl⟩) (fun r7 u7 H locs hp7 hW => ?_)
      have hc7 : ((r7.toInt = 1) ∨ (r7.toInt = 0 ∧ (∀ i : Nat, i < N a2 → ¬ ((up3 (up3 (up3 I 10 0 o a0) 10 1 o a1) 10 3 o 1) 46 i a2).toInt = -97))) := hp7
      clear hp7
      have hW : WB g A s.heap H locs (J, L, (up3 (up3 (up3 I 10 0 o a0) 10 1 o a1) 10 3 o 1), (up3 P 10 2 o (some a2)), E, N) (sgX g ++ dy) := hW
      have hHC := hc7
      refine rp_10_4 C hname rfl hW (List.mem_append_right _ hmo) tw_808 (b01 (by omega)) dX9_init_53 (fun H locs hW => ?_)
      have hW : WB g A s.heap H locs (J, L, (up3 (up3 (up3 (up3 I 10 0 o a0) 10 1 o a1) 10 3 o 1) 10 4 o r7), (up3 P 10 2 o (some a2)), E, N) (sgX g ++ dy) := hW
      subst hQ9
      exact end_v C hr hlocks ((1 : Int32), r7) hW ⟨by show ((1 : Int32)).toInt = 0 → ∀ i : Nat, i < N a2 → ¬ (I 46 i a2).toInt = -115 ∧ ¬ (I 46 i a2).toInt = -109; first | (intro h9; exact absurd h9 (by decide)) | (intro h9 i9 hi9; have q1 := (hHA.elim (fun q => absurd q (by omega)) (fun q => q.2)) i9 hi9; have q2 := (hHB.elim (fun q => absurd q (by omega)) (fun q => q.2)) i9 hi9; exact ⟨q1, q2⟩), by show (r7).toInt = 0 → ∀ i : Nat, i < N a2 → ¬ (I 46 i a2).toInt = -97; intro h9 i9 hi9; exact (hHC.elim (fun q => absurd q (by omega)) (fun q => q.2)) i9 hi9⟩ dX9_init_56

set_option maxHeartbeats 4000000 in
set_option maxRecDepth 100000 in
theorem c_X11_term_a (l : Launch) (g : gG) (J : Nat → Nat → Int32) (L : Nat → Nat → Int64) (I : Nat → Nat → Nat → Int32) (P : Nat → Nat → Nat → Option Nat) (E : Nat → Option Nat) (N : Nat → Nat) (dy : List (Nat × Nat)) (sz : Nat) (a0 : Int32) (a1 : Int32) (hwf : WXF g J P E N dy) (hln : 0 ≤ (J 11 2).toInt ∧ (J 11 2).toInt ≤ 60) : Met l yX11_term (WS yX11_term cX11_term 5 (some .int)) (RM (28) 10 20100) (PC g [.ref (g.2.2.1 12), .int a0, .int a1] ((J, L, I, P, E, N), sgX g ++ dy) sz) (va_Qi (fun (r : Int32) (u : (Nat → Nat → Int32) × (Nat → Nat → Nat → Int32) × (Nat → Nat → Nat → Option Nat) × (Nat → Option Nat) × (Nat → Nat) × List (Nat × Nat)) => ((r.toInt = (-2) ∧ (¬ (0 ≤ a0.toInt ∧ a0.toInt ≤ 3)) ∧ u.1 25 2 = J 25 2 ∧ (∀ k : Nat, elt (hv1 E [25] u.2.2.2.1) (hv P [10, 35, 46] [] u.2.2.1) 25 k = elt E P 25 k) ∧ u.2.1 10 = I 10 ∧ (∀ k : Nat, (k : Int) < (J 25 2).toInt → CD u.2.1 (hv P [10, 35, 46] [] u.2.2.1) (hv1 E [25] u.2.2.2.1) u.2.2.2.2.1 k = CD I P E N k) ∧ u.1 11 2 = J 11 2) ∨ (r.toInt = (-4) ∧ (0 ≤ a0.toInt ∧ a0.toInt ≤ 3 ∧ a1.toInt < (J 3 1).toInt) ∧ u.1 25 2 = J 25 2 ∧ (∀ k : Nat, elt (hv1 E [25] u.2.2.2.1) (hv P [10, 35, 46] [] u.2.2.1) 25 k = elt E P 25 k) ∧ u.2.1 10 = I 10 ∧ (∀ k : Nat, (k : Int) < (J 25 2).toInt → CD u.2.1 (hv P [10, 35, 46] [] u.2.2.1) (hv1 E [25] u.2.2.2.1) u.2.2.2.2.1 k = CD I P E N k) ∧ u.1 11 2 = J 11 2) ∨ (r.toInt = (-6) ∧ (0 ≤ a0.toInt ∧ a0.toInt ≤ 3 ∧ (J 3 1).toInt ≤ a1.toInt ∧ (9999 < a1.toInt ∨ 30 ≤ (J 25 2).toInt)) ∧ u.1 25 2 = J 25 2 ∧ (∀ k : Nat, elt (hv1 E [25] u.2.2.2.1) (hv P [10, 35, 46] [] u.2.2.1) 25 k = elt E P 25 k) ∧ u.2.1 10 = I 10 ∧ (∀ k : Nat, (k : Int) < (J 25 2).toInt → CD u.2.1 (hv P [10, 35, 46] [] u.2.2.1) (hv1 E [25] u.2.2.2.1) u.2.2.2.2.1 k = CD I P E N k) ∧ u.1 11 2 = J 11 2) ∨ (r = r ∧ (0 ≤ a0.toInt ∧ a0.toInt ≤ 3 ∧ (J 3 1).toInt ≤ a1.toInt ∧ a1.toInt ≤ 9999 ∧ (J 25 2).toInt ≤ 29) ∧ (∃ q : Nat, r.toInt = -20 - (q : Int) ∧ (PF (NX (J 43) (J 11 2)) 0 5 0 q ∨ ((∃ c, PT (NX (J 43) (J 11 2)) 0 5 0 q c) ∧ (q : Int) < (J 11 2).toInt))) ∧ (u.1 11 2).toInt = 0 ∧ u.1 25 2 = J 25 2 ∧ (∀ k : Nat, elt (hv1 E [25] u.2.2.2.1) (hv P [10, 35, 46] [] u.2.2.1) 25 k = elt E P 25 k) ∧ u.2.1 10 = I 10 ∧ (∀ k : Nat, (k : Int) < (J 25 2).toInt → CD u.2.1 (hv P [10, 35, 46] [] u.2.2.1) (hv1 E [25] u.2.2.2.1) u.2.2.2.2.1 k = CD I P E N k)) ∨ (r.toInt = (J 25 2).toInt + 1 ∧ (0 ≤ a0.toInt ∧ a0.toInt ≤ 3 ∧ (J 3 1).toInt ≤ a1.toInt ∧ a1.toInt ≤ 9999 ∧ (J 25 2).toInt ≤ 29) ∧ (u.1 25 2).toInt = (J 25 2).toInt + 1 ∧ (u.1 11 2).toInt = 0 ∧ NOBJ I u.2.1 E (hv1 E [25] u.2.2.2.1) P (hv P [10, 35, 46] [] u.2.2.1) 25 10 (J 25 2).toInt dy ∧ (∀ j : Nat, (j : Int) = (J 25 2).toInt → u.2.1 10 0 (elt (hv1 E [25] u.2.2.2.1) (hv P [10, 35, 46] [] u.2.2.1) 25 j) = a0 ∧ u.2.1 10 1 (elt (hv1 E [25] u.2.2.2.1) (hv P [10, 35, 46] [] u.2.2.1) 25 j) = a1) ∧ (∃ (q : Nat) (cd : List Int), PT (NX (J 43) (J 11 2)) 0 5 0 q cd ∧ (J 11 2).toInt ≤ (q : Int) ∧ ∀ j : Nat, (j : Int) = (J 25 2).toInt → CD u.2.1 (hv P [10, 35, 46] [] u.2.2.1) (hv1 E [25] u.2.2.2.1) u.2.2.2.2.1 j = cd) ∧ (∀ k : Nat, (k : Int) < (J 25 2).toInt → CD u.2.1 (hv P [10, 35, 46] [] u.2.2.1) (hv1 E [25] u.2.2.2.1) u.2.2.2.2.1 k = CD I P E N k) ∧ (∀ j : Nat, (j : Int) = (J 25 2).toInt → ((u.2.1 10 3 (elt (hv1 E [25] u.2.2.2.1) (hv P [10, 35, 46] [] u.2.2.1) 25 j)).toInt = 0 → ∀ c ∈ CD u.2.1 (hv P [10, 35, 46] [] u.2.2.1) (hv1 E [25] u.2.2.2.1) u.2.2.2.2.1 j, ¬ c = -115 ∧ ¬ c = -109) ∧ ((u.2.1 10 4 (elt (hv1 E [25] u.2.2.2.1) (hv P [10, 35, 46] [] u.2.2.1) 25 j)).toInt = 0 → ∀ c ∈ CD u.2.1 (hv P [10, 35, 46] [] u.2.2.1) (hv1 E [25] u.2.2.2.1) u.2.2.2.2.1 j, ¬ c = -97)))) ∧ WXF g (hv J [42, 44] [(11, 2), (11, 3), (11, 4), (25, 0), (25, 2)] u.1) (hv P [10, 35, 46] [] u.2.2.1) (hv1 E [25] u.2.2.2.1) u.2.2.2.2.1 u.2.2.2.2.2 ∧ (∀ x ∈ dy, x ∈ u.2.2.2.2.2) ∧ (∀ x ∈ dy, u.2.2.2.2.1 x.2 = N x.2)) (fun u t => at_ g (FR g ((J, L, I, P, E, N), sgX g ++ dy) sz) ((((hv J [42, 44] [(11, 2), (11, 3), (11, 4), (25, 0), (25, 2)] u.1), L, (hv I [10, 46] [] u.2.1), (hv P [10, 35, 46] [] u.2.2.1), (hv1 E [25] u.2.2.2.1), u.2.2.2.2.1), sgX g ++ u.2.2.2.2.2)) t) (FR g ((J, L, I, P, E, N), sgX g ++ dy) sz)) 10 20100 (FR g ((J, L, I, P, E, N), sgX g ++ dy) sz) := by
  refine ent (by decide +kernel) (Nat.le_of_ble_eq_true rfl) ?_
  intro p e s m below meth c ls hsz C hW hr hlocks hname hl
  generalize FR g ((J, L, I, P, E, N), sgX g ++ dy) sz = A at C hW ⊢
  generalize hQ9 : (va_Qi (fun (r : Int32) (u : (Nat → Nat → Int32) × (Nat → Nat → Nat → Int32) × (Nat → Nat → Nat → Option Nat) × (Nat → Option Nat) × (Nat → Nat) × List (Nat × Nat)) => ((r.toInt = (-2) ∧ (¬ (0 ≤ a0.toInt ∧ a0.toInt ≤ 3)) ∧ u.1 25 2 = J 25 2 ∧ (∀ k : Nat, elt (hv1 E [25] u.2.2.2.1) (hv P [10, 35, 46] [] u.2.2.1) 25 k = elt E P 25 k) ∧ u.2.1 10 = I 10 ∧ (∀ k : Nat, (k : Int) < (J 25 2).toInt → CD u.2.1 (hv P [10, 35, 46] [] u.2.2.1) (hv1 E [25] u.2.2.2.1) u.2.2.2.2.1 k = CD I P E N k) ∧ u.1 11 2 = J 11 2) ∨ (r.toInt = (-4) ∧ (0 ≤ a0.toInt ∧ a0.toInt ≤ 3 ∧ a1.toInt < (J 3 1).toInt) ∧ u.1 25 2 = J 25 2 ∧ (∀ k : Nat, elt (hv1 E [25] u.2.2.2.1) (hv P [10, 35, 46] [] u.2.2.1) 25 k = elt E P 25 k) ∧ u.2.1 10 = I 10 ∧ (∀ k : Nat, (k : Int) < (J 25 2).toInt → CD u.2.1 (hv P [10, 35, 46] [] u.2.2.1) (hv1 E [25] u.2.2.2.1) u.2.2.2.2.1 k = CD I P E N k) ∧ u.1 11 2 = J 11 2) ∨ (r.toInt = (-6) ∧ (0 ≤ a0.toInt ∧ a0.toInt ≤ 3 ∧ (J 3 1).toInt ≤ a1.toInt ∧ (9999 < a1.toInt ∨ 30 ≤ (J 25 2).toInt)) ∧ u.1 25 2 = J 25 2 ∧ (∀ k : Nat, elt (hv1 E [25] u.2.2.2.1) (hv P [10, 35, 46] [] u.2.2.1) 25 k = elt E P 25 k) ∧ u.2.1 10 = I 10 ∧ (∀ k : Nat, (k : Int) < (J 25 2).toInt → CD u.2.1 (hv P [10, 35, 46] [] u.2.2.1) (hv1 E [25] u.2.2.2.1) u.2.2.2.2.1 k = CD I P E N k) ∧ u.1 11 2 = J 11 2) ∨ (r = r ∧ (0 ≤ a0.toInt ∧ a0.toInt ≤ 3 ∧ (J 3 1).toInt ≤ a1.toInt ∧ a1.toInt ≤ 9999 ∧ (J 25 2).toInt ≤ 29) ∧ (∃ q : Nat, r.toInt = -20 - (q : Int) ∧ (PF (NX (J 43) (J 11 2)) 0 5 0 q ∨ ((∃ c, PT (NX (J 43) (J 11 2)) 0 5 0 q c) ∧ (q : Int) < (J 11 2).toInt))) ∧ (u.1 11 2).toInt = 0 ∧ u.1 25 2 = J 25 2 ∧ (∀ k : Nat, elt (hv1 E [25] u.2.2.2.1) (hv P [10, 35, 46] [] u.2.2.1) 25 k = elt E P 25 k) ∧ u.2.1 10 = I 10 ∧ (∀ k : Nat, (k : Int) < (J 25 2).toInt → CD u.2.1 (hv P [10, 35, 46] [] u.2.2.1) (hv1 E [25] u.2.2.2.1) u.2.2.2.2.1 k = CD I P E N k)) ∨ (r.toInt = (J 25 2).toInt + 1 ∧ (0 ≤ a0.toInt ∧ a0.toInt ≤ 3 ∧ (J 3 1).toInt ≤ a1.toInt ∧ a1.toInt ≤ 9999 ∧ (J 25 2).toInt ≤ 29) ∧ (u.1 25 2).toInt = (J 25 2).toInt + 1 ∧ (u.1 11 2).toInt = 0 ∧ NOBJ I u.2.1 E (hv1 E [25] u.2.2.2.1) P (hv P [10, 35, 46] [] u.2.2.1) 25 10 (J 25 2).toInt dy ∧ (∀ j : Nat, (j : Int) = (J 25 2).toInt → u.2.1 10 0 (elt (hv1 E [25] u.2.2.2.1) (hv P [10, 35, 46] [] u.2.2.1) 25 j) = a0 ∧ u.2.1 10 1 (elt (hv1 E [25] u.2.2.2.1) (hv P [10, 35, 46] [] u.2.2.1) 25 j) = a1) ∧ (∃ (q : Nat) (cd : List Int), PT (NX (J 43) (J 11 2)) 0 5 0 q cd ∧ (J 11 2).toInt ≤ (q : Int) ∧ ∀ j : Nat, (j : Int) = (J 25 2).toInt → CD u.2.1 (hv P [10, 35, 46] [] u.2.2.1) (hv1 E [25] u.2.2.2.1) u.2.2.2.2.1 j = cd) ∧ (∀ k : Nat, (k : Int) < (J 25 2).toInt → CD u.2.1 (hv P [10, 35, 46] [] u.2.2.1) (hv1 E [25] u.2.2.2.1) u.2.2.2.2.1 k = CD I P E N k) ∧ (∀ j : Nat, (j : Int) = (J 25 2).toInt → ((u.2.1 10 3 (elt (hv1 E [25] u.2.2.2.1) (hv P [10, 35, 46] [] u.2.2.1) 25 j)).toInt = 0 → ∀ c ∈ CD u.2.1 (hv P [10, 35, 46] [] u.2.2.1) (hv1 E [25] u.2.2.2.1) u.2.2.2.2.1 j, ¬ c = -115 ∧ ¬ c = -109) ∧ ((u.2.1 10 4 (elt (hv1 E [25] u.2.2.2.1) (hv P [10, 35, 46] [] u.2.2.1) 25 j)).toInt = 0 → ∀ c ∈ CD u.2.1 (hv P [10, 35, 46] [] u.2.2.1) (hv1 E [25] u.2.2.2.1) u.2.2.2.2.1 j, ¬ c = -97)))) ∧ WXF g (hv J [42, 44] [(11, 2), (11, 3), (11, 4), (25, 0), (25, 2)] u.1) (hv P [10, 35, 46] [] u.2.2.1) (hv1 E [25] u.2.2.2.1) u.2.2.2.2.1 u.2.2.2.2.2 ∧ (∀ x ∈ dy, x ∈ u.2.2.2.2.2) ∧ (∀ x ∈ dy, u.2.2.2.2.1 x.2 = N x.2)) (fun u t => at_ g A ((((hv J [42, 44] [(11, 2), (11, 3), (11, 4), (25, 0), (25, 2)] u.1), L, (hv I [10, 46] [] u.2.1), (hv P [10, 35, 46] [] u.2.2.1), (hv1 E [25] u.2.2.2.1), u.2.2.2.2.1), sgX g ++ u.2.2.2.2.2)) t) A) = Q9
  have hx := C.1.1
  have hb := C.1.2.1
  have hts := C.1.2.2.2.2
  have hl : lv_has ls 5 [(0, .ref (g.2.2.1 12)), (1, .int a0), (2, .int a1)] := hl
  obtain ⟨H, hH⟩ : ∃ H : Heap, H = s.heap := ⟨_, rfl⟩
  obtain ⟨locs, hlocs⟩ : ∃ q : List Loc, q = [] := ⟨_, rfl⟩
  have hW : WB g A s.heap H locs (J, L, I, P, E, N) (sgX g ++ dy) := by rw [hH, hlocs]; exact hW
  have hwf0 := hwf
  refine start_ hH hlocs ?_
  refine lv_iload_n hx hb dX11_term_0 rfl (lv_at hl 1 rfl) ?_
  refine lv_if_lt (tgt := 9) hx hb dX11_term_1 (by decide) (fun c1 => ?_) (fun c1 => ?_)
  · have c1 : a0.toInt < 0 := tlt rfl kp0 c1
    refine lv_aload_n hx hb dX11_term_9 rfl (lv_at hl 0 rfl) ?_
    refine lv_bipush (v := (-2)) hx hb dX11_term_10 (by decide) ?_
    refine ci_ C hW (runV (x := (g.2.2.1 12)) (As := [.int (-2)]) (rest := []) (T := ((J, L, I, P, E, N), sgX g ++ dy)) C hW (c_X11_refuse l g J L I P E N dy H.size (-2) hwf) mi_X11_refuse tw_411 (recv_ (T := ((J, L, I, P, E, N), sgX g ++ dy)) C hW (mx_ rfl) rfl rfl) ⟨rfl, rfl, Nat.le_of_ble_eq_true rfl, Nat.le_of_ble_eq_true rfl⟩ rfl hl.1 rfl (Nat.le_of_ble_eq_true rfl) dX11_term_12 ⟨Nat.le_of_ble_eq_true rfl, Nat.le_of_ble_eq_true rfl⟩) (fun r2 u2 H locs hp2 hW => ?_)
    have hc2 : ((r2 = (-2))) := hp2
    clear hp2
    have hr2 : r2.toInt = (-2) := by rw [hc2]; exact kn2
    have hW : WB g A s.heap H locs ((hv J [42] [] u2), L, I, P, E, N) (sgX g ++ dy) := hW
    have hJe : (hv J [42] [] u2) = hv J [42, 44] [(11, 2), (11, 3), (11, 4), (25, 0), (25, 2)] (hv J [42] [] u2) := ag_hvE (J := J) (R := [42, 44]) (F := [(11, 2), (11, 3), (11, 4), (25, 0), (25, 2)]) (ag_hv rfl rfl ag_rf)
    have hIe : I = hv I [10, 46] [] I := ag_hvE (J := I) (R := [10, 46]) (F := []) ag_rf
    have hPe : P = hv P [10, 35, 46] [] P := ag_hvE (J := P) (R := [10, 35, 46]) (F := []) ag_rf
    have hEe : E = hv1 E [25] E := hv1_e (R := [25]) (fun _ _ => rfl)
    have hWr : WB g A s.heap H locs (hv J [42, 44] [(11, 2), (11, 3), (11, 4), (25, 0), (25, 2)] (hv J [42] [] u2), L, hv I [10, 46] [] I, hv P [10, 35, 46] [] P, hv1 E [25] E, N) (sgX g ++ dy) := by
      rw [← hJe, ← hIe, ← hPe, ← hEe]; exact hW
    have hwr : WXF g (hv J [42, 44] [(11, 2), (11, 3), (11, 4), (25, 0), (25, 2)] (hv J [42] [] u2)) (hv P [10, 35, 46] [] P) (hv1 E [25] E) N dy := by
      rw [← hJe, ← hPe, ← hEe]; exact hwf
    refine W.widen (k := 10) (n := 20100) (Nat.le_of_ble_eq_true rfl) (Nat.le_of_ble_eq_true rfl) ?_
    subst hQ9
    exact end_i C hr hlocks ((hv J [42] [] u2), I, P, E, N, dy) hWr ⟨by first | exact Or.inl ⟨by omega, by omega, show J 25 2 = J 25 2 from by first | rfl | (intro k hk; rfl) | (intro k; rfl), show (∀ k : Nat, elt E P 25 k = elt E P 25 k) from by first | rfl | (intro k hk; rfl) | (intro k; rfl), show I 10 = I 10 from by first | rfl | (intro k hk; rfl) | (intro k; rfl), show (∀ k : Nat, (k : Int) < (J 25 2).toInt → CD I P E N k = CD I P E N k) from by first | rfl | (intro k hk; rfl) | (intro k; rfl), show J 11 2 = J 11 2 from by first | rfl | (intro k hk; rfl) | (intro k; rfl)⟩, hwr, fun x hx => hx, show ∀ x ∈ dy, N x.2 = N x.2 from by exact fun _ _ => rfl⟩ dX11_term_15
  · have c1 : 0 ≤ a0.toInt := tnlt rfl kp0 c1
    refine lv_iload_n hx hb dX11_term_4 rfl (lv_at hl 1 rfl) ?_
    refine lv_iconst (v := 3) hx hb dX11_term_5 (by decide) ?_
    refine lv_icmp_le (tgt := 16) hx hb dX11_term_6 (by decide) (fun c3 => ?_) (fun c3 => ?_)
    · have c3 : a0.toInt ≤ 3 := tle rfl kp3 c3
      refine lv_iload_n hx hb dX11_term_16 rfl (lv_at hl 2 rfl) ?_
      refine lv_aload_n hx hb dX11_term_17 rfl (lv_at hl 0 rfl) ?_
      refine rg_12_1 C hW (mx_ rfl) tw_365 dX11_term_18 ?_
      refine rg_3_1 C hW (mx_ rfl) tw_278 dX11_term_21 ?_
      refine lv_icmp_ge (tgt := 34) hx hb dX11_term_24 (by decide) (fun c4 => ?_) (fun c4 => ?_)
      · have c4 : (J 3 1).toInt ≤ a1.toInt := tle rfl rfl c4
        refine lv_iload_n hx hb dX11_term_34 rfl (lv_at hl 2 rfl) ?_
        refine lv_sipush (v := 9999) hx hb dX11_term_35 (by decide) ?_
        refine lv_icmp_gt (tgt := 53) hx hb dX11_term_38 (by decide) (fun c5 => ?_) (fun c5 => ?_)
        · have c5 : 9999 < a1.toInt := tlt kp9999 rfl c5
          refine lv_aload_n hx hb dX11_term_53 rfl (lv_at hl 0 rfl) ?_
          refine lv_bipush (v := (-6)) hx hb dX11_term_54 (by decide) ?_
          refine ci_ C hW (runV (x := (g.2.2.1 12)) (As := [.int (-6)]) (rest := []) (T := ((J, L, I, P, E, N), sgX g ++ dy)) C hW (c_X11_refuse l g J L I P E N dy H.size (-6) hwf) mi_X11_refuse tw_411 (recv_ (T := ((J, L, I, P, E, N), sgX g ++ dy)) C hW (mx_ rfl) rfl rfl) ⟨rfl, rfl, Nat.le_of_ble_eq_true rfl, Nat.le_of_ble_eq_true rfl⟩ rfl hl.1 rfl (Nat.le_of_ble_eq_true rfl) dX11_term_56 ⟨Nat.le_of_ble_eq_true rfl, Nat.le_of_ble_eq_true rfl⟩) (fun r6 u6 H locs hp6 hW => ?_)
          have hc6 : ((r6 = (-6))) := hp6
          clear hp6
          have hr6 : r6.toInt = (-6) := by rw [hc6]; exact kn6
          have hW : WB g A s.heap H locs ((hv J [42] [] u6), L, I, P, E, N) (sgX g ++ dy) := hW
          have hJe : (hv J [42] [] u6) = hv J [42, 44] [(11, 2), (11, 3), (11, 4), (25, 0), (25, 2)] (hv J [42] [] u6) := ag_hvE (J := J) (R := [42, 44]) (F := [(11, 2), (11, 3), (11, 4), (25, 0), (25, 2)]) (ag_hv rfl rfl ag_rf)
          have hIe : I = hv I [10, 46] [] I := ag_hvE (J := I) (R := [10, 46]) (F := []) ag_rf
          have hPe : P = hv P [10, 35, 46] [] P := ag_hvE (J := P) (R := [10, 35, 46]) (F := []) ag_rf
          have hEe : E = hv1 E [25] E := hv1_e (R := [25]) (fun _ _ => rfl)
          have hWr : WB g A s.heap H locs (hv J [42, 44] [(11, 2), (11, 3), (11, 4), (25, 0), (25, 2)] (hv J [42] [] u6), L, hv I [10, 46] [] I, hv P [10, 35, 46] [] P, hv1 E [25] E, N) (sgX g ++ dy) := by
            rw [← hJe, ← hIe, ← hPe, ← hEe]; exact hW
          have hwr : WXF g (hv J [42, 44] [(11, 2), (11, 3), (11, 4), (25, 0), (25, 2)] (hv J [42] [] u6)) (hv P [10, 35, 46] [] P) (hv1 E [25] E) N dy := by
            rw [← hJe, ← hPe, ← hEe]; exact hwf
          refine W.widen (k := 10) (n := 20100) (Nat.le_of_ble_eq_true rfl) (Nat.le_of_ble_eq_true rfl) ?_
          subst hQ9
          exact end_i C hr hlocks ((hv J [42] [] u6), I, P, E, N, dy) hWr ⟨by first | exact Or.inr (Or.inr (Or.inl ⟨by omega, by omega, show J 25 2 = J 25 2 from by first | rfl | (intro k hk; rfl) | (intro k; rfl), show (∀ k : Nat, elt E P 25 k = elt E P 25 k) from by first | rfl | (intro k hk; rfl) | (intro k; rfl), show I 10 = I 10 from by first | rfl | (intro k hk; rfl) | (intro k; rfl), show (∀ k : Nat, (k : Int) < (J 25 2).toInt → CD I P E N k = CD I P E N k) from by first | rfl | (intro k hk; rfl) | (intro k; rfl), show J 11 2 = J 11 2 from by first | rfl | (intro k hk; rfl) | (intro k; rfl)⟩)), hwr, fun x hx => hx, show ∀ x ∈ dy, N x.2 = N x.2 from by exact fun _ _ => rfl⟩ dX11_term_59
        · have c5 : a1.toInt ≤ 9999 := tnlt kp9999 rfl c5
          refine lv_aload_n hx hb dX11_term_41 rfl (lv_at hl 0 rfl) ?_
          refine rg_12_3 C hW (mx_ rfl) tw_367 dX11_term_42 ?_
          refine ci_ C hW (runV (x := (g.2.2.1 25)) (As := []) (rest := []) (T := ((J, L, I, P, E, N), sgX g ++ dy)) C hW (c_Jx4a65c_size_8abf5 l g J L I P E N dy H.size 25 rfl ) mi_Jx4a65c_size_8abf5 tw_485 (recv_ (T := ((J, L, I, P, E, N), sgX g ++ dy)) C hW (mx_ rfl) (cel_list rfl) rfl) ⟨rfl, rfl, Nat.le_of_ble_eq_true rfl, Nat.le_of_ble_eq_true rfl⟩ rfl hl.1 rfl (Nat.le_of_ble_eq_true rfl) dX11_term_45 ⟨Nat.le_of_ble_eq_true rfl, Nat.le_of_ble_eq_true rfl⟩) (fun r7 u7 H locs hp7 hW => ?_)
          have hc7 : ((r7 = J 25 2)) := hp7
          clear hp7
          have hr7 : r7 = J 25 2 := hc7
          refine lv_as (J 25 2) hr7 ?_
          have hW : WB g A s.heap H locs (J, L, I, P, E, N) (sgX g ++ dy) := hW
          refine lv_bipush (v := 30) hx hb dX11_term_48 (by decide) ?_
          refine lv_icmp_lt (tgt := 60) hx hb dX11_term_50 (by decide) (fun c8 => ?_) (fun c8 => ?_)
          · have c8 : (J 25 2).toInt < 30 := tlt rfl kp30 c8
            refine lv_aload_n hx hb dX11_term_60 rfl (lv_at hl 0 rfl) ?_
            refine rg_12_5 C hW (mx_ rfl) tw_369 dX11_term_61 ?_
            refine ci_ C hW (runV (x := (g.2.2.1 11)) (As := []) (rest := []) (T := ((J, L, I, P, E, N), sgX g ++ dy)) C hW (c_X10_parse_e l g J L I P E N dy H.size  (show 0 ≤ (J 11 2).toInt ∧ (J 11 2).toInt ≤ 60 from by omega)) mi_X10_parse tw_740 (recv_ (T := ((J, L, I, P, E, N), sgX g ++ dy)) C hW (mx_ rfl) rfl rfl) ⟨rfl, rfl, Nat.le_of_ble_eq_true rfl, Nat.le_of_ble_eq_true rfl⟩ rfl hl.1 rfl (Nat.le_of_ble_eq_true rfl) dX11_term_64 ⟨Nat.le_of_ble_eq_true rfl, Nat.le_of_ble_eq_true rfl⟩) (fun r9 u9 H locs hp9 hW => ?_)
            have hc9 : ((r9.toInt = 1 ∧ (PT (NX (J 43) (J 11 2)) 0 5 0 (u9 11 4).toInt.toNat (cs (u9 44) 0 (u9 11 3).toInt.toNat)) ∧ ((J 11 2).toInt ≤ (u9 11 4).toInt ∧ 0 ≤ (u9 11 3).toInt ∧ (u9 11 3).toInt ≤ 60)) ∨ (r9.toInt = 0 ∧ ((PF (NX (J 43) (J 11 2)) 0 5 0 (u9 11 4).toInt.toNat) ∨ ((∃ c, PT (NX (J 43) (J 11 2)) 0 5 0 (u9 11 4).toInt.toNat c) ∧ (u9 11 4).toInt < (J 11 2).toInt)) ∧ (0 ≤ (u9 11 4).toInt))) := hp9
            clear hp9
            have hW : WB g A s.heap H locs ((hv J [44] [(11, 3), (11, 4)] u9), L, I, P, E, N) (sgX g ++ dy) := hW
            have hPA := hc9
            refine lv_istore_n (lv' := [(3, .int r9), (0, .ref (g.2.2.1 12)), (1, .int a0), (2, .int a1)]) hx hb dX11_term_67 rfl hl (by decide) rfl (fun ls hl => ?_)
            refine lv_aload_n hx hb dX11_term_68 rfl (lv_at hl 1 rfl) ?_
            refine rg_12_5 C hW (mx_ rfl) tw_369 dX11_term_69 ?_
            refine rg_11_4 C hW (mx_ rfl) tw_306 dX11_term_72 ?_
            refine lv_as (u9 11 4) rfl ?_
            refine lv_istore (lv' := [(4, .int (u9 11 4)), (3, .int r9), (0, .ref (g.2.2.1 12)), (1, .int a0), (2, .int a1)]) hx hb dX11_term_75 hl (by decide) rfl (fun ls hl => ?_)
            refine lv_aload_n hx hb dX11_term_77 rfl (lv_at hl 2 rfl) ?_
            refine rg_12_5 C hW (mx_ rfl) tw_369 dX11_term_78 ?_
            refine lv_iconst (v := 0) hx hb dX11_term_81 (by decide) ?_
            refine rp_11_2 C hW (mx_ rfl) tw_303 dX11_term_82 (fun H locs hW => ?_)
            refine lv_iload_n hx hb dX11_term_85 rfl (lv_at hl 1 rfl) ?_
            refine lv_if_ne (tgt := 95) hx hb dX11_term_86 (by decide) (fun c10 => ?_) (fun c10 => ?_)
            · have c10 : ¬ r9.toInt = 0 := tne rfl kp0 c10
              obtain ⟨hA1, hA2⟩ := or_l hPA (by omega)
              refine lv_aload_n hx hb dX11_term_95 rfl (lv_at hl 2 rfl) ?_
              refine rg_12_3 C hW (mx_ rfl) tw_367 dX11_term_96 ?_
              refine g_new (r := 10) (S' := fun q => ((up2 (hv J [44] [(11, 3), (11, 4)] u9) 11 2 0), L, clr I 10 q 0, clr P 10 q none, E, N)) (ci := 10) (fs := [.int 0, .int 0, .null, .int 0, .int 0]) C hW rfl rfl in_X9 tyX9 tyX9_ok tw_662 tw_776 tw_87 (fun j hj => by rcases (show j = 0 ∨ j = 1 ∨ j = 2 ∨ j = 3 ∨ j = 4 by omega) with rfl | rfl | rfl | rfl | rfl <;> rfl) (fun q => by simp only [cel, celc, clr_s] <;> rfl) (fun q r' a h => cel_clr 10 q r' a h) ⟨Nat.le_of_ble_eq_true rfl, Nat.le_of_ble_eq_true rfl⟩ dX11_term_99 (fun q11 H hfr11 hW => ?_)
              rw [List.append_assoc] at hW
              have hW : WB g A s.heap H locs ((up2 (hv J [44] [(11, 3), (11, 4)] u9) 11 2 0), L, (clr I 10 q11 0), (clr P 10 q11 none), E, N) (sgX g ++ (dy ++ [(10, q11)])) := hW
              refine lv_dup hx hb dX11_term_102 rfl ?_
              refine lv_iload_n hx hb dX11_term_103 rfl (lv_at hl 3 rfl) ?_
              refine lv_iload_n hx hb dX11_term_104 rfl (lv_at hl 4 rfl) ?_
              refine lv_aload_n hx hb dX11_term_105 rfl (lv_at hl 2 rfl) ?_
              refine rg_12_5 C hW (mx_ rfl) tw_369 dX11_term_106 ?_
              refine cq_ C hW (runV (x := (g.2.2.1 11)) (As := []) (rest := [.int a1, .int a0, .ref q11, .ref q11, .ref (g.2.2.1 25)]) (T := (((up2 (hv J [44] [(11, 3), (11, 4)] u9) 11 2 0), L, (clr I 10 q11 0), (clr P 10 q11 none), E, N), sgX g ++ (dy ++ [(10, q11)]))) C hW (c_X10_madeCode_e l g (up2 (hv J [44] [(11, 3), (11, 4)] u9) 11 2 0) L (clr I 10 q11 0) (clr P 10 q11 none) E N (dy ++ [(10, q11)]) H.size (show 0 ≤ (u9 11 3).toInt ∧ (u9 11 3).toInt ≤ 60 from hA2.2)) mi_X10_madeCode tw_777 (recv_ (T := (((up2 (hv J [44] [(11, 3), (11, 4)] u9) 11 2 0), L, (clr I 10 q11 0), (clr P 10 q11 none), E, N), sgX g ++ (dy ++ [(10, q11)]))) C hW (mx_ rfl) rfl rfl) ⟨rfl, rfl, Nat.le_of_ble_eq_true rfl, Nat.le_of_ble_eq_true rfl⟩ rfl hl.1 rfl (Nat.le_of_ble_eq_true rfl) dX11_term_109 ⟨Nat.le_of_ble_eq_true rfl, Nat.le_of_ble_eq_true rfl⟩) (fun qm u12 H locs hp12 hW => ?_)
              obtain ⟨rfl, hMN, hMC, hMO, hmf⟩ : qm = some u12.2.1 ∧ u12.2.2 = (u9 11 3).toNatClampNeg ∧ (∀ i : Nat, i < u12.2.2 → u12.1 46 i u12.2.1 = u9 44 i) ∧ (∀ a : Nat, a ≠ u12.2.1 → ∀ f : Nat, u12.1 46 f a = I 46 f a) ∧ (∀ x : Nat × Nat, x ∈ sgX g ++ (dy ++ [(10, q11)]) → x.2 ≠ u12.2.1) := hp12
              have hmN0 : u12.2.2 ≤ 60 := by (have h8 := tcl (u9 11 3); have h9 := hA2.2; omega)
              have hW : WB g A s.heap H locs ((up2 (hv J [44] [(11, 3), (11, 4)] u9) 11 2 0), L, (hv (clr I 10 q11 0) [46] [] u12.1), (clr P 10 q11 none), E, (up1 N u12.2.1 u12.2.2)) (sgX g ++ ((dy ++ [(10, q11)]) ++ [(46, u12.2.1)])) := hW
              have hmN : (up1 N u12.2.1 u12.2.2) u12.2.1 ≤ 60 := by rw [up1_s]; exact hmN0
              refine lv_asv (v' := .ref u12.2.1) rfl ?_
              refine cv_ C hW (runI (x := q11) (As := [.int a0, .int a1, .ref u12.2.1]) (rest := [.ref q11, .ref (g.2.2.1 25)]) (T := (((up2 (hv J [44] [(11, 3), (11, 4)] u9) 11 2 0), L, (hv (clr I 10 q11 0) [46] [] u12.1), (clr P 10 q11 none), E, (up1 N u12.2.1 u12.2.2)), sgX g ++ ((dy ++ [(10, q11)]) ++ [(46, u12.2.1)]))) C hW (c_X9_init_e l g (up2 (hv J [44] [(11, 3), (11, 4)] u9) 11 2 0) L (hv (clr I 10 q11 0) [46] [] u12.1) (clr P 10 q11 none) E (up1 N u12.2.1 u12.2.2) ((dy ++ [(10, q11)]) ++ [(46, u12.2.1)]) H.size q11 (List.mem_append_left _ (List.mem_append_right _ (List.mem_singleton.mpr rfl))) a0 a1 u12.2.1 (List.mem_append_right _ (List.mem_singleton.mpr rfl)) (show (up1 N u12.2.1 u12.2.2) u12.2.1 ≤ 60 from by exact hmN)) mi_X9_init tw_793 ⟨rfl, rfl, Nat.le_of_ble_eq_true rfl, Nat.le_of_ble_eq_true rfl⟩ rfl hl.1 rfl (Nat.le_of_ble_eq_true rfl) dX11_term_112 ⟨Nat.le_of_ble_eq_true rfl, Nat.le_of_ble_eq_true rfl⟩) (fun u13 H locs hp13 hW => ?_)
              have hfc : ((u13.1).toInt = 0 → ∀ i : Nat, i < (up1 N u12.2.1 u12.2.2) u12.2.1 → ¬ ((hv (clr I 10 q11 0) [46] [] u12.1) 46 i u12.2.1).toInt = -115 ∧ ¬ ((hv (clr I 10 q11 0) [46] [] u12.1) 46 i u12.2.1).toInt = -109) ∧ ((u13.2).toInt = 0 → ∀ i : Nat, i < (up1 N u12.2.1 u12.2.2) u12.2.1 → ¬ ((hv (clr I 10 q11 0) [46] [] u12.1) 46 i u12.2.1).toInt = -97) := hp13
              rw [up1_s] at hfc
              obtain ⟨hfa0, hfa1⟩ := hfc
              have hW : WB g A s.heap H locs ((up2 (hv J [44] [(11, 3), (11, 4)] u9) 11 2 0), L, (up3 (up3 (up3 (up3 (hv (clr I 10 q11 0) [46] [] u12.1) 10 0 q11 a0) 10 1 q11 a1) 10 3 q11 u13.1) 10 4 q11 u13.2), (up3 (clr P 10 q11 none) 10 2 q11 (some u12.2.1)), E, (up1 N u12.2.1 u12.2.2)) (sgX g ++ ((dy ++ [(10, q11)]) ++ [(46, u12.2.1)])) := hW
              have hwf1 : WXF g (up2 (hv J [44] [(11, 3), (11, 4)] u9) 11 2 0) P E (up1 N u12.2.1 u12.2.2) (dy ++ [(46, u12.2.1)]) := wxf_new (J := (up2 (hv J [44] [(11, 3), (11, 4)] u9) 11 2 0)) hwf (fun x hx => hmf x (List.mem_append_right _ (List.mem_append_left _ hx))) (fun _ _ _ _ => rfl) (fun a h => up1_n _ _ h) ⟨fun h => absurd h (by decide), fun h => absurd h (by decide), fun h => absurd h (by decide), fun h => absurd h (by decide)⟩
              have hcq : u12.2.1 ≠ q11 := fun e => hmf (10, q11) (List.mem_append_right _ (List.mem_append_right _ (List.mem_singleton.mpr rfl))) e.symm
              have hwf2 : WXF g (up2 (hv J [44] [(11, 3), (11, 4)] u9) 11 2 0) (up3 (clr P 10 q11 none) 10 2 q11 (some u12.2.1)) E (up1 N u12.2.1 u12.2.2) ((dy ++ [(46, u12.2.1)]) ++ [(10, q11)]) := wxf_new (J := (up2 (hv J [44] [(11, 3), (11, 4)] u9) 11 2 0)) hwf1 (fun x hx => by rcases List.mem_append.mp hx with h | h; exact hfr11 x (List.mem_append_right _ h); rw [List.mem_singleton.mp h]; exact hcq) (fun r f a h => (up3_a _ _ _ _ h _ _).trans (clr_o _ _ _ h _ _)) (fun _ _ => rfl) ⟨fun h => absurd h (by decide), fun h => absurd h (by decide), fun h => absurd h (by decide), fun _ => ⟨_, up3_s _ _ _ _ _, List.mem_append_right _ (List.mem_singleton.mpr rfl), hmN⟩⟩
              have hwf : WXF g (up2 (hv J [44] [(11, 3), (11, 4)] u9) 11 2 0) (up3 (clr P 10 q11 none) 10 2 q11 (some u12.2.1)) E (up1 N u12.2.1 u12.2.2) ((dy ++ [(10, q11)]) ++ [(46, u12.2.1)]) := wxf_perm (fun x => by simp only [List.mem_append, List.mem_singleton]; constructor <;> (intro h; rcases h with (h | h) | h <;> simp [h])) hwf2
              refine ci_ C hW (runV (x := (g.2.2.1 25)) (As := [.ref q11]) (rest := []) (T := (((up2 (hv J [44] [(11, 3), (11, 4)] u9) 11 2 0), L, (up3 (up3 (up3 (up3 (hv (clr I 10 q11 0) [46] [] u12.1) 10 0 q11 a0) 10 1 q11 a1) 10 3 q11 u13.1) 10 4 q11 u13.2), (up3 (clr P 10 q11 none) 10 2 q11 (some u12.2.1)), E, (up1 N u12.2.1 u12.2.2)), sgX g ++ ((dy ++ [(10, q11)]) ++ [(46, u12.2.1)]))) C hW (c_Jx4a65c_add_9ea2d l g (up2 (hv J [44] [(11, 3), (11, 4)] u9) 11 2 0) L (up3 (up3 (up3 (up3 (hv (clr I 10 q11 0) [46] [] u12.1) 10 0 q11 a0) 10 1 q11 a1) 10 3 q11 u13.1) 10 4 q11 u13.2) (up3 (clr P 10 q11 none) 10 2 q11 (some u12.2.1)) E (up1 N u12.2.1 u12.2.2) ((dy ++ [(10, q11)]) ++ [(46, u12.2.1)]) H.size 10 25 rfl rfl q11 (List.mem_append_left _ (List.mem_append_right _ (List.mem_singleton.mpr rfl))) hwf.2.1.2.1 (show (J 25 2).toInt ≤ 9999 from by omega)) mi_Jx4a65c_add_9ea2d tw_488 (recv_ (T := (((up2 (hv J [44] [(11, 3), (11, 4)] u9) 11 2 0), L, (up3 (up3 (up3 (up3 (hv (clr I 10 q11 0) [46] [] u12.1) 10 0 q11 a0) 10 1 q11 a1) 10 3 q11 u13.1) 10 4 q11 u13.2), (up3 (clr P 10 q11 none) 10 2 q11 (some u12.2.1)), E, (up1 N u12.2.1 u12.2.2)), sgX g ++ ((dy ++ [(10, q11)]) ++ [(46, u12.2.1)]))) C hW (mx_ rfl) (cel_list rfl) rfl) ⟨rfl, rfl, Nat.le_of_ble_eq_true rfl, Nat.le_of_ble_eq_true rfl⟩ rfl hl.1 rfl (Nat.le_of_ble_eq_true rfl) dX11_term_115 ⟨Nat.le_of_ble_eq_true rfl, Nat.le_of_ble_eq_true rfl⟩) (fun r14 u14 H locs hp14 hW => ?_)
              obtain ⟨hc14, hG14, hL14, hE14, hF14⟩ := hp14
              have hlo14 : 0 ≤ (J 25 2).toInt := (hwf.2.1.2.1).1
              have ht14 : (J 25 2 + 1).toInt = (J 25 2).toInt + 1 := tadd rfl rfl kp1 (by omega)
              have hW : WB g A s.heap H locs ((up2 (up2 (up2 (hv J [44] [(11, 3), (11, 4)] u9) 11 2 0) 25 0 u14.1) 25 2 (J 25 2 + 1)), L, (up3 (up3 (up3 (up3 (hv (clr I 10 q11 0) [46] [] u12.1) 10 0 q11 a0) 10 1 q11 a1) 10 3 q11 u13.1) 10 4 q11 u13.2), (hv (up3 (clr P 10 q11 none) 10 2 q11 (some u12.2.1)) [35] [] u14.2.1), (up1 E 25 u14.2.2.1), u14.2.2.2.1) (sgX g ++ u14.2.2.2.2) := hW
              have hwf : WXF g (up2 (up2 (up2 (hv J [44] [(11, 3), (11, 4)] u9) 11 2 0) 25 0 u14.1) 25 2 (J 25 2 + 1)) (hv (up3 (clr P 10 q11 none) 10 2 q11 (some u12.2.1)) [35] [] u14.2.1) (up1 E 25 u14.2.2.1) u14.2.2.2.1 u14.2.2.2.2 := wxf_add25 hwf hG14 hL14
              refine lv_pop hx hb dX11_term_118 rfl ?_
              refine lv_aload_n hx hb dX11_term_119 rfl (lv_at hl 2 rfl) ?_
              refine rg_12_3 C hW (mx_ rfl) tw_367 dX11_term_120 ?_
              refine ci_ C hW (runV (x := (g.2.2.1 25)) (As := []) (rest := []) (T := (((up2 (up2 (up2 (hv J [44] [(11, 3), (11, 4)] u9) 11 2 0) 25 0 u14.1) 25 2 (J 25 2 + 1)), L, (up3 (up3 (up3 (up3 (hv (clr I 10 q11 0) [46] [] u12.1) 10 0 q11 a0) 10 1 q11 a1) 10 3 q11 u13.1) 10 4 q11 u13.2), (hv (up3 (clr P 10 q11 none) 10 2 q11 (some u12.2.1)) [35] [] u14.2.1), (up1 E 25 u14.2.2.1), u14.2.2.2.1), sgX g ++ u14.2.2.2.2)) C hW (c_Jx4a65c_size_8abf5 l g (up2 (up2 (up2 (hv J [44] [(11, 3), (11, 4)] u9) 11 2 0) 25 0 u14.1) 25 2 (J 25 2 + 1)) L (up3 (up3 (up3 (up3 (hv (clr I 10 q11 0) [46] [] u12.1) 10 0 q11 a0) 10 1 q11 a1) 10 3 q11 u13.1) 10 4 q11 u13.2) (hv (up3 (clr P 10 q11 none) 10 2 q11 (some u12.2.1)) [35] [] u14.2.1) (up1 E 25 u14.2.2.1) u14.2.2.2.1 u14.2.2.2.2 H.size 25 rfl ) mi_Jx4a65c_size_8abf5 tw_485 (recv_ (T := (((up2 (up2 (up2 (hv J [44] [(11, 3), (11, 4)] u9) 11 2 0) 25 0 u14.1) 25 2 (J 25 2 + 1)), L, (up3 (up3 (up3 (up3 (hv (clr I 10 q11 0) [46] [] u12.1) 10 0 q11 a0) 10 1 q11 a1) 10 3 q11 u13.1) 10 4 q11 u13.2), (hv (up3 (clr P 10 q11 none) 10 2 q11 (some u12.2.1)) [35] [] u14.2.1), (up1 E 25 u14.2.2.1), u14.2.2.2.1), sgX g ++ u14.2.2.2.2)) C hW (mx_ rfl) (cel_list rfl) rfl) ⟨rfl, rfl, Nat.le_of_ble_eq_true rfl, Nat.le_of_ble_eq_true rfl⟩ rfl hl.1 rfl (Nat.le_of_ble_eq_true rfl) dX11_term_123 ⟨Nat.le_of_ble_eq_true rfl, Nat.le_of_ble_eq_true rfl⟩) (fun r15 u15 H locs hp15 hW => ?_)
              have hc15 : ((r15 = J 25 2 + 1)) := hp15
              clear hp15
              have hr15 : r15 = J 25 2 + 1 := hc15
              refine lv_as (J 25 2 + 1) hr15 ?_
              have hW : WB g A s.heap H locs ((up2 (up2 (up2 (hv J [44] [(11, 3), (11, 4)] u9) 11 2 0) 25 0 u14.1) 25 2 (J 25 2 + 1)), L, (up3 (up3 (up3 (up3 (hv (clr I 10 q11 0) [46] [] u12.1) 10 0 q11 a0) 10 1 q11 a1) 10 3 q11 u13.1) 10 4 q11 u13.2), (hv (up3 (clr P 10 q11 none) 10 2 q11 (some u12.2.1)) [35] [] u14.2.1), (up1 E 25 u14.2.2.1), u14.2.2.2.1) (sgX g ++ u14.2.2.2.2) := hW
              have hF9 : elt (up1 E 25 u14.2.2.1) (hv (up3 (clr P 10 q11 none) 10 2 q11 (some u12.2.1)) [35] [] u14.2.1) 25 (J 25 2).toNatClampNeg = q11 := hF14
              have hJe : (up2 (up2 (up2 (hv J [44] [(11, 3), (11, 4)] u9) 11 2 0) 25 0 u14.1) 25 2 (J 25 2 + 1)) = hv J [42, 44] [(11, 2), (11, 3), (11, 4), (25, 0), (25, 2)] (up2 (up2 (up2 (hv J [44] [(11, 3), (11, 4)] u9) 11 2 0) 25 0 u14.1) 25 2 (J 25 2 + 1)) := ag_hvE (J := J) (R := [42, 44]) (F := [(11, 2), (11, 3), (11, 4), (25, 0), (25, 2)]) (ag_up (Or.inr rfl) (ag_up (Or.inr rfl) (ag_up (Or.inr rfl) (ag_hv rfl rfl ag_rf))))
              have hIe : (up3 (up3 (up3 (up3 (hv (clr I 10 q11 0) [46] [] u12.1) 10 0 q11 a0) 10 1 q11 a1) 10 3 q11 u13.1) 10 4 q11 u13.2) = hv I [10, 46] [] (up3 (up3 (up3 (up3 (hv (clr I 10 q11 0) [46] [] u12.1) 10 0 q11 a0) 10 1 q11 a1) 10 3 q11 u13.1) 10 4 q11 u13.2) := ag_hvE (J := I) (R := [10, 46]) (F := []) (ag_up3 (Or.inl rfl) (ag_up3 (Or.inl rfl) (ag_up3 (Or.inl rfl) (ag_up3 (Or.inl rfl) (ag_hv rfl rfl (ag_clr rfl ag_rf))))))
              have hPe : (hv (up3 (clr P 10 q11 none) 10 2 q11 (some u12.2.1)) [35] [] u14.2.1) = hv P [10, 35, 46] [] (hv (up3 (clr P 10 q11 none) 10 2 q11 (some u12.2.1)) [35] [] u14.2.1) := ag_hvE (J := P) (R := [10, 35, 46]) (F := []) (ag_hv rfl rfl (ag_up3 (Or.inl rfl) (ag_clr rfl ag_rf)))
              have hEe : (up1 E 25 u14.2.2.1) = hv1 E [25] (up1 E 25 u14.2.2.1) := hv1_e (R := [25]) (up1_ag rfl (fun _ _ => rfl))
              have hWr : WB g A s.heap H locs (hv J [42, 44] [(11, 2), (11, 3), (11, 4), (25, 0), (25, 2)] (up2 (up2 (up2 (hv J [44] [(11, 3), (11, 4)] u9) 11 2 0) 25 0 u14.1) 25 2 (J 25 2 + 1)), L, hv I [10, 46] [] (up3 (up3 (up3 (up3 (hv (clr I 10 q11 0) [46] [] u12.1) 10 0 q11 a0) 10 1 q11 a1) 10 3 q11 u13.1) 10 4 q11 u13.2), hv P [10, 35, 46] [] (hv (up3 (clr P 10 q11 none) 10 2 q11 (some u12.2.1)) [35] [] u14.2.1), hv1 E [25] (up1 E 25 u14.2.2.1), u14.2.2.2.1) (sgX g ++ u14.2.2.2.2) := by
                rw [← hJe, ← hIe, ← hPe, ← hEe]; exact hW
              have hwr : WXF g (hv J [42, 44] [(11, 2), (11, 3), (11, 4), (25, 0), (25, 2)] (up2 (up2 (up2 (hv J [44] [(11, 3), (11, 4)] u9) 11 2 0) 25 0 u14.1) 25 2 (J 25 2 + 1))) (hv P [10, 35, 46] [] (hv (up3 (clr P 10 q11 none) 10 2 q11 (some u12.2.1)) [35] [] u14.2.1)) (hv1 E [25] (up1 E 25 u14.2.2.1)) u14.2.2.2.1 u14.2.2.2.2 := by
                rw [← hJe, ← hPe, ← hEe]; exact hwf
              refine W.widen (k := 10) (n := 20100) (Nat.le_of_ble_eq_true rfl) (Nat.le_of_ble_eq_true rfl) ?_
              subst hQ9
              exact end_i C hr hlocks ((up2 (up2 (up2 (hv J [44] [(11, 3), (11, 4)] u9) 11 2 0) 25 0 u14.1) 25 2 (J 25 2 + 1)), (up3 (up3 (up3 (up3 (hv (clr I 10 q11 0) [46] [] u12.1) 10 0 q11 a0) 10 1 q11 a1) 10 3 q11 u13.1) 10 4 q11 u13.2), (hv (up3 (clr P 10 q11 none) 10 2 q11 (some u12.2.1)) [35] [] u14.2.1), (up1 E 25 u14.2.2.1), u14.2.2.2.1, u14.2.2.2.2) hWr ⟨by first | exact Or.inr (Or.inr (Or.inr (Or.inr (⟨by omega, by omega, show (J 25 2 + 1).toInt = (J 25 2).toInt + 1 from by first | omega | exact rfl, show ((0 : Int32)).toInt = 0 from by exact kp0, show NOBJ I (up3 (up3 (up3 (up3 (hv (clr I 10 q11 0) [46] [] u12.1) 10 0 q11 a0) 10 1 q11 a1) 10 3 q11 u13.1) 10 4 q11 u13.2) E (up1 E 25 u14.2.2.1) P (hv (up3 (clr P 10 q11 none) 10 2 q11 (some u12.2.1)) [35] [] u14.2.1) 25 10 (J 25 2).toInt dy from by exact ⟨fun k9 hk9 => hE14 k9 hk9, fun a9 ha9 f9 => (by have h9 : a9 ≠ q11 := hfr11 (10, a9) (List.mem_append_right _ ha9); show (up3 (up3 (up3 (up3 (clr I 10 q11 0) 10 0 q11 a0) 10 1 q11 a1) 10 3 q11 u13.1) 10 4 q11 u13.2) 10 f9 a9 = I 10 f9 a9; exact (up3_a _ _ _ _ h9 _ _).trans ((up3_a _ _ _ _ h9 _ _).trans ((up3_a _ _ _ _ h9 _ _).trans ((up3_a _ _ _ _ h9 _ _).trans (clr_o _ _ _ h9 _ _))))), fun j9 hj9 x9 hx9 => (by have e9 : j9 = (J 25 2).toNatClampNeg := (by have h8 := tcl (J 25 2); omega); rw [e9, hF9]; exact hfr11 x9 (List.mem_append_right _ hx9))⟩, show (∀ j : Nat, (j : Int) = (J 25 2).toInt → (up3 (up3 (up3 (up3 (hv (clr I 10 q11 0) [46] [] u12.1) 10 0 q11 a0) 10 1 q11 a1) 10 3 q11 u13.1) 10 4 q11 u13.2) 10 0 (elt (up1 E 25 u14.2.2.1) (hv (up3 (clr P 10 q11 none) 10 2 q11 (some u12.2.1)) [35] [] u14.2.1) 25 j) = a0 ∧ (up3 (up3 (up3 (up3 (hv (clr I 10 q11 0) [46] [] u12.1) 10 0 q11 a0) 10 1 q11 a1) 10 3 q11 u13.1) 10 4 q11 u13.2) 10 1 (elt (up1 E 25 u14.2.2.1) (hv (up3 (clr P 10 q11 none) 10 2 q11 (some u12.2.1)) [35] [] u14.2.1) 25 j) = a1) from by (intro j9 hj9; have e9 : j9 = (J 25 2).toNatClampNeg := (by have h8 := tcl (J 25 2); omega); rw [e9, hF9]; exact ⟨(show (up3 (hv (clr I 10 q11 0) [46] [] u12.1) 10 0 q11 a0) 10 0 q11 = a0 from up3_s _ _ _ _ _), (show (up3 (up3 (hv (clr I 10 q11 0) [46] [] u12.1) 10 0 q11 a0) 10 1 q11 a1) 10 1 q11 = a1 from up3_s _ _ _ _ _)⟩), show (∃ (q : Nat) (cd : List Int), PT (NX (J 43) (J 11 2)) 0 5 0 q cd ∧ (J 11 2).toInt ≤ (q : Int) ∧ ∀ j : Nat, (j : Int) = (J 25 2).toInt → CD (up3 (up3 (up3 (up3 (hv (clr I 10 q11 0) [46] [] u12.1) 10 0 q11 a0) 10 1 q11 a1) 10 3 q11 u13.1) 10 4 q11 u13.2) (hv (up3 (clr P 10 q11 none) 10 2 q11 (some u12.2.1)) [35] [] u14.2.1) (up1 E 25 u14.2.2.1) u14.2.2.2.1 j = cd) from by exact ⟨_, _, hA1, by omega, fun j9 hj9 => cd_new (by have h8 := tcl (J 25 2); omega) hF9 (show (up3 (clr P 10 q11 none) 10 2 q11 (some u12.2.1)) 10 2 q11 = some u12.2.1 from up3_s _ _ _ _ _) ((hG14.2.2 (46, u12.2.1) (by simp)).trans (up1_s _ _ _)) hMN (fun i9 hi9 => hMC i9 hi9) (by omega)⟩, show (∀ k : Nat, (k : Int) < (J 25 2).toInt → CD (up3 (up3 (up3 (up3 (hv (clr I 10 q11 0) [46] [] u12.1) 10 0 q11 a0) 10 1 q11 a1) 10 3 q11 u13.1) 10 4 q11 u13.2) (hv (up3 (clr P 10 q11 none) 10 2 q11 (some u12.2.1)) [35] [] u14.2.1) (up1 E 25 u14.2.2.1) u14.2.2.2.1 k = CD I P E N k) from by exact cd_old hwf0 (fun k9 hk9 => hE14 k9 hk9) (fun a9 ha9 => (by have h9 : a9 ≠ q11 := hfr11 (10, a9) (List.mem_append_right _ ha9); show (up3 (clr P 10 q11 none) 10 2 q11 (some u12.2.1)) 10 2 a9 = P 10 2 a9; exact (up3_a _ _ _ _ h9 _ _).trans (clr_o _ _ _ h9 _ _))) (fun b9 hb9 => (hG14.2.2 (46, b9) (by simp [hb9])).trans (up1_n _ _ (fun e9 => hmf (46, b9) (List.mem_append_right _ (List.mem_append_left _ hb9)) (by rw [e9])))) (fun b9 hb9 i9 => hMO b9 (fun e9 => hmf (46, b9) (List.mem_append_right _ (List.mem_append_left _ hb9)) (by rw [e9])) i9), show (∀ j : Nat, (j : Int) = (J 25 2).toInt → (((up3 (up3 (up3 (up3 (hv (clr I 10 q11 0) [46] [] u12.1) 10 0 q11 a0) 10 1 q11 a1) 10 3 q11 u13.1) 10 4 q11 u13.2) 10 3 (elt (up1 E 25 u14.2.2.1) (hv (up3 (clr P 10 q11 none) 10 2 q11 (some u12.2.1)) [35] [] u14.2.1) 25 j)).toInt = 0 → ∀ c ∈ CD (up3 (up3 (up3 (up3 (hv (clr I 10 q11 0) [46] [] u12.1) 10 0 q11 a0) 10 1 q11 a1) 10 3 q11 u13.1) 10 4 q11 u13.2) (hv (up3 (clr P 10 q11 none) 10 2 q11 (some u12.2.1)) [35] [] u14.2.1) (up1 E 25 u14.2.2.1) u14.2.2.2.1 j, ¬ c = -115 ∧ ¬ c = -109) ∧ (((up3 (up3 (up3 (up3 (hv (clr I 10 q11 0) [46] [] u12.1) 10 0 q11 a0) 10 1 q11 a1) 10 3 q11 u13.1) 10 4 q11 u13.2) 10 4 (elt (up1 E 25 u14.2.2.1) (hv (up3 (clr P 10 q11 none) 10 2 q11 (some u12.2.1)) [35] [] u14.2.1) 25 j)).toInt = 0 → ∀ c ∈ CD (up3 (up3 (up3 (up3 (hv (clr I 10 q11 0) [46] [] u12.1) 10 0 q11 a0) 10 1 q11 a1) 10 3 q11 u13.1) 10 4 q11 u13.2) (hv (up3 (clr P 10 q11 none) 10 2 q11 (some u12.2.1)) [35] [] u14.2.1) (up1 E 25 u14.2.2.1) u14.2.2.2.1 j, ¬ c = -97)) from by (intro j9 hj9; have e9 : j9 = (J 25 2).toNatClampNeg := (by have h8 := tcl (J 25 2); omega); exact ask_new (by rw [e9]; exact hF9) (show (up3 (clr P 10 q11 none) 10 2 q11 (some u12.2.1)) 10 2 q11 = some u12.2.1 from up3_s _ _ _ _ _) ((hG14.2.2 (46, u12.2.1) (by simp)).trans (up1_s _ _ _)) (show (up3 (up3 (up3 (hv (clr I 10 q11 0) [46] [] u12.1) 10 0 q11 a0) 10 1 q11 a1) 10 3 q11 u13.1) 10 3 q11 = u13.1 from up3_s _ _ _ _ _) (show (up3 (up3 (up3 (up3 (hv (clr I 10 q11 0) [46] [] u12.1) 10 0 q11 a0) 10 1 q11 a1) 10 3 q11 u13.1) 10 4 q11 u13.2) 10 4 q11 = u13.2 from up3_s _ _ _ _ _) (fun _ _ => rfl) hfa0 hfa1)⟩)))), hwr, fun x hx => hG14.1 x ((fun x hx => List.mem_append_left _ ((fun x hx => List.mem_append_left _ ((fun x hx => hx) x hx)) x hx)) x hx), show ∀ x ∈ dy, u14.2.2.2.1 x.2 = N x.2 from by exact fun x hx => (hG14.2.2 x ((fun x hx => List.mem_append_left _ ((fun x hx => List.mem_append_left _ ((fun x hx => hx) x hx)) x hx)) x hx)).trans ((fun x hx => (up1_n _ _ (hmf x (List.mem_append_right _ ((fun x hx => List.mem_append_left _ ((fun x hx => hx) x hx)) x hx)))).trans ((fun _ _ => rfl) x hx)) x hx)⟩ dX11_term_126
            · have c10 : r9.toInt = 0 := teq rfl kp0 c10
              have hF8 := (or_r hPA (by omega)).1
              have hF9 := (or_r hPA (by omega)).2
              have hF7 : (u9 11 4).toInt ≤ 60 := hF8.elim (fun z => (by have z9 := pf_hi z (by omega); omega)) (fun z => (by have z9 := z.2; omega))
              refine lv_bipush (v := (-20)) hx hb dX11_term_89 (by decide) ?_
              refine lv_iload hx hb dX11_term_91 (lv_at hl 0 rfl) ?_
              refine lv_isub hx hb dX11_term_93 ?_
              refine lv_topi (fun x16 (e16 : x16 = (-20) - (u9 11 4)) => ?_)
              try have t16 : x16.toInt = (-20) - (u9 11 4).toInt := tsub e16 kn20 rfl (by omega)
              have hJe : (up2 (hv J [44] [(11, 3), (11, 4)] u9) 11 2 0) = hv J [42, 44] [(11, 2), (11, 3), (11, 4), (25, 0), (25, 2)] (up2 (hv J [44] [(11, 3), (11, 4)] u9) 11 2 0) := ag_hvE (J := J) (R := [42, 44]) (F := [(11, 2), (11, 3), (11, 4), (25, 0), (25, 2)]) (ag_up (Or.inr rfl) (ag_hv rfl rfl ag_rf))
              have hIe : I = hv I [10, 46] [] I := ag_hvE (J := I) (R := [10, 46]) (F := []) ag_rf
              have hPe : P = hv P [10, 35, 46] [] P := ag_hvE (J := P) (R := [10, 35, 46]) (F := []) ag_rf
              have hEe : E = hv1 E [25] E := hv1_e (R := [25]) (fun _ _ => rfl)
              have hWr : WB g A s.heap H locs (hv J [42, 44] [(11, 2), (11, 3), (11, 4), (25, 0), (25, 2)] (up2 (hv J [44] [(11, 3), (11, 4)] u9) 11 2 0), L, hv I [10, 46] [] I, hv P [10, 35, 46] [] P, hv1 E [25] E, N) (sgX g ++ dy) := by
                rw [← hJe, ← hIe, ← hPe, ← hEe]; exact hW
              have hwr : WXF g (hv J [42, 44] [(11, 2), (11, 3), (11, 4), (25, 0), (25, 2)] (up2 (hv J [44] [(11, 3), (11, 4)] u9) 11 2 0)) (hv P [10, 35, 46] [] P) (hv1 E [25] E) N dy := by
                rw [← hJe, ← hPe, ← hEe]; exact hwf
              refine W.widen (k := 10) (n := 20100) (Nat.le_of_ble_eq_true rfl) (Nat.le_of_ble_eq_true rfl) ?_
              subst hQ9
              exact end_i C hr hlocks ((up2 (hv J [44] [(11, 3), (11, 4)] u9) 11 2 0), I, P, E, N, dy) hWr ⟨by first | exact Or.inr (Or.inr (Or.inr (Or.inl ⟨by first | rfl | assumption, by omega, show (∃ q : Nat, x16.toInt = -20 - (q : Int) ∧ (PF (NX (J 43) (J 11 2)) 0 5 0 q ∨ ((∃ c, PT (NX (J 43) (J 11 2)) 0 5 0 q c) ∧ (q : Int) < (J 11 2).toInt))) from by first | rfl | exact kp0 | (intro k hk; rfl) | (intro k; rfl) | (have h9 := (or_r hPA (by omega)).2; exact ⟨(u9 11 4).toInt.toNat, by omega, (or_r hPA (by omega)).1.imp id (fun z => ⟨z.1, by omega⟩)⟩), show ((0 : Int32)).toInt = 0 from by first | rfl | exact kp0 | (intro k hk; rfl) | (intro k; rfl) | (have h9 := (or_r hPA (by omega)).2; exact ⟨(u9 11 4).toInt.toNat, by omega, (or_r hPA (by omega)).1.imp id (fun z => ⟨z.1, by omega⟩)⟩), show J 25 2 = J 25 2 from by first | rfl | exact kp0 | (intro k hk; rfl) | (intro k; rfl) | (have h9 := (or_r hPA (by omega)).2; exact ⟨(u9 11 4).toInt.toNat, by omega, (or_r hPA (by omega)).1.imp id (fun z => ⟨z.1, by omega⟩)⟩), show (∀ k : Nat, elt E P 25 k = elt E P 25 k) from by first | rfl | exact kp0 | (intro k hk; rfl) | (intro k; rfl) | (have h9 := (or_r hPA (by omega)).2; exact ⟨(u9 11 4).toInt.toNat, by omega, (or_r hPA (by omega)).1.imp id (fun z => ⟨z.1, by omega⟩)⟩), show I 10 = I 10 from by first | rfl | exact kp0 | (intro k hk; rfl) | (intro k; rfl) | (have h9 := (or_r hPA (by omega)).2; exact ⟨(u9 11 4).toInt.toNat, by omega, (or_r hPA (by omega)).1.imp id (fun z => ⟨z.1, by omega⟩)⟩), show (∀ k : Nat, (k : Int) < (J 25 2).toInt → CD I P E N k = CD I P E N k) from by first | rfl | exact kp0 | (intro k hk; rfl) | (intro k; rfl) | (have h9 := (or_r hPA (by omega)).2; exact ⟨(u9 11 4).toInt.toNat, by omega, (or_r hPA (by omega)).1.imp id (fun z => ⟨z.1, by omega⟩)⟩)⟩))), hwr, fun x hx => hx, show ∀ x ∈ dy, N x.2 = N x.2 from by exact fun _ _ => rfl⟩ dX11_term_94
          · have c8 : 30 ≤ (J 25 2).toInt := tnlt rfl kp30 c8
            refine lv_aload_n hx hb dX11_term_53 rfl (lv_at hl 0 rfl) ?_
            refine lv_bipush (v := (-6)) hx hb dX11_term_54 (by decide) ?_
            refine ci_ C hW (runV (x := (g.2.2.1 12)) (As := [.int (-6)]) (rest := []) (T := ((J, L, I, P, E, N), sgX g ++ dy)) C hW (c_X11_refuse l g J L I P E N dy H.size (-6) hwf) mi_X11_refuse tw_411 (recv_ (T := ((J, L, I, P, E, N), sgX g ++ dy)) C hW (mx_ rfl) rfl rfl) ⟨rfl, rfl, Nat.le_of_ble_eq_true rfl, Nat.le_of_ble_eq_true rfl⟩ rfl hl.1 rfl (Nat.le_of_ble_eq_true rfl) dX11_term_56 ⟨Nat.le_of_ble_eq_true rfl, Nat.le_of_ble_eq_true rfl⟩) (fun r17 u17 H locs hp17 hW => ?_)
            have hc17 : ((r17 = (-6))) := hp17
            clear hp17
            have hr17 : r17.toInt = (-6) := by rw [hc17]; exact kn6
            have hW : WB g A s.heap H locs ((hv J [42] [] u17), L, I, P, E, N) (sgX g ++ dy) := hW
            have hJe : (hv J [42] [] u17) = hv J [42, 44] [(11, 2), (11, 3), (11, 4), (25, 0), (25, 2)] (hv J [42] [] u17) := ag_hvE (J := J) (R := [42, 44]) (F := [(11, 2), (11, 3), (11, 4), (25, 0), (25, 2)]) (ag_hv rfl rfl ag_rf)
            have hIe : I = hv I [10, 46] [] I := ag_hvE (J := I) (R := [10, 46]) (F := []) ag_rf
            have hPe : P = hv P [10, 35, 46] [] P := ag_hvE (J := P) (R := [10, 35, 46]) (F := []) ag_rf
            have hEe : E = hv1 E [25] E := hv1_e (R := [25]) (fun _ _ => rfl)
            have hWr : WB g A s.heap H locs (hv J [42, 44] [(11, 2), (11, 3), (11, 4), (25, 0), (25, 2)] (hv J [42] [] u17), L, hv I [10, 46] [] I, hv P [10, 35, 46] [] P, hv1 E [25] E, N) (sgX g ++ dy) := by
              rw [← hJe, ← hIe, ← hPe, ← hEe]; exact hW
            have hwr : WXF g (hv J [42, 44] [(11, 2), (11, 3), (11, 4), (25, 0), (25, 2)] (hv J [42] [] u17)) (hv P [10, 35, 46] [] P) (hv1 E [25] E) N dy := by
              rw [← hJe, ← hPe, ← hEe]; exact hwf
            refine W.widen (k := 10) (n := 20100) (Nat.le_of_ble_eq_true rfl) (Nat.le_of_ble_eq_true rfl) ?_
            subst hQ9
            exact end_i C hr hlocks ((hv J [42] [] u17), I, P, E, N, dy) hWr ⟨by first | exact Or.inr (Or.inr (Or.inl ⟨by omega, by omega, show J 25 2 = J 25 2 from by first | rfl | (intro k hk; rfl) | (intro k; rfl), show (∀ k : Nat, elt E P 25 k = elt E P 25 k) from by first | rfl | (intro k hk; rfl) | (intro k; rfl), show I 10 = I 10 from by first | rfl | (intro k hk; rfl) | (intro k; rfl), show (∀ k : Nat, (k : Int) < (J 25 2).toInt → CD I P E N k = CD I P E N k) from by first | rfl | (intro k hk; rfl) | (intro k; rfl), show J 11 2 = J 11 2 from by first | rfl | (intro k hk; rfl) | (intro k; rfl)⟩)), hwr, fun x hx => hx, show ∀ x ∈ dy, N x.2 = N x.2 from by exact fun _ _ => rfl⟩ dX11_term_59
      · have c4 : a1.toInt < (J 3 1).toInt := tnle rfl rfl c4
        refine lv_aload_n hx hb dX11_term_27 rfl (lv_at hl 0 rfl) ?_
        refine lv_bipush (v := (-4)) hx hb dX11_term_28 (by decide) ?_
        refine ci_ C hW (runV (x := (g.2.2.1 12)) (As := [.int (-4)]) (rest := []) (T := ((J, L, I, P, E, N), sgX g ++ dy)) C hW (c_X11_refuse l g J L I P E N dy H.size (-4) hwf) mi_X11_refuse tw_411 (recv_ (T := ((J, L, I, P, E, N), sgX g ++ dy)) C hW (mx_ rfl) rfl rfl) ⟨rfl, rfl, Nat.le_of_ble_eq_true rfl, Nat.le_of_ble_eq_true rfl⟩ rfl hl.1 rfl (Nat.le_of_ble_eq_true rfl) dX11_term_30 ⟨Nat.le_of_ble_eq_true rfl, Nat.le_of_ble_eq_true rfl⟩) (fun r18 u18 H locs hp18 hW => ?_)
        have hc18 : ((r18 = (-4))) := hp18
        clear hp18
        have hr18 : r18.toInt = (-4) := by rw [hc18]; exact kn4
        have hW : WB g A s.heap H locs ((hv J [42] [] u18), L, I, P, E, N) (sgX g ++ dy) := hW
        have hJe : (hv J [42] [] u18) = hv J [42, 44] [(11, 2), (11, 3), (11, 4), (25, 0), (25, 2)] (hv J [42] [] u18) := ag_hvE (J := J) (R := [42, 44]) (F := [(11, 2), (11, 3), (11, 4), (25, 0), (25, 2)]) (ag_hv rfl rfl ag_rf)
        have hIe : I = hv I [10, 46] [] I := ag_hvE (J := I) (R := [10, 46]) (F := []) ag_rf
        have hPe : P = hv P [10, 35, 46] [] P := ag_hvE (J := P) (R := [10, 35, 46]) (F := []) ag_rf
        have hEe : E = hv1 E [25] E := hv1_e (R := [25]) (fun _ _ => rfl)
        have hWr : WB g A s.heap H locs (hv J [42, 44] [(11, 2), (11, 3), (11, 4), (25, 0), (25, 2)] (hv J [42] [] u18), L, hv I [10, 46] [] I, hv P [10, 35, 46] [] P, hv1 E [25] E, N) (sgX g ++ dy) := by
          rw [← hJe, ← hIe, ← hPe, ← hEe]; exact hW
        have hwr : WXF g (hv J [42, 44] [(11, 2), (11, 3), (11, 4), (25, 0), (25, 2)] (hv J [42] [] u18)) (hv P [10, 35, 46] [] P) (hv1 E [25] E) N dy := by
          rw [← hJe, ← hPe, ← hEe]; exact hwf
        refine W.widen (k := 10) (n := 20100) (Nat.le_of_ble_eq_true rfl) (Nat.le_of_ble_eq_true rfl) ?_
        subst hQ9
        exact end_i C hr hlocks ((hv J [42] [] u18), I, P, E, N, dy) hWr ⟨by first | exact Or.inr (Or.inl ⟨by omega, by omega, show J 25 2 = J 25 2 from by first | rfl | (intro k hk; rfl) | (intro k; rfl), show (∀ k : Nat, elt E P 25 k = elt E P 25 k) from by first | rfl | (intro k hk; rfl) | (intro k; rfl), show I 10 = I 10 from by first | rfl | (intro k hk; rfl) | (intro k; rfl), show (∀ k : Nat, (k : Int) < (J 25 2).toInt → CD I P E N k = CD I P E N k) from by first | rfl | (intro k hk; rfl) | (intro k; rfl), show J 11 2 = J 11 2 from by first | rfl | (intro k hk; rfl) | (intro k; rfl)⟩), hwr, fun x hx => hx, show ∀ x ∈ dy, N x.2 = N x.2 from by exact fun _ _ => rfl⟩ dX11_term_33
    · have c3 : 3 < a0.toInt := tnle rfl kp3 c3
      refine lv_aload_n hx hb dX11_term_9 rfl (lv_at hl 0 rfl) ?_
      refine lv_bipush (v := (-2)) hx hb dX11_term_10 (by decide) ?_
      refine ci_ C hW (runV (x := (g.2.2.1 12)) (As := [.int (-2)]) (rest := []) (T := ((J, L, I, P, E, N), sgX g ++ dy)) C hW (c_X11_refuse l g J L I P E N dy H.size (-2) hwf) mi_X11_refuse tw_411 (recv_ (T := ((J, L, I, P, E, N), sgX g ++ dy)) C hW (mx_ rfl) rfl rfl) ⟨rfl, rfl, Nat.le_of_ble_eq_true rfl, Nat.le_of_ble_eq_true rfl⟩ rfl hl.1 rfl (Nat.le_of_ble_eq_true rfl) dX11_term_12 ⟨Nat.le_of_ble_eq_true rfl, Nat.le_of_ble_eq_true rfl⟩) (fun r19 u19 H locs hp19 hW => ?_)
      have hc19 : ((r19 = (-2))) := hp19
      clear hp19
      have hr19 : r19.toInt = (-2) := by rw [hc19]; exact kn2
      have hW : WB g A s.heap H locs ((hv J [42] [] u19), L, I, P, E, N) (sgX g ++ dy) := hW
      have hJe : (hv J [42] [] u19) = hv J [42, 44] [(11, 2), (11, 3), (11, 4), (25, 0), (25, 2)] (hv J [42] [] u19) := ag_hvE (J := J) (R := [42, 44]) (F := [(11, 2), (11, 3), (11, 4), (25, 0), (25, 2)]) (ag_hv rfl rfl ag_rf)
      have hIe : I = hv I [10, 46] [] I := ag_hvE (J := I) (R := [10, 46]) (F := []) ag_rf
      have hPe : P = hv P [10, 35, 46] [] P := ag_hvE (J := P) (R := [10, 35, 46]) (F := []) ag_rf
      have hEe : E = hv1 E [25] E := hv1_e (R := [25]) (fun _ _ => rfl)
      have hWr : WB g A s.heap H locs (hv J [42, 44] [(11, 2), (11, 3), (11, 4), (25, 0), (25, 2)] (hv J [42] [] u19), L, hv I [10, 46] [] I, hv P [10, 35, 46] [] P, hv1 E [25] E, N) (sgX g ++ dy) := by
        rw [← hJe, ← hIe, ← hPe, ← hEe]; exact hW
      have hwr : WXF g (hv J [42, 44] [(11, 2), (11, 3), (11, 4), (25, 0), (25, 2)] (hv J [42] [] u19)) (hv P [10, 35, 46] [] P) (hv1 E [25] E) N dy := by
        rw [← hJe, ← hPe, ← hEe]; exact hwf
      refine W.widen (k := 10) (n := 20100) (Nat.le_of_ble_eq_true rfl) (Nat.le_of_ble_eq_true rfl) ?_
      subst hQ9
      exact end_i C hr hlocks ((hv J [42] [] u19), I, P, E, N, dy) hWr ⟨by first | exact Or.inl ⟨by omega, by omega, show J 25 2 = J 25 2 from by first | rfl | (intro k hk; rfl) | (intro k; rfl), show (∀ k : Nat, elt E P 25 k = elt E P 25 k) from by first | rfl | (intro k hk; rfl) | (intro k; rfl), show I 10 = I 10 from by first | rfl | (intro k hk; rfl) | (intro k; rfl), show (∀ k : Nat, (k : Int) < (J 25 2).toInt → CD I P E N k = CD I P E N k) from by first | rfl | (intro k hk; rfl) | (intro k; rfl), show J 11 2 = J 11 2 from by first | rfl | (intro k hk; rfl) | (intro k; rfl)⟩, hwr, fun x hx => hx, show ∀ x ∈ dy, N x.2 = N x.2 from by exact fun _ _ => rfl⟩ dX11_term_15

set_option maxHeartbeats 4000000 in
set_option maxRecDepth 100000 in
theorem c_X11_valueOf_e (l : Launch) (g : gG) (J : Nat → Nat → Int32) (L : Nat → Nat → Int64) (I : Nat → Nat → Nat → Int32) (P : Nat → Nat → Nat → Option Nat) (E : Nat → Option Nat) (N : Nat → Nat) (dy : List (Nat × Nat)) (sz : Nat) (a0 : Nat) (hm0 : (10, a0) ∈ dy) (a1 : Nat) (hm1 : (9, a1) ∈ dy) (a2 : Int32) (hwf : WXF g J P E N dy) (hnt : NTR (P 6 0) (elt E P 20) (J 101) (J 20 2).toInt) (hij : INJ E P 20 (J 20 2).toInt) (hcu : CUR (P 1 0) (I 1 1) (I 1 2) (elt E P 21) (elt E P 20) (J 105) (J 106) (J 107) (J 21 2).toInt (J 20 2).toInt) (hhm : HMR (P 2 0) (I 2 1) (I 2 2) (I 2 3) (elt E P 22) (elt E P 20) (J 108) (J 109) (J 110) (J 111) (J 22 2).toInt (J 20 2).toInt) (hm9 : 0 ≤ a2.toInt ∧ a2.toInt ≤ 9999) (hco : ∀ b : Nat, P 10 2 a0 = some b → ∀ i : Nat, i < N b → -200 ≤ (I 46 i b).toInt) (hnw9 : 0 ≤ (J 3 1).toInt ∧ (J 3 1).toInt ≤ 9999) : Met l yX11_valueOf (WS yX11_valueOf cX11_valueOf 4 (some .int)) (RM (6) 0 0) (PC g [.ref (g.2.2.1 12), .ref a0, .ref a1, .int a2] ((J, L, I, P, E, N), sgX g ++ dy) sz) (va_Qi (fun (r : Int32) (u : (Nat → Nat → Int32) × (Nat → Nat → Nat → Int32)) => (∀ b : Nat, P 10 2 a0 = some b → ∃ s m : Int32, r = WGH (SCL (I 9 2 a1) (hrw a2.toInt) (I 9 5 a1) s m (I 9 3 a1) (J 3 1 - a2) (J 22 2)) (cs (fun i => I 46 i b) 0 (N b)) ∧ (¬ (I 10 3 a0).toInt = 0 → TLY (fun x => SND x (J 101) (fun k => I 6 1 (elt E P 20 k)) (fun k => I 6 3 (elt E P 20 k)) (fun k => I 6 5 (elt E P 20 k)) (CUTP (J 105) (J 106) (J 107) (J 21 2).toInt a2.toInt) (I 9 5 a1) (I 9 3 a1) (J 20 2).toInt) (I 9 2 a1) (fun x => HF (I 9 2 a1) (J 110) (J 111) a2.toInt (J 4 5) (J 109) (J 108) x) (J 22 2).toInt.toNat s m))) (fun u t => at_ g (FR g ((J, L, I, P, E, N), sgX g ++ dy) sz) (((hv J [45] [(4, 6), (4, 7), (8, 1), (8, 2), (8, 3), (8, 4), (8, 5), (8, 6), (8, 7), (8, 8), (8, 9)] u.1), L, (hv I [] [(6, 6), (6, 7)] u.2), P, E, N), sgX g ++ dy) t) (FR g ((J, L, I, P, E, N), sgX g ++ dy) sz)) 0 0 (FR g ((J, L, I, P, E, N), sgX g ++ dy) sz) := by
  refine ent (by decide +kernel) (Nat.le_of_ble_eq_true rfl) ?_
  intro p e s m below meth c ls hsz C hW hr hlocks hname hl
  generalize FR g ((J, L, I, P, E, N), sgX g ++ dy) sz = A at C hW ⊢
  generalize hQ9 : (va_Qi (fun (r : Int32) (u : (Nat → Nat → Int32) × (Nat → Nat → Nat → Int32)) => (∀ b : Nat, P 10 2 a0 = some b → ∃ s m : Int32, r = WGH (SCL (I 9 2 a1) (hrw a2.toInt) (I 9 5 a1) s m (I 9 3 a1) (J 3 1 - a2) (J 22 2)) (cs (fun i => I 46 i b) 0 (N b)) ∧ (¬ (I 10 3 a0).toInt = 0 → TLY (fun x => SND x (J 101) (fun k => I 6 1 (elt E P 20 k)) (fun k => I 6 3 (elt E P 20 k)) (fun k => I 6 5 (elt E P 20 k)) (CUTP (J 105) (J 106) (J 107) (J 21 2).toInt a2.toInt) (I 9 5 a1) (I 9 3 a1) (J 20 2).toInt) (I 9 2 a1) (fun x => HF (I 9 2 a1) (J 110) (J 111) a2.toInt (J 4 5) (J 109) (J 108) x) (J 22 2).toInt.toNat s m))) (fun u t => at_ g A (((hv J [45] [(4, 6), (4, 7), (8, 1), (8, 2), (8, 3), (8, 4), (8, 5), (8, 6), (8, 7), (8, 8), (8, 9)] u.1), L, (hv I [] [(6, 6), (6, 7)] u.2), P, E, N), sgX g ++ dy) t) A) = Q9
  have hx := C.1.1
  have hb := C.1.2.1
  have hts := C.1.2.2.2.2
  have hl : lv_has ls 4 [(0, .ref (g.2.2.1 12)), (1, .ref a0), (2, .ref a1), (3, .int a2)] := hl
  obtain ⟨H, hH⟩ : ∃ H : Heap, H = s.heap := ⟨_, rfl⟩
  obtain ⟨locs, hlocs⟩ : ∃ q : List Loc, q = [] := ⟨_, rfl⟩
  have hW : WB g A s.heap H locs (J, L, I, P, E, N) (sgX g ++ dy) := by rw [hH, hlocs]; exact hW
  refine start_ hH hlocs ?_
  refine lv_aload_n hx hb dX11_valueOf_0 rfl (lv_at hl 1 rfl) ?_
  refine rg_10_3 C hW (List.mem_append_right _ hm0) tw_807 dX11_valueOf_1 ?_
  refine lv_topi (fun x1 (e1 : x1 = I 10 3 a0) => ?_)
  have t1 : x1.toInt = (I 10 3 a0).toInt := by rw [e1]
  refine lv_if_eq (tgt := 16) hx hb dX11_valueOf_4 (by decide) (fun c2 => ?_) (fun c2 => ?_)
  · have c2 : x1.toInt = 0 := teq rfl kp0 c2
    refine lv_aload_n hx hb dX11_valueOf_16 rfl (lv_at hl 0 rfl) ?_
    refine rg_12_6 C hW (mx_ rfl) tw_370 dX11_valueOf_17 ?_
    refine lv_aload_n hx hb dX11_valueOf_20 rfl (lv_at hl 2 rfl) ?_
    refine rg_9_2 C hW (List.mem_append_right _ hm1) tw_429 dX11_valueOf_21 ?_
    refine lv_topi (fun x3 (e3 : x3 = I 9 2 a1) => ?_)
    have t3 : x3.toInt = (I 9 2 a1).toInt := by rw [e3]
    refine rp_8_2 C hW (mx_ rfl) tw_328 dX11_valueOf_24 (fun H locs hW => ?_)
    refine lv_aload_n hx hb dX11_valueOf_27 rfl (lv_at hl 0 rfl) ?_
    refine rg_12_6 C hW (mx_ rfl) tw_370 dX11_valueOf_28 ?_
    refine lv_iload_n hx hb dX11_valueOf_31 rfl (lv_at hl 3 rfl) ?_
    refine ci_ C hW (runS (As := [.int a2]) (rest := [.ref (g.2.2.1 8)]) (T := (((up2 J 8 2 x3), L, I, P, E, N), sgX g ++ dy)) C hW (c_X11_hourOf_e l g (up2 J 8 2 x3) L I P E N dy H.size a2 (show 0 ≤ a2.toInt from by omega)) mi_X11_hourOf tw_663 ⟨rfl, rfl, Nat.le_of_ble_eq_true rfl, Nat.le_of_ble_eq_true rfl⟩ rfl hl.1 rfl (Nat.le_of_ble_eq_true rfl) dX11_valueOf_32 ⟨Nat.le_of_ble_eq_true rfl, Nat.le_of_ble_eq_true rfl⟩) (fun r4 u4 H locs hp4 hW => ?_)
    have hc4 : ((r4 = hrw a2.toInt)) := hp4
    clear hp4
    have hr4 : r4 = hrw a2.toInt := hc4
    refine lv_as (hrw a2.toInt) hr4 ?_
    have hW : WB g A s.heap H locs ((up2 J 8 2 x3), L, I, P, E, N) (sgX g ++ dy) := hW
    refine rp_8_3 C hW (mx_ rfl) tw_330 dX11_valueOf_35 (fun H locs hW => ?_)
    refine lv_aload_n hx hb dX11_valueOf_38 rfl (lv_at hl 0 rfl) ?_
    refine rg_12_6 C hW (mx_ rfl) tw_370 dX11_valueOf_39 ?_
    refine lv_aload_n hx hb dX11_valueOf_42 rfl (lv_at hl 2 rfl) ?_
    refine rg_9_5 C hW (List.mem_append_right _ hm1) tw_436 dX11_valueOf_43 ?_
    refine lv_topi (fun x5 (e5 : x5 = I 9 5 a1) => ?_)
    have t5 : x5.toInt = (I 9 5 a1).toInt := by rw [e5]
    refine rp_8_4 C hW (mx_ rfl) tw_332 dX11_valueOf_46 (fun H locs hW => ?_)
    refine lv_aload_n hx hb dX11_valueOf_49 rfl (lv_at hl 0 rfl) ?_
    refine rg_12_6 C hW (mx_ rfl) tw_370 dX11_valueOf_50 ?_
    refine lv_aload_n hx hb dX11_valueOf_53 rfl (lv_at hl 0 rfl) ?_
    refine rg_12_0 C hW (mx_ rfl) tw_364 dX11_valueOf_54 ?_
    refine rg_4_6 C hW (mx_ rfl) tw_245 dX11_valueOf_57 ?_
    refine lv_as (J 4 6) rfl ?_
    refine rp_8_5 C hW (mx_ rfl) tw_334 dX11_valueOf_60 (fun H locs hW => ?_)
    refine lv_aload_n hx hb dX11_valueOf_63 rfl (lv_at hl 0 rfl) ?_
    refine rg_12_6 C hW (mx_ rfl) tw_370 dX11_valueOf_64 ?_
    refine lv_aload_n hx hb dX11_valueOf_67 rfl (lv_at hl 0 rfl) ?_
    refine rg_12_0 C hW (mx_ rfl) tw_364 dX11_valueOf_68 ?_
    refine rg_4_7 C hW (mx_ rfl) tw_247 dX11_valueOf_71 ?_
    refine lv_as (J 4 7) rfl ?_
    refine rp_8_6 C hW (mx_ rfl) tw_336 dX11_valueOf_74 (fun H locs hW => ?_)
    refine lv_aload_n hx hb dX11_valueOf_77 rfl (lv_at hl 0 rfl) ?_
    refine rg_12_6 C hW (mx_ rfl) tw_370 dX11_valueOf_78 ?_
    refine lv_aload_n hx hb dX11_valueOf_81 rfl (lv_at hl 2 rfl) ?_
    refine rg_9_3 C hW (List.mem_append_right _ hm1) tw_432 dX11_valueOf_82 ?_
    refine lv_topi (fun x6 (e6 : x6 = I 9 3 a1) => ?_)
    have t6 : x6.toInt = (I 9 3 a1).toInt := by rw [e6]
    refine rp_8_7 C hW (mx_ rfl) tw_338 dX11_valueOf_85 (fun H locs hW => ?_)
    refine lv_aload_n hx hb dX11_valueOf_88 rfl (lv_at hl 0 rfl) ?_
    refine rg_12_6 C hW (mx_ rfl) tw_370 dX11_valueOf_89 ?_
    refine lv_aload_n hx hb dX11_valueOf_92 rfl (lv_at hl 0 rfl) ?_
    refine rg_12_1 C hW (mx_ rfl) tw_365 dX11_valueOf_93 ?_
    refine rg_3_1 C hW (mx_ rfl) tw_278 dX11_valueOf_96 ?_
    refine lv_as (J 3 1) rfl ?_
    refine lv_iload_n hx hb dX11_valueOf_99 rfl (lv_at hl 3 rfl) ?_
    refine lv_isub hx hb dX11_valueOf_100 ?_
    refine lv_topi (fun x7 (e7 : x7 = (J 3 1) - a2) => ?_)
    try have t7 : x7.toInt = (J 3 1).toInt - a2.toInt := tsub e7 rfl rfl (by omega)
    refine rp_8_8 C hW (mx_ rfl) tw_340 dX11_valueOf_101 (fun H locs hW => ?_)
    refine lv_aload_n hx hb dX11_valueOf_104 rfl (lv_at hl 0 rfl) ?_
    refine rg_12_6 C hW (mx_ rfl) tw_370 dX11_valueOf_105 ?_
    refine lv_aload_n hx hb dX11_valueOf_108 rfl (lv_at hl 0 rfl) ?_
    refine rg_12_0 C hW (mx_ rfl) tw_364 dX11_valueOf_109 ?_
    refine rg_4_2 C hW (mx_ rfl) tw_237 dX11_valueOf_112 ?_
    refine ci_ C hW (runV (x := (g.2.2.1 22)) (As := []) (rest := [.ref (g.2.2.1 8)]) (T := (((up2 (up2 (up2 (up2 (up2 (up2 (up2 J 8 2 x3) 8 3 (hrw a2.toInt)) 8 4 x5) 8 5 (J 4 6)) 8 6 (J 4 7)) 8 7 x6) 8 8 x7), L, I, P, E, N), sgX g ++ dy)) C hW (c_Jx4a65c_size_8abf5 l g (up2 (up2 (up2 (up2 (up2 (up2 (up2 J 8 2 x3) 8 3 (hrw a2.toInt)) 8 4 x5) 8 5 (J 4 6)) 8 6 (J 4 7)) 8 7 x6) 8 8 x7) L I P E N dy H.size 22 rfl ) mi_Jx4a65c_size_8abf5 tw_485 (recv_ (T := (((up2 (up2 (up2 (up2 (up2 (up2 (up2 J 8 2 x3) 8 3 (hrw a2.toInt)) 8 4 x5) 8 5 (J 4 6)) 8 6 (J 4 7)) 8 7 x6) 8 8 x7), L, I, P, E, N), sgX g ++ dy)) C hW (mx_ rfl) (cel_list rfl) rfl) ⟨rfl, rfl, Nat.le_of_ble_eq_true rfl, Nat.le_of_ble_eq_true rfl⟩ rfl hl.1 rfl (Nat.le_of_ble_eq_true rfl) dX11_valueOf_115 ⟨Nat.le_of_ble_eq_true rfl, Nat.le_of_ble_eq_true rfl⟩) (fun r8 u8 H locs hp8 hW => ?_)
    have hc8 : ((r8 = J 22 2)) := hp8
    clear hp8
    have hr8 : r8 = J 22 2 := hc8
    refine lv_as (J 22 2) hr8 ?_
    have hW : WB g A s.heap H locs ((up2 (up2 (up2 (up2 (up2 (up2 (up2 J 8 2 x3) 8 3 (hrw a2.toInt)) 8 4 x5) 8 5 (J 4 6)) 8 6 (J 4 7)) 8 7 x6) 8 8 x7), L, I, P, E, N) (sgX g ++ dy) := hW
    refine rp_8_9 C hW (mx_ rfl) tw_342 dX11_valueOf_118 (fun H locs hW => ?_)
    refine lv_aload_n hx hb dX11_valueOf_121 rfl (lv_at hl 0 rfl) ?_
    refine rg_12_6 C hW (mx_ rfl) tw_370 dX11_valueOf_122 ?_
    refine lv_aload_n hx hb dX11_valueOf_125 rfl (lv_at hl 1 rfl) ?_
    refine rg_10_2 C hW (List.mem_append_right _ hm0) tw_805 dX11_valueOf_126 ?_
    obtain ⟨b9, hb9, hbm9⟩ := hwf.2.2.2.2.2 a0 hm0
    obtain ⟨hbm9, hbn9⟩ := hbm9
    refine lv_asv (v' := .ref b9) (by show va_rf (P 10 2 a0) = _; rw [hb9]; rfl) ?_
    refine ci_ C hW (runV (x := (g.2.2.1 8)) (As := [.ref b9]) (rest := []) (T := (((up2 (up2 (up2 (up2 (up2 (up2 (up2 (up2 J 8 2 x3) 8 3 (hrw a2.toInt)) 8 4 x5) 8 5 (J 4 6)) 8 6 (J 4 7)) 8 7 x6) 8 8 x7) 8 9 (J 22 2)), L, I, P, E, N), sgX g ++ dy)) C hW (c_X7_weigh_e l g (up2 (up2 (up2 (up2 (up2 (up2 (up2 (up2 J 8 2 x3) 8 3 (hrw a2.toInt)) 8 4 x5) 8 5 (J 4 6)) 8 6 (J 4 7)) 8 7 x6) 8 8 x7) 8 9 (J 22 2)) L I P E N dy H.size b9 hbm9 (show N b9 ≤ 60 from by omega) (show ∀ i : Nat, i < N b9 → -200 ≤ (I 46 i b9).toInt from hco _ hb9)) mi_X7_weigh tw_666 (recv_ (T := (((up2 (up2 (up2 (up2 (up2 (up2 (up2 (up2 J 8 2 x3) 8 3 (hrw a2.toInt)) 8 4 x5) 8 5 (J 4 6)) 8 6 (J 4 7)) 8 7 x6) 8 8 x7) 8 9 (J 22 2)), L, I, P, E, N), sgX g ++ dy)) C hW (mx_ rfl) rfl rfl) ⟨rfl, rfl, Nat.le_of_ble_eq_true rfl, Nat.le_of_ble_eq_true rfl⟩ rfl hl.1 rfl (Nat.le_of_ble_eq_true rfl) dX11_valueOf_129 ⟨Nat.le_of_ble_eq_true rfl, Nat.le_of_ble_eq_true rfl⟩) (fun r10 u10 H locs hp10 hW => ?_)
    have hf10_0 : (r10 = WGH (SCL (x3) (hrw a2.toInt) (x5) (J 4 6) (J 4 7) (x6) (x7) (J 22 2)) (cs (fun i => I 46 i b9) 0 (N b9))) := hp10
    clear hp10
    have hW : WB g A s.heap H locs ((hv (up2 (up2 (up2 (up2 (up2 (up2 (up2 (up2 J 8 2 x3) 8 3 (hrw a2.toInt)) 8 4 x5) 8 5 (J 4 6)) 8 6 (J 4 7)) 8 7 x6) 8 8 x7) 8 9 (J 22 2)) [45] [(8, 1)] u10), L, I, P, E, N) (sgX g ++ dy) := hW
    have hWG := hf10_0
    have hWr : WB g A s.heap H locs ((hv J [45] [(4, 6), (4, 7), (8, 1), (8, 2), (8, 3), (8, 4), (8, 5), (8, 6), (8, 7), (8, 8), (8, 9)] (hv (up2 (up2 (up2 (up2 (up2 (up2 (up2 (up2 J 8 2 x3) 8 3 (hrw a2.toInt)) 8 4 x5) 8 5 (J 4 6)) 8 6 (J 4 7)) 8 7 x6) 8 8 x7) 8 9 (J 22 2)) [45] [(8, 1)] u10)), L, (hv I [] [(6, 6), (6, 7)] I), P, E, N) (sgX g ++ dy) := by
      rw [← ag_hvE (J := J) (R := [45]) (F := [(4, 6), (4, 7), (8, 1), (8, 2), (8, 3), (8, 4), (8, 5), (8, 6), (8, 7), (8, 8), (8, 9)]) (ag_hv rfl rfl (ag_up (Or.inr rfl) (ag_up (Or.inr rfl) (ag_up (Or.inr rfl) (ag_up (Or.inr rfl) (ag_up (Or.inr rfl) (ag_up (Or.inr rfl) (ag_up (Or.inr rfl) (ag_up (Or.inr rfl) ag_rf)))))))))]
      rw [← ag_hvE (J := I) (R := []) (F := [(6, 6), (6, 7)]) ag_rf]
      exact hW
    subst hQ9
    exact end_i C hr hlocks ((hv (up2 (up2 (up2 (up2 (up2 (up2 (up2 (up2 J 8 2 x3) 8 3 (hrw a2.toInt)) 8 4 x5) 8 5 (J 4 6)) 8 6 (J 4 7)) 8 7 x6) 8 8 x7) 8 9 (J 22 2)) [45] [(8, 1)] u10), I) hWr (show ∀ b : Nat, P 10 2 a0 = some b → ∃ s m : Int32, r10 = WGH (SCL (I 9 2 a1) (hrw a2.toInt) (I 9 5 a1) s m (I 9 3 a1) (J 3 1 - a2) (J 22 2)) (cs (fun i => I 46 i b) 0 (N b)) ∧ (¬ (I 10 3 a0).toInt = 0 → TLY (fun x => SND x (J 101) (fun k => I 6 1 (elt E P 20 k)) (fun k => I 6 3 (elt E P 20 k)) (fun k => I 6 5 (elt E P 20 k)) (CUTP (J 105) (J 106) (J 107) (J 21 2).toInt a2.toInt) (I 9 5 a1) (I 9 3 a1) (J 20 2).toInt) (I 9 2 a1) (fun x => HF (I 9 2 a1) (J 110) (J 111) a2.toInt (J 4 5) (J 109) (J 108) x) (J 22 2).toInt.toNat s m) from by (intro b9 h9; rw [hb9] at h9; cases h9; rw [e3, e5, e6, e7] at hWG; exact ⟨_, _, hWG, (fun h9 => absurd (by omega) h9)⟩)) dX11_valueOf_132
  · have c2 : ¬ x1.toInt = 0 := tne rfl kp0 c2
    refine lv_aload_n hx hb dX11_valueOf_7 rfl (lv_at hl 0 rfl) ?_
    refine rg_12_0 C hW (mx_ rfl) tw_364 dX11_valueOf_8 ?_
    refine lv_aload_n hx hb dX11_valueOf_11 rfl (lv_at hl 2 rfl) ?_
    refine lv_iload_n hx hb dX11_valueOf_12 rfl (lv_at hl 3 rfl) ?_
    refine cv_ C hW (runV (x := (g.2.2.1 4)) (As := [.ref a1, .int a2]) (rest := []) (T := ((J, L, I, P, E, N), sgX g ++ dy)) C hW (c_X3_tally_e l g J L I P E N dy H.size a1 hm1 a2 hwf (show NTR (P 6 0) (elt E P 20) (J 101) (J 20 2).toInt from by omega) (show INJ E P 20 (J 20 2).toInt from by omega) (show CUR (P 1 0) (I 1 1) (I 1 2) (elt E P 21) (elt E P 20) (J 105) (J 106) (J 107) (J 21 2).toInt (J 20 2).toInt from by omega) (show HMR (P 2 0) (I 2 1) (I 2 2) (I 2 3) (elt E P 22) (elt E P 20) (J 108) (J 109) (J 110) (J 111) (J 22 2).toInt (J 20 2).toInt from by omega) (show 0 ≤ a2.toInt ∧ a2.toInt ≤ 9999 from by omega)) mi_X3_tally tw_712 (recv_ (T := ((J, L, I, P, E, N), sgX g ++ dy)) C hW (mx_ rfl) rfl rfl) ⟨rfl, rfl, Nat.le_of_ble_eq_true rfl, Nat.le_of_ble_eq_true rfl⟩ rfl hl.1 rfl (Nat.le_of_ble_eq_true rfl) dX11_valueOf_13 ⟨Nat.le_of_ble_eq_true rfl, Nat.le_of_ble_eq_true rfl⟩) (fun u11 H locs hp11 hW => ?_)
    obtain ⟨hf11_0, hf11_1⟩ : ((I 9 2 a1).toInt = 6 → (u11.1 4 6).toInt = 0 ∧ (u11.1 4 7).toInt = 0) ∧ (¬ (I 9 2 a1).toInt = 6 → ∃ x : Nat → Int32, SND x (J 101) (fun k => I 6 1 (elt E P 20 k)) (fun k => I 6 3 (elt E P 20 k)) (fun k => I 6 5 (elt E P 20 k)) (CUTP (J 105) (J 106) (J 107) (J 21 2).toInt a2.toInt) (I 9 5 a1) (I 9 3 a1) (J 20 2).toInt ∧ (u11.1 4 6).toInt = CT2 (HF (I 9 2 a1) (J 110) (J 111) a2.toInt (J 4 5) (J 109) (J 108) x) (J 22 2).toInt.toNat ∧ (u11.1 4 7).toInt = CT1 (HF (I 9 2 a1) (J 110) (J 111) a2.toInt (J 4 5) (J 109) (J 108) x) (J 22 2).toInt.toNat) := hp11
    have hW : WB g A s.heap H locs ((hv J [] [(4, 6), (4, 7)] u11.1), L, (hv I [] [(6, 6), (6, 7)] u11.2), P, E, N) (sgX g ++ dy) := hW
    have hT0 := hf11_0
    have hT1 := hf11_1
    refine lv_aload_n hx hb dX11_valueOf_16 rfl (lv_at hl 0 rfl) ?_
    refine rg_12_6 C hW (mx_ rfl) tw_370 dX11_valueOf_17 ?_
    refine lv_aload_n hx hb dX11_valueOf_20 rfl (lv_at hl 2 rfl) ?_
    refine rg_9_2 C hW (List.mem_append_right _ hm1) tw_429 dX11_valueOf_21 ?_
    refine lv_topi (fun x12 (e12 : x12 = I 9 2 a1) => ?_)
    have t12 : x12.toInt = (I 9 2 a1).toInt := by rw [e12]
    refine rp_8_2 C hW (mx_ rfl) tw_328 dX11_valueOf_24 (fun H locs hW => ?_)
    refine lv_aload_n hx hb dX11_valueOf_27 rfl (lv_at hl 0 rfl) ?_
    refine rg_12_6 C hW (mx_ rfl) tw_370 dX11_valueOf_28 ?_
    refine lv_iload_n hx hb dX11_valueOf_31 rfl (lv_at hl 3 rfl) ?_
    refine ci_ C hW (runS (As := [.int a2]) (rest := [.ref (g.2.2.1 8)]) (T := (((up2 (hv J [] [(4, 6), (4, 7)] u11.1) 8 2 x12), L, (hv I [] [(6, 6), (6, 7)] u11.2), P, E, N), sgX g ++ dy)) C hW (c_X11_hourOf_e l g (up2 (hv J [] [(4, 6), (4, 7)] u11.1) 8 2 x12) L (hv I [] [(6, 6), (6, 7)] u11.2) P E N dy H.size a2 (show 0 ≤ a2.toInt from by omega)) mi_X11_hourOf tw_663 ⟨rfl, rfl, Nat.le_of_ble_eq_true rfl, Nat.le_of_ble_eq_true rfl⟩ rfl hl.1 rfl (Nat.le_of_ble_eq_true rfl) dX11_valueOf_32 ⟨Nat.le_of_ble_eq_true rfl, Nat.le_of_ble_eq_true rfl⟩) (fun r13 u13 H locs hp13 hW => ?_)
    have hc13 : ((r13 = hrw a2.toInt)) := hp13
    clear hp13
    have hr13 : r13 = hrw a2.toInt := hc13
    refine lv_as (hrw a2.toInt) hr13 ?_
    have hW : WB g A s.heap H locs ((up2 (hv J [] [(4, 6), (4, 7)] u11.1) 8 2 x12), L, (hv I [] [(6, 6), (6, 7)] u11.2), P, E, N) (sgX g ++ dy) := hW
    refine rp_8_3 C hW (mx_ rfl) tw_330 dX11_valueOf_35 (fun H locs hW => ?_)
    refine lv_aload_n hx hb dX11_valueOf_38 rfl (lv_at hl 0 rfl) ?_
    refine rg_12_6 C hW (mx_ rfl) tw_370 dX11_valueOf_39 ?_
    refine lv_aload_n hx hb dX11_valueOf_42 rfl (lv_at hl 2 rfl) ?_
    refine rg_9_5 C hW (List.mem_append_right _ hm1) tw_436 dX11_valueOf_43 ?_
    refine lv_topi (fun x14 (e14 : x14 = I 9 5 a1) => ?_)
    have t14 : x14.toInt = (I 9 5 a1).toInt := by rw [e14]
    refine rp_8_4 C hW (mx_ rfl) tw_332 dX11_valueOf_46 (fun H locs hW => ?_)
    refine lv_aload_n hx hb dX11_valueOf_49 rfl (lv_at hl 0 rfl) ?_
    refine rg_12_6 C hW (mx_ rfl) tw_370 dX11_valueOf_50 ?_
    refine lv_aload_n hx hb dX11_valueOf_53 rfl (lv_at hl 0 rfl) ?_
    refine rg_12_0 C hW (mx_ rfl) tw_364 dX11_valueOf_54 ?_
    refine rg_4_6 C hW (mx_ rfl) tw_245 dX11_valueOf_57 ?_
    refine lv_topi (fun x15 (e15 : x15 = u11.1 4 6) => ?_)
    have t15 : x15.toInt = (u11.1 4 6).toInt := by rw [e15]
    refine rp_8_5 C hW (mx_ rfl) tw_334 dX11_valueOf_60 (fun H locs hW => ?_)
    refine lv_aload_n hx hb dX11_valueOf_63 rfl (lv_at hl 0 rfl) ?_
    refine rg_12_6 C hW (mx_ rfl) tw_370 dX11_valueOf_64 ?_
    refine lv_aload_n hx hb dX11_valueOf_67 rfl (lv_at hl 0 rfl) ?_
    refine rg_12_0 C hW (mx_ rfl) tw_364 dX11_valueOf_68 ?_
    refine rg_4_7 C hW (mx_ rfl) tw_247 dX11_valueOf_71 ?_
    refine lv_topi (fun x16 (e16 : x16 = u11.1 4 7) => ?_)
    have t16 : x16.toInt = (u11.1 4 7).toInt := by rw [e16]
    refine rp_8_6 C hW (mx_ rfl) tw_336 dX11_valueOf_74 (fun H locs hW => ?_)
    refine lv_aload_n hx hb dX11_valueOf_77 rfl (lv_at hl 0 rfl) ?_
    refine rg_12_6 C hW (mx_ rfl) tw_370 dX11_valueOf_78 ?_
    refine lv_aload_n hx hb dX11_valueOf_81 rfl (lv_at hl 2 rfl) ?_
    refine rg_9_3 C hW (List.mem_append_right _ hm1) tw_432 dX11_valueOf_82 ?_
    refine lv_topi (fun x17 (e17 : x17 = I 9 3 a1) => ?_)
    have t17 : x17.toInt = (I 9 3 a1).toInt := by rw [e17]
    refine rp_8_7 C hW (mx_ rfl) tw_338 dX11_valueOf_85 (fun H locs hW => ?_)
    refine lv_aload_n hx hb dX11_valueOf_88 rfl (lv_at hl 0 rfl) ?_
    refine rg_12_6 C hW (mx_ rfl) tw_370 dX11_valueOf_89 ?_
    refine lv_aload_n hx hb dX11_valueOf_92 rfl (lv_at hl 0 rfl) ?_
    refine rg_12_1 C hW (mx_ rfl) tw_365 dX11_valueOf_93 ?_
    refine rg_3_1 C hW (mx_ rfl) tw_278 dX11_valueOf_96 ?_
    refine lv_as (J 3 1) rfl ?_
    refine lv_iload_n hx hb dX11_valueOf_99 rfl (lv_at hl 3 rfl) ?_
    refine lv_isub hx hb dX11_valueOf_100 ?_
    refine lv_topi (fun x18 (e18 : x18 = (J 3 1) - a2) => ?_)
    try have t18 : x18.toInt = (J 3 1).toInt - a2.toInt := tsub e18 rfl rfl (by omega)
    refine rp_8_8 C hW (mx_ rfl) tw_340 dX11_valueOf_101 (fun H locs hW => ?_)
    refine lv_aload_n hx hb dX11_valueOf_104 rfl (lv_at hl 0 rfl) ?_
    refine rg_12_6 C hW (mx_ rfl) tw_370 dX11_valueOf_105 ?_
    refine lv_aload_n hx hb dX11_valueOf_108 rfl (lv_at hl 0 rfl) ?_
    refine rg_12_0 C hW (mx_ rfl) tw_364 dX11_valueOf_109 ?_
    refine rg_4_2 C hW (mx_ rfl) tw_237 dX11_valueOf_112 ?_
    refine ci_ C hW (runV (x := (g.2.2.1 22)) (As := []) (rest := [.ref (g.2.2.1 8)]) (T := (((up2 (up2 (up2 (up2 (up2 (up2 (up2 (hv J [] [(4, 6), (4, 7)] u11.1) 8 2 x12) 8 3 (hrw a2.toInt)) 8 4 x14) 8 5 x15) 8 6 x16) 8 7 x17) 8 8 x18), L, (hv I [] [(6, 6), (6, 7)] u11.2), P, E, N), sgX g ++ dy)) C hW (c_Jx4a65c_size_8abf5 l g (up2 (up2 (up2 (up2 (up2 (up2 (up2 (hv J [] [(4, 6), (4, 7)] u11.1) 8 2 x12) 8 3 (hrw a2.toInt)) 8 4 x14) 8 5 x15) 8 6 x16) 8 7 x17) 8 8 x18) L (hv I [] [(6, 6), (6, 7)] u11.2) P E N dy H.size 22 rfl ) mi_Jx4a65c_size_8abf5 tw_485 (recv_ (T := (((up2 (up2 (up2 (up2 (up2 (up2 (up2 (hv J [] [(4, 6), (4, 7)] u11.1) 8 2 x12) 8 3 (hrw a2.toInt)) 8 4 x14) 8 5 x15) 8 6 x16) 8 7 x17) 8 8 x18), L, (hv I [] [(6, 6), (6, 7)] u11.2), P, E, N), sgX g ++ dy)) C hW (mx_ rfl) (cel_list rfl) rfl) ⟨rfl, rfl, Nat.le_of_ble_eq_true rfl, Nat.le_of_ble_eq_true rfl⟩ rfl hl.1 rfl (Nat.le_of_ble_eq_true rfl) dX11_valueOf_115 ⟨Nat.le_of_ble_eq_true rfl, Nat.le_of_ble_eq_true rfl⟩) (fun r19 u19 H locs hp19 hW => ?_)
    have hc19 : ((r19 = J 22 2)) := hp19
    clear hp19
    have hr19 : r19 = J 22 2 := hc19
    refine lv_as (J 22 2) hr19 ?_
    have hW : WB g A s.heap H locs ((up2 (up2 (up2 (up2 (up2 (up2 (up2 (hv J [] [(4, 6), (4, 7)] u11.1) 8 2 x12) 8 3 (hrw a2.toInt)) 8 4 x14) 8 5 x15) 8 6 x16) 8 7 x17) 8 8 x18), L, (hv I [] [(6, 6), (6, 7)] u11.2), P, E, N) (sgX g ++ dy) := hW
    refine rp_8_9 C hW (mx_ rfl) tw_342 dX11_valueOf_118 (fun H locs hW => ?_)
    refine lv_aload_n hx hb dX11_valueOf_121 rfl (lv_at hl 0 rfl) ?_
    refine rg_12_6 C hW (mx_ rfl) tw_370 dX11_valueOf_122 ?_
    refine lv_aload_n hx hb dX11_valueOf_125 rfl (lv_at hl 1 rfl) ?_
    refine rg_10_2 C hW (List.mem_append_right _ hm0) tw_805 dX11_valueOf_126 ?_
    obtain ⟨b20, hb20, hbm20⟩ := hwf.2.2.2.2.2 a0 hm0
    obtain ⟨hbm20, hbn20⟩ := hbm20
    refine lv_asv (v' := .ref b20) (by show va_rf (P 10 2 a0) = _; rw [hb20]; rfl) ?_
    refine ci_ C hW (runV (x := (g.2.2.1 8)) (As := [.ref b20]) (rest := []) (T := (((up2 (up2 (up2 (up2 (up2 (up2 (up2 (up2 (hv J [] [(4, 6), (4, 7)] u11.1) 8 2 x12) 8 3 (hrw a2.toInt)) 8 4 x14) 8 5 x15) 8 6 x16) 8 7 x17) 8 8 x18) 8 9 (J 22 2)), L, (hv I [] [(6, 6), (6, 7)] u11.2), P, E, N), sgX g ++ dy)) C hW (c_X7_weigh_e l g (up2 (up2 (up2 (up2 (up2 (up2 (up2 (up2 (hv J [] [(4, 6), (4, 7)] u11.1) 8 2 x12) 8 3 (hrw a2.toInt)) 8 4 x14) 8 5 x15) 8 6 x16) 8 7 x17) 8 8 x18) 8 9 (J 22 2)) L (hv I [] [(6, 6), (6, 7)] u11.2) P E N dy H.size b20 hbm20 (show N b20 ≤ 60 from by omega) (show ∀ i : Nat, i < N b20 → -200 ≤ ((hv I [] [(6, 6), (6, 7)] u11.2) 46 i b20).toInt from hco _ hb20)) mi_X7_weigh tw_666 (recv_ (T := (((up2 (up2 (up2 (up2 (up2 (up2 (up2 (up2 (hv J [] [(4, 6), (4, 7)] u11.1) 8 2 x12) 8 3 (hrw a2.toInt)) 8 4 x14) 8 5 x15) 8 6 x16) 8 7 x17) 8 8 x18) 8 9 (J 22 2)), L, (hv I [] [(6, 6), (6, 7)] u11.2), P, E, N), sgX g ++ dy)) C hW (mx_ rfl) rfl rfl) ⟨rfl, rfl, Nat.le_of_ble_eq_true rfl, Nat.le_of_ble_eq_true rfl⟩ rfl hl.1 rfl (Nat.le_of_ble_eq_true rfl) dX11_valueOf_129 ⟨Nat.le_of_ble_eq_true rfl, Nat.le_of_ble_eq_true rfl⟩) (fun r21 u21 H locs hp21 hW => ?_)
    have hf21_0 : (r21 = WGH (SCL (x12) (hrw a2.toInt) (x14) (x15) (x16) (x17) (x18) (J 22 2)) (cs (fun i => (hv I [] [(6, 6), (6, 7)] u11.2) 46 i b20) 0 (N b20))) := hp21
    clear hp21
    have hW : WB g A s.heap H locs ((hv (up2 (up2 (up2 (up2 (up2 (up2 (up2 (up2 (hv J [] [(4, 6), (4, 7)] u11.1) 8 2 x12) 8 3 (hrw a2.toInt)) 8 4 x14) 8 5 x15) 8 6 x16) 8 7 x17) 8 8 x18) 8 9 (J 22 2)) [45] [(8, 1)] u21), L, (hv I [] [(6, 6), (6, 7)] u11.2), P, E, N) (sgX g ++ dy) := hW
    have hWG := hf21_0
    have hWr : WB g A s.heap H locs ((hv J [45] [(4, 6), (4, 7), (8, 1), (8, 2), (8, 3), (8, 4), (8, 5), (8, 6), (8, 7), (8, 8), (8, 9)] (hv (up2 (up2 (up2 (up2 (up2 (up2 (up2 (up2 (hv J [] [(4, 6), (4, 7)] u11.1) 8 2 x12) 8 3 (hrw a2.toInt)) 8 4 x14) 8 5 x15) 8 6 x16) 8 7 x17) 8 8 x18) 8 9 (J 22 2)) [45] [(8, 1)] u21)), L, (hv I [] [(6, 6), (6, 7)] (hv I [] [(6, 6), (6, 7)] u11.2)), P, E, N) (sgX g ++ dy) := by
      rw [← ag_hvE (J := J) (R := [45]) (F := [(4, 6), (4, 7), (8, 1), (8, 2), (8, 3), (8, 4), (8, 5), (8, 6), (8, 7), (8, 8), (8, 9)]) (ag_hv rfl rfl (ag_up (Or.inr rfl) (ag_up (Or.inr rfl) (ag_up (Or.inr rfl) (ag_up (Or.inr rfl) (ag_up (Or.inr rfl) (ag_up (Or.inr rfl) (ag_up (Or.inr rfl) (ag_up (Or.inr rfl) (ag_hv rfl rfl ag_rf))))))))))]
      rw [← ag_hvE (J := I) (R := []) (F := [(6, 6), (6, 7)]) (ag_hv rfl rfl ag_rf)]
      exact hW
    subst hQ9
    exact end_i C hr hlocks ((hv (up2 (up2 (up2 (up2 (up2 (up2 (up2 (up2 (hv J [] [(4, 6), (4, 7)] u11.1) 8 2 x12) 8 3 (hrw a2.toInt)) 8 4 x14) 8 5 x15) 8 6 x16) 8 7 x17) 8 8 x18) 8 9 (J 22 2)) [45] [(8, 1)] u21), (hv I [] [(6, 6), (6, 7)] u11.2)) hWr (show ∀ b : Nat, P 10 2 a0 = some b → ∃ s m : Int32, r21 = WGH (SCL (I 9 2 a1) (hrw a2.toInt) (I 9 5 a1) s m (I 9 3 a1) (J 3 1 - a2) (J 22 2)) (cs (fun i => I 46 i b) 0 (N b)) ∧ (¬ (I 10 3 a0).toInt = 0 → TLY (fun x => SND x (J 101) (fun k => I 6 1 (elt E P 20 k)) (fun k => I 6 3 (elt E P 20 k)) (fun k => I 6 5 (elt E P 20 k)) (CUTP (J 105) (J 106) (J 107) (J 21 2).toInt a2.toInt) (I 9 5 a1) (I 9 3 a1) (J 20 2).toInt) (I 9 2 a1) (fun x => HF (I 9 2 a1) (J 110) (J 111) a2.toInt (J 4 5) (J 109) (J 108) x) (J 22 2).toInt.toNat s m) from by (rw [← e15, ← e16] at hT0 hT1; intro b9 h9; rw [hb20] at h9; cases h9; rw [e12, e14, e17, e18] at hWG; exact ⟨_, _, hWG, (fun _ => ⟨hT0, hT1⟩)⟩)) dX11_valueOf_132

set_option maxHeartbeats 4000000 in
set_option maxRecDepth 100000 in
theorem c_X11_worthIn_e (l : Launch) (g : gG) (J : Nat → Nat → Int32) (L : Nat → Nat → Int64) (I : Nat → Nat → Nat → Int32) (P : Nat → Nat → Nat → Option Nat) (E : Nat → Option Nat) (N : Nat → Nat) (dy : List (Nat × Nat)) (sz : Nat) (a0 : Int32) (a1 : Nat) (hma1 : (9, a1) ∈ dy) (a2 : Int32) (hwf : WXF g J P E N dy) (hnt : NTR (P 6 0) (elt E P 20) (J 101) (J 20 2).toInt) (hij : INJ E P 20 (J 20 2).toInt) (hcu : CUR (P 1 0) (I 1 1) (I 1 2) (elt E P 21) (elt E P 20) (J 105) (J 106) (J 107) (J 21 2).toInt (J 20 2).toInt) (hhm : HMR (P 2 0) (I 2 1) (I 2 2) (I 2 3) (elt E P 22) (elt E P 20) (J 108) (J 109) (J 110) (J 111) (J 22 2).toInt (J 20 2).toInt) (hm9 : 0 ≤ a2.toInt ∧ a2.toInt ≤ 9999) (hcdb : CDB I P E N (J 25 2).toInt) (hnw9 : 0 ≤ (J 3 1).toInt ∧ (J 3 1).toInt ≤ 9999) : Met l yX11_worthIn (WS yX11_worthIn cX11_worthIn 5 (some .int)) (RM (7) 0 0) (PC g [.ref (g.2.2.1 12), .int a0, .ref a1, .int a2] ((J, L, I, P, E, N), sgX g ++ dy) sz) (va_Qi (fun (r : Int32) (u : (Nat → Nat → Int32) × (Nat → Nat → Nat → Int32)) => (WIF I P E N (J 25 2).toInt a0.toInt a2.toInt (fun s m9 => SCL (I 9 2 a1) (hrw a2.toInt) (I 9 5 a1) s m9 (I 9 3 a1) (J 3 1 - a2) (J 22 2)) (TLY (fun x => SND x (J 101) (fun k => I 6 1 (elt E P 20 k)) (fun k => I 6 3 (elt E P 20 k)) (fun k => I 6 5 (elt E P 20 k)) (CUTP (J 105) (J 106) (J 107) (J 21 2).toInt a2.toInt) (I 9 5 a1) (I 9 3 a1) (J 20 2).toInt) (I 9 2 a1) (fun x => HF (I 9 2 a1) (J 110) (J 111) a2.toInt (J 4 5) (J 109) (J 108) x) (J 22 2).toInt.toNat) r)) (fun u t => at_ g (FR g ((J, L, I, P, E, N), sgX g ++ dy) sz) (((hv J [45] [(4, 6), (4, 7), (8, 1), (8, 2), (8, 3), (8, 4), (8, 5), (8, 6), (8, 7), (8, 8), (8, 9)] u.1), L, (hv I [] [(6, 6), (6, 7)] u.2), P, E, N), sgX g ++ dy) t) (FR g ((J, L, I, P, E, N), sgX g ++ dy) sz)) 0 0 (FR g ((J, L, I, P, E, N), sgX g ++ dy) sz) := by
  refine ent (by decide +kernel) (Nat.le_of_ble_eq_true rfl) ?_
  intro p e s m below meth c ls hsz C hW hr hlocks hname hl
  generalize FR g ((J, L, I, P, E, N), sgX g ++ dy) sz = A at C hW ⊢
  generalize hQ9 : (va_Qi (fun (r : Int32) (u : (Nat → Nat → Int32) × (Nat → Nat → Nat → Int32)) => (WIF I P E N (J 25 2).toInt a0.toInt a2.toInt (fun s m9 => SCL (I 9 2 a1) (hrw a2.toInt) (I 9 5 a1) s m9 (I 9 3 a1) (J 3 1 - a2) (J 22 2)) (TLY (fun x => SND x (J 101) (fun k => I 6 1 (elt E P 20 k)) (fun k => I 6 3 (elt E P 20 k)) (fun k => I 6 5 (elt E P 20 k)) (CUTP (J 105) (J 106) (J 107) (J 21 2).toInt a2.toInt) (I 9 5 a1) (I 9 3 a1) (J 20 2).toInt) (I 9 2 a1) (fun x => HF (I 9 2 a1) (J 110) (J 111) a2.toInt (J 4 5) (J 109) (J 108) x) (J 22 2).toInt.toNat) r)) (fun u t => at_ g A (((hv J [45] [(4, 6), (4, 7), (8, 1), (8, 2), (8, 3), (8, 4), (8, 5), (8, 6), (8, 7), (8, 8), (8, 9)] u.1), L, (hv I [] [(6, 6), (6, 7)] u.2), P, E, N), sgX g ++ dy) t) A) = Q9
  have hx := C.1.1
  have hb := C.1.2.1
  have hts := C.1.2.2.2.2
  have hl : lv_has ls 5 [(0, .ref (g.2.2.1 12)), (1, .int a0), (2, .ref a1), (3, .int a2)] := hl
  obtain ⟨H, hH⟩ : ∃ H : Heap, H = s.heap := ⟨_, rfl⟩
  obtain ⟨locs, hlocs⟩ : ∃ q : List Loc, q = [] := ⟨_, rfl⟩
  have hW : WB g A s.heap H locs (J, L, I, P, E, N) (sgX g ++ dy) := by rw [hH, hlocs]; exact hW
  refine start_ hH hlocs ?_
  refine lv_aload_n hx hb dX11_worthIn_0 rfl (lv_at hl 0 rfl) ?_
  refine lv_iload_n hx hb dX11_worthIn_1 rfl (lv_at hl 1 rfl) ?_
  refine lv_iload_n hx hb dX11_worthIn_2 rfl (lv_at hl 3 rfl) ?_
  refine cq_ C hW (runV (x := (g.2.2.1 12)) (As := [.int a0, .int a2]) (rest := []) (T := ((J, L, I, P, E, N), sgX g ++ dy)) C hW (c_X11_inForce_e l g J L I P E N dy H.size a0 a2 hwf) mi_X11_inForce tw_658 (recv_ (T := ((J, L, I, P, E, N), sgX g ++ dy)) C hW (mx_ rfl) rfl rfl) ⟨rfl, rfl, Nat.le_of_ble_eq_true rfl, Nat.le_of_ble_eq_true rfl⟩ rfl hl.1 rfl (Nat.le_of_ble_eq_true rfl) dX11_worthIn_3 ⟨Nat.le_of_ble_eq_true rfl, Nat.le_of_ble_eq_true rfl⟩) (fun q1 u1 H locs hp1 hW => ?_)
  have hq1 : ((q1 = none ∧ (INN (TPU I E P) (TFR I E P) (J 25 2).toInt a0.toInt a2.toInt)) ∨ (∃ o9 : Nat, q1 = some o9 ∧ (10, o9) ∈ dy ∧ (∃ k : Nat, o9 = elt E P 25 k ∧ INF (TPU I E P) (TFR I E P) (J 25 2).toInt a0.toInt a2.toInt k))) := hp1
  clear hp1
  have hW : WB g A s.heap H locs (J, L, I, P, E, N) (sgX g ++ dy) := hW
  rcases hq1 with ⟨ho1, hn1⟩ | ⟨o1, ho1, hm1, hs1⟩ <;> subst ho1
  · refine lv_asv (v' := .null) rfl ?_
    refine lv_astoreN (lv' := [(4, .null), (0, .ref (g.2.2.1 12)), (1, .int a0), (2, .ref a1), (3, .int a2)]) hx hb dX11_worthIn_6 hl (by decide) rfl (fun ls hl => ?_)
    refine lv_aloadN hx hb dX11_worthIn_8 (lv_at hl 0 rfl) ?_
    refine lv_ifnullN (tgt := 22) hx hb dX11_worthIn_10 (by decide) ?_
    refine lv_iload_n hx hb dX11_worthIn_22 rfl (lv_at hl 2 rfl) ?_
    refine lv_iconst (v := 2) hx hb dX11_worthIn_23 (by decide) ?_
    refine lv_icmp_eq (tgt := 29) hx hb dX11_worthIn_24 (by decide) (fun c2 => ?_) (fun c2 => ?_)
    · have c2 : a0.toInt = 2 := teq rfl kp2 c2
      refine lv_aload_n hx hb dX11_worthIn_29 rfl (lv_at hl 1 rfl) ?_
      refine rg_12_0 C hW (mx_ rfl) tw_364 dX11_worthIn_30 ?_
      refine lv_aload_n hx hb dX11_worthIn_33 rfl (lv_at hl 3 rfl) ?_
      refine lv_iload_n hx hb dX11_worthIn_34 rfl (lv_at hl 4 rfl) ?_
      refine cv_ C hW (runV (x := (g.2.2.1 4)) (As := [.ref a1, .int a2]) (rest := []) (T := ((J, L, I, P, E, N), sgX g ++ dy)) C hW (c_X3_tally_e l g J L I P E N dy H.size a1 hma1 a2 hwf (show NTR (P 6 0) (elt E P 20) (J 101) (J 20 2).toInt from by omega) (show INJ E P 20 (J 20 2).toInt from by omega) (show CUR (P 1 0) (I 1 1) (I 1 2) (elt E P 21) (elt E P 20) (J 105) (J 106) (J 107) (J 21 2).toInt (J 20 2).toInt from by omega) (show HMR (P 2 0) (I 2 1) (I 2 2) (I 2 3) (elt E P 22) (elt E P 20) (J 108) (J 109) (J 110) (J 111) (J 22 2).toInt (J 20 2).toInt from by omega) (show 0 ≤ a2.toInt ∧ a2.toInt ≤ 9999 from by omega)) mi_X3_tally tw_712 (recv_ (T := ((J, L, I, P, E, N), sgX g ++ dy)) C hW (mx_ rfl) rfl rfl) ⟨rfl, rfl, Nat.le_of_ble_eq_true rfl, Nat.le_of_ble_eq_true rfl⟩ rfl hl.1 rfl (Nat.le_of_ble_eq_true rfl) dX11_worthIn_35 ⟨Nat.le_of_ble_eq_true rfl, Nat.le_of_ble_eq_true rfl⟩) (fun u3 H locs hp3 hW => ?_)
      obtain ⟨hf3_0, hf3_1⟩ : ((I 9 2 a1).toInt = 6 → (u3.1 4 6).toInt = 0 ∧ (u3.1 4 7).toInt = 0) ∧ (¬ (I 9 2 a1).toInt = 6 → ∃ x : Nat → Int32, SND x (J 101) (fun k => I 6 1 (elt E P 20 k)) (fun k => I 6 3 (elt E P 20 k)) (fun k => I 6 5 (elt E P 20 k)) (CUTP (J 105) (J 106) (J 107) (J 21 2).toInt a2.toInt) (I 9 5 a1) (I 9 3 a1) (J 20 2).toInt ∧ (u3.1 4 6).toInt = CT2 (HF (I 9 2 a1) (J 110) (J 111) a2.toInt (J 4 5) (J 109) (J 108) x) (J 22 2).toInt.toNat ∧ (u3.1 4 7).toInt = CT1 (HF (I 9 2 a1) (J 110) (J 111) a2.toInt (J 4 5) (J 109) (J 108) x) (J 22 2).toInt.toNat) := hp3
      have hW : WB g A s.heap H locs ((hv J [] [(4, 6), (4, 7)] u3.1), L, (hv I [] [(6, 6), (6, 7)] u3.2), P, E, N) (sgX g ++ dy) := hW
      have hT0 := hf3_0
      have hT1 := hf3_1
      refine lv_aload_n hx hb dX11_worthIn_38 rfl (lv_at hl 1 rfl) ?_
      refine rg_12_0 C hW (mx_ rfl) tw_364 dX11_worthIn_39 ?_
      refine rg_4_7 C hW (mx_ rfl) tw_247 dX11_worthIn_42 ?_
      refine lv_topi (fun x4 (e4 : x4 = u3.1 4 7) => ?_)
      have t4 : x4.toInt = (u3.1 4 7).toInt := by rw [e4]
      have hWr : WB g A s.heap H locs ((hv J [45] [(4, 6), (4, 7), (8, 1), (8, 2), (8, 3), (8, 4), (8, 5), (8, 6), (8, 7), (8, 8), (8, 9)] (hv J [] [(4, 6), (4, 7)] u3.1)), L, (hv I [] [(6, 6), (6, 7)] (hv I [] [(6, 6), (6, 7)] u3.2)), P, E, N) (sgX g ++ dy) := by
        rw [← ag_hvE (J := J) (R := [45]) (F := [(4, 6), (4, 7), (8, 1), (8, 2), (8, 3), (8, 4), (8, 5), (8, 6), (8, 7), (8, 8), (8, 9)]) (ag_hv rfl rfl ag_rf)]
        rw [← ag_hvE (J := I) (R := []) (F := [(6, 6), (6, 7)]) (ag_hv rfl rfl ag_rf)]
        exact hW
      subst hQ9
      exact end_i C hr hlocks ((hv J [] [(4, 6), (4, 7)] u3.1), (hv I [] [(6, 6), (6, 7)] u3.2)) hWr (show WIF I P E N (J 25 2).toInt a0.toInt a2.toInt (fun s m9 => SCL (I 9 2 a1) (hrw a2.toInt) (I 9 5 a1) s m9 (I 9 3 a1) (J 3 1 - a2) (J 22 2)) (TLY (fun x => SND x (J 101) (fun k => I 6 1 (elt E P 20 k)) (fun k => I 6 3 (elt E P 20 k)) (fun k => I 6 5 (elt E P 20 k)) (CUTP (J 105) (J 106) (J 107) (J 21 2).toInt a2.toInt) (I 9 5 a1) (I 9 3 a1) (J 20 2).toInt) (I 9 2 a1) (fun x => HF (I 9 2 a1) (J 110) (J 111) a2.toInt (J 4 5) (J 109) (J 108) x) (J 22 2).toInt.toNat) x4 from by (rw [← e4] at hT0 hT1; exact Or.inl ⟨hn1, Or.inr ⟨by omega, _, hT0, hT1⟩⟩)) dX11_worthIn_45
    · have c2 : ¬ a0.toInt = 2 := tne rfl kp2 c2
      refine lv_iconst (v := 0) hx hb dX11_worthIn_27 (by decide) ?_
      have hWr : WB g A s.heap H locs ((hv J [45] [(4, 6), (4, 7), (8, 1), (8, 2), (8, 3), (8, 4), (8, 5), (8, 6), (8, 7), (8, 8), (8, 9)] J), L, (hv I [] [(6, 6), (6, 7)] I), P, E, N) (sgX g ++ dy) := by
        rw [← ag_hvE (J := J) (R := [45]) (F := [(4, 6), (4, 7), (8, 1), (8, 2), (8, 3), (8, 4), (8, 5), (8, 6), (8, 7), (8, 8), (8, 9)]) ag_rf]
        rw [← ag_hvE (J := I) (R := []) (F := [(6, 6), (6, 7)]) ag_rf]
        exact hW
      subst hQ9
      exact end_i C hr hlocks (J, I) hWr (show WIF I P E N (J 25 2).toInt a0.toInt a2.toInt (fun s m9 => SCL (I 9 2 a1) (hrw a2.toInt) (I 9 5 a1) s m9 (I 9 3 a1) (J 3 1 - a2) (J 22 2)) (TLY (fun x => SND x (J 101) (fun k => I 6 1 (elt E P 20 k)) (fun k => I 6 3 (elt E P 20 k)) (fun k => I 6 5 (elt E P 20 k)) (CUTP (J 105) (J 106) (J 107) (J 21 2).toInt a2.toInt) (I 9 5 a1) (I 9 3 a1) (J 20 2).toInt) (I 9 2 a1) (fun x => HF (I 9 2 a1) (J 110) (J 111) a2.toInt (J 4 5) (J 109) (J 108) x) (J 22 2).toInt.toNat) 0 from by exact Or.inl ⟨hn1, Or.inl ⟨by omega, kp0⟩⟩) dX11_worthIn_28
  · refine lv_asv (v' := .ref o1) rfl ?_
    refine lv_astore (lv' := [(4, .ref o1), (0, .ref (g.2.2.1 12)), (1, .int a0), (2, .ref a1), (3, .int a2)]) hx hb dX11_worthIn_6 hl (by decide) rfl (fun ls hl => ?_)
    refine lv_aload hx hb dX11_worthIn_8 (lv_at hl 0 rfl) ?_
    refine lv_ifnull hx hb dX11_worthIn_10 ?_
    refine lv_aload_n hx hb dX11_worthIn_13 rfl (lv_at hl 1 rfl) ?_
    refine lv_aload hx hb dX11_worthIn_14 (lv_at hl 0 rfl) ?_
    refine lv_aload_n hx hb dX11_worthIn_16 rfl (lv_at hl 3 rfl) ?_
    refine lv_iload_n hx hb dX11_worthIn_17 rfl (lv_at hl 4 rfl) ?_
    refine ci_ C hW (runV (x := (g.2.2.1 12)) (As := [.ref o1, .ref a1, .int a2]) (rest := []) (T := ((J, L, I, P, E, N), sgX g ++ dy)) C hW (c_X11_valueOf_e l g J L I P E N dy H.size o1 hm1 a1 hma1 a2 hwf (show NTR (P 6 0) (elt E P 20) (J 101) (J 20 2).toInt from by omega) (show INJ E P 20 (J 20 2).toInt from by omega) (show CUR (P 1 0) (I 1 1) (I 1 2) (elt E P 21) (elt E P 20) (J 105) (J 106) (J 107) (J 21 2).toInt (J 20 2).toInt from by omega) (show HMR (P 2 0) (I 2 1) (I 2 2) (I 2 3) (elt E P 22) (elt E P 20) (J 108) (J 109) (J 110) (J 111) (J 22 2).toInt (J 20 2).toInt from by omega) (show 0 ≤ a2.toInt ∧ a2.toInt ≤ 9999 from by omega) (show ∀ b : Nat, P 10 2 o1 = some b → ∀ i : Nat, i < N b → -200 ≤ (I 46 i b).toInt from fun b9 hb9 => cdb_at hcdb hs1 hb9) (show 0 ≤ (J 3 1).toInt ∧ (J 3 1).toInt ≤ 9999 from by omega)) mi_X11_valueOf tw_830 (recv_ (T := ((J, L, I, P, E, N), sgX g ++ dy)) C hW (mx_ rfl) rfl rfl) ⟨rfl, rfl, Nat.le_of_ble_eq_true rfl, Nat.le_of_ble_eq_true rfl⟩ rfl hl.1 rfl (Nat.le_of_ble_eq_true rfl) dX11_worthIn_18 ⟨Nat.le_of_ble_eq_true rfl, Nat.le_of_ble_eq_true rfl⟩) (fun r5 u5 H locs hp5 hW => ?_)
    have hf5_0 : (∀ b : Nat, P 10 2 o1 = some b → ∃ s m : Int32, r5 = WGH (SCL (I 9 2 a1) (hrw a2.toInt) (I 9 5 a1) s m (I 9 3 a1) (J 3 1 - a2) (J 22 2)) (cs (fun i => I 46 i b) 0 (N b)) ∧ (¬ (I 10 3 o1).toInt = 0 → TLY (fun x => SND x (J 101) (fun k => I 6 1 (elt E P 20 k)) (fun k => I 6 3 (elt E P 20 k)) (fun k => I 6 5 (elt E P 20 k)) (CUTP (J 105) (J 106) (J 107) (J 21 2).toInt a2.toInt) (I 9 5 a1) (I 9 3 a1) (J 20 2).toInt) (I 9 2 a1) (fun x => HF (I 9 2 a1) (J 110) (J 111) a2.toInt (J 4 5) (J 109) (J 108) x) (J 22 2).toInt.toNat s m)) := hp5
    clear hp5
    have hW : WB g A s.heap H locs ((hv J [45] [(4, 6), (4, 7), (8, 1), (8, 2), (8, 3), (8, 4), (8, 5), (8, 6), (8, 7), (8, 8), (8, 9)] u5.1), L, (hv I [] [(6, 6), (6, 7)] u5.2), P, E, N) (sgX g ++ dy) := hW
    have hV := hf5_0
    have hWr : WB g A s.heap H locs ((hv J [45] [(4, 6), (4, 7), (8, 1), (8, 2), (8, 3), (8, 4), (8, 5), (8, 6), (8, 7), (8, 8), (8, 9)] (hv J [45] [(4, 6), (4, 7), (8, 1), (8, 2), (8, 3), (8, 4), (8, 5), (8, 6), (8, 7), (8, 8), (8, 9)] u5.1)), L, (hv I [] [(6, 6), (6, 7)] (hv I [] [(6, 6), (6, 7)] u5.2)), P, E, N) (sgX g ++ dy) := by
      rw [← ag_hvE (J := J) (R := [45]) (F := [(4, 6), (4, 7), (8, 1), (8, 2), (8, 3), (8, 4), (8, 5), (8, 6), (8, 7), (8, 8), (8, 9)]) (ag_hv rfl rfl ag_rf)]
      rw [← ag_hvE (J := I) (R := []) (F := [(6, 6), (6, 7)]) (ag_hv rfl rfl ag_rf)]
      exact hW
    subst hQ9
    exact end_i C hr hlocks ((hv J [45] [(4, 6), (4, 7), (8, 1), (8, 2), (8, 3), (8, 4), (8, 5), (8, 6), (8, 7), (8, 8), (8, 9)] u5.1), (hv I [] [(6, 6), (6, 7)] u5.2)) hWr (show WIF I P E N (J 25 2).toInt a0.toInt a2.toInt (fun s m9 => SCL (I 9 2 a1) (hrw a2.toInt) (I 9 5 a1) s m9 (I 9 3 a1) (J 3 1 - a2) (J 22 2)) (TLY (fun x => SND x (J 101) (fun k => I 6 1 (elt E P 20 k)) (fun k => I 6 3 (elt E P 20 k)) (fun k => I 6 5 (elt E P 20 k)) (CUTP (J 105) (J 106) (J 107) (J 21 2).toInt a2.toInt) (I 9 5 a1) (I 9 3 a1) (J 20 2).toInt) (I 9 2 a1) (fun x => HF (I 9 2 a1) (J 110) (J 111) a2.toInt (J 4 5) (J 109) (J 108) x) (J 22 2).toInt.toNat) r5 from by exact (hwf.2.2.2.2.2 o1 hm1).elim (fun b9 hb9 => Or.inr (wi_some hs1 hb9.1 hV))) dX11_worthIn_21

set_option maxHeartbeats 4000000 in
set_option maxRecDepth 100000 in
theorem c_X11_worth_e (l : Launch) (g : gG) (J : Nat → Nat → Int32) (L : Nat → Nat → Int64) (I : Nat → Nat → Nat → Int32) (P : Nat → Nat → Nat → Option Nat) (E : Nat → Option Nat) (N : Nat → Nat) (dy : List (Nat × Nat)) (sz : Nat) (a0 : Int32) (a1 : Int32) (hwf : WXF g J P E N dy) (hnt : NTR (P 6 0) (elt E P 20) (J 101) (J 20 2).toInt) (hij : INJ E P 20 (J 20 2).toInt) (hcu : CUR (P 1 0) (I 1 1) (I 1 2) (elt E P 21) (elt E P 20) (J 105) (J 106) (J 107) (J 21 2).toInt (J 20 2).toInt) (hhm : HMR (P 2 0) (I 2 1) (I 2 2) (I 2 3) (elt E P 22) (elt E P 20) (J 108) (J 109) (J 110) (J 111) (J 22 2).toInt (J 20 2).toInt) (hspr : SPR I E P (J 27 2).toInt (J 3 1).toInt (J 116) (J 117) (J 118) (J 119) (J 120)) (hcdb : CDB I P E N (J 25 2).toInt) (hnw9 : 0 ≤ (J 3 1).toInt ∧ (J 3 1).toInt ≤ 9999) : Met l yX11_worth (WS yX11_worth cX11_worth 4 (some .int)) (RM (8) 0 0) (PC g [.ref (g.2.2.1 12), .int a0, .int a1] ((J, L, I, P, E, N), sgX g ++ dy) sz) (va_Qi (fun (r : Int32) (u : (Nat → Nat → Int32) × (Nat → Nat → Nat → Int32)) => ((r.toInt = 1000000001 ∧ (¬ (0 ≤ a1.toInt ∧ a1.toInt < (J 3 1).toInt))) ∨ (r.toInt = 1000000002 ∧ ((0 ≤ a1.toInt ∧ a1.toInt < (J 3 1).toInt) ∧ (a0.toInt < 0 ∨ 2 < a0.toInt))) ∨ (r = r ∧ ((0 ≤ a1.toInt ∧ a1.toInt < (J 3 1).toInt) ∧ 0 ≤ a0.toInt ∧ a0.toInt ≤ 2) ∧ WIF I P E N (J 25 2).toInt a0.toInt a1.toInt (fun s m9 => SCL (J 116 a1.toNatClampNeg) (hrw a1.toInt) (J 118 a1.toNatClampNeg) s m9 (J 120 a1.toNatClampNeg) (J 3 1 - a1) (J 22 2)) (TLY (fun x => SND x (J 101) (fun k => I 6 1 (elt E P 20 k)) (fun k => I 6 3 (elt E P 20 k)) (fun k => I 6 5 (elt E P 20 k)) (CUTP (J 105) (J 106) (J 107) (J 21 2).toInt a1.toInt) (J 118 a1.toNatClampNeg) (J 120 a1.toNatClampNeg) (J 20 2).toInt) (J 116 a1.toNatClampNeg) (fun x => HF (J 116 a1.toNatClampNeg) (J 110) (J 111) a1.toInt (J 4 5) (J 109) (J 108) x) (J 22 2).toInt.toNat) r))) (fun u t => at_ g (FR g ((J, L, I, P, E, N), sgX g ++ dy) sz) (((hv J [42, 45] [(4, 6), (4, 7), (8, 1), (8, 2), (8, 3), (8, 4), (8, 5), (8, 6), (8, 7), (8, 8), (8, 9)] u.1), L, (hv I [] [(6, 6), (6, 7)] u.2), P, E, N), sgX g ++ dy) t) (FR g ((J, L, I, P, E, N), sgX g ++ dy) sz)) 0 0 (FR g ((J, L, I, P, E, N), sgX g ++ dy) sz) := by
  refine ent (by decide +kernel) (Nat.le_of_ble_eq_true rfl) ?_
  intro p e s m below meth c ls hsz C hW hr hlocks hname hl
  generalize FR g ((J, L, I, P, E, N), sgX g ++ dy) sz = A at C hW ⊢
  generalize hQ9 : (va_Qi (fun (r : Int32) (u : (Nat → Nat → Int32) × (Nat → Nat → Nat → Int32)) => ((r.toInt = 1000000001 ∧ (¬ (0 ≤ a1.toInt ∧ a1.toInt < (J 3 1).toInt))) ∨ (r.toInt = 1000000002 ∧ ((0 ≤ a1.toInt ∧ a1.toInt < (J 3 1).toInt) ∧ (a0.toInt < 0 ∨ 2 < a0.toInt))) ∨ (r = r ∧ ((0 ≤ a1.toInt ∧ a1.toInt < (J 3 1).toInt) ∧ 0 ≤ a0.toInt ∧ a0.toInt ≤ 2) ∧ WIF I P E N (J 25 2).toInt a0.toInt a1.toInt (fun s m9 => SCL (J 116 a1.toNatClampNeg) (hrw a1.toInt) (J 118 a1.toNatClampNeg) s m9 (J 120 a1.toNatClampNeg) (J 3 1 - a1) (J 22 2)) (TLY (fun x => SND x (J 101) (fun k => I 6 1 (elt E P 20 k)) (fun k => I 6 3 (elt E P 20 k)) (fun k => I 6 5 (elt E P 20 k)) (CUTP (J 105) (J 106) (J 107) (J 21 2).toInt a1.toInt) (J 118 a1.toNatClampNeg) (J 120 a1.toNatClampNeg) (J 20 2).toInt) (J 116 a1.toNatClampNeg) (fun x => HF (J 116 a1.toNatClampNeg) (J 110) (J 111) a1.toInt (J 4 5) (J 109) (J 108) x) (J 22 2).toInt.toNat) r))) (fun u t => at_ g A (((hv J [42, 45] [(4, 6), (4, 7), (8, 1), (8, 2), (8, 3), (8, 4), (8, 5), (8, 6), (8, 7), (8, 8), (8, 9)] u.1), L, (hv I [] [(6, 6), (6, 7)] u.2), P, E, N), sgX g ++ dy) t) A) = Q9
  have hx := C.1.1
  have hb := C.1.2.1
  have hts := C.1.2.2.2.2
  have hl : lv_has ls 4 [(0, .ref (g.2.2.1 12)), (1, .int a0), (2, .int a1)] := hl
  obtain ⟨H, hH⟩ : ∃ H : Heap, H = s.heap := ⟨_, rfl⟩
  obtain ⟨locs, hlocs⟩ : ∃ q : List Loc, q = [] := ⟨_, rfl⟩
  have hW : WB g A s.heap H locs (J, L, I, P, E, N) (sgX g ++ dy) := by rw [hH, hlocs]; exact hW
  refine start_ hH hlocs ?_
  refine lv_aload_n hx hb dX11_worth_0 rfl (lv_at hl 0 rfl) ?_
  refine rg_12_1 C hW (mx_ rfl) tw_365 dX11_worth_1 ?_
  refine lv_iload_n hx hb dX11_worth_4 rfl (lv_at hl 2 rfl) ?_
  refine cq_ C hW (runV (x := (g.2.2.1 3)) (As := [.int a1]) (rest := []) (T := ((J, L, I, P, E, N), sgX g ++ dy)) C hW (c_X2_spanOf_e l g J L I P E N dy H.size a1 hwf (show SPR I E P (J 27 2).toInt (J 3 1).toInt (J 116) (J 117) (J 118) (J 119) (J 120) from hspr)) mi_X2_spanOf tw_639 (recv_ (T := ((J, L, I, P, E, N), sgX g ++ dy)) C hW (mx_ rfl) rfl rfl) ⟨rfl, rfl, Nat.le_of_ble_eq_true rfl, Nat.le_of_ble_eq_true rfl⟩ rfl hl.1 rfl (Nat.le_of_ble_eq_true rfl) dX11_worth_5 ⟨Nat.le_of_ble_eq_true rfl, Nat.le_of_ble_eq_true rfl⟩) (fun q1 u1 H locs hp1 hW => ?_)
  have hq1 : ((q1 = none ∧ (¬ (0 ≤ a1.toInt ∧ a1.toInt < (J 3 1).toInt))) ∨ (∃ o9 : Nat, q1 = some o9 ∧ (9, o9) ∈ dy ∧ (0 ≤ a1.toInt ∧ a1.toInt < (J 3 1).toInt ∧ (I 9 0 o9).toInt ≤ a1.toInt ∧ a1.toInt ≤ (I 9 1 o9).toInt ∧ SPO I o9 (J 3 1).toInt (J 116) (J 117) (J 118) (J 119) (J 120)))) := hp1
  clear hp1
  have hW : WB g A s.heap H locs (J, L, I, P, E, N) (sgX g ++ dy) := hW
  rcases hq1 with ⟨ho1, hn1⟩ | ⟨o1, ho1, hm1, hs1⟩ <;> subst ho1
  · refine lv_asv (v' := .null) rfl ?_
    refine lv_astore_nN (lv' := [(3, .null), (0, .ref (g.2.2.1 12)), (1, .int a0), (2, .int a1)]) hx hb dX11_worth_8 rfl hl (by decide) rfl (fun ls hl => ?_)
    refine lv_aload_nN hx hb dX11_worth_9 rfl (lv_at hl 0 rfl) ?_
    refine lv_ifnonnullN hx hb dX11_worth_10 ?_
    refine lv_ldc hx hb C.1.2.2.2.1 (hts _ tw_825) dX11_worth_13 ?_
    refine lv_aload_n hx hb dX11_worth_15 rfl (lv_at hl 1 rfl) ?_
    refine lv_iconst (v := (-1)) hx hb dX11_worth_16 (by decide) ?_
    refine ci_ C hW (runV (x := (g.2.2.1 12)) (As := [.int (-1)]) (rest := [.int 1000000000]) (T := ((J, L, I, P, E, N), sgX g ++ dy)) C hW (c_X11_refuse l g J L I P E N dy H.size (-1) hwf) mi_X11_refuse tw_411 (recv_ (T := ((J, L, I, P, E, N), sgX g ++ dy)) C hW (mx_ rfl) rfl rfl) ⟨rfl, rfl, Nat.le_of_ble_eq_true rfl, Nat.le_of_ble_eq_true rfl⟩ rfl hl.1 rfl (Nat.le_of_ble_eq_true rfl) dX11_worth_17 ⟨Nat.le_of_ble_eq_true rfl, Nat.le_of_ble_eq_true rfl⟩) (fun r2 u2 H locs hp2 hW => ?_)
    have hc2 : ((r2 = (-1))) := hp2
    clear hp2
    have hr2 : r2.toInt = (-1) := by rw [hc2]; exact kn1
    have hW : WB g A s.heap H locs ((hv J [42] [] u2), L, I, P, E, N) (sgX g ++ dy) := hW
    refine lv_isub hx hb dX11_worth_20 ?_
    refine lv_topi (fun x3 (e3 : x3 = 1000000000 - r2) => ?_)
    try have t3 : x3.toInt = 1000000000 - r2.toInt := tsub e3 kp1000000000 rfl (by omega)
    have hWr : WB g A s.heap H locs ((hv J [42, 45] [(4, 6), (4, 7), (8, 1), (8, 2), (8, 3), (8, 4), (8, 5), (8, 6), (8, 7), (8, 8), (8, 9)] (hv J [42] [] u2)), L, (hv I [] [(6, 6), (6, 7)] I), P, E, N) (sgX g ++ dy) := by
      rw [← ag_hvE (J := J) (R := [42, 45]) (F := [(4, 6), (4, 7), (8, 1), (8, 2), (8, 3), (8, 4), (8, 5), (8, 6), (8, 7), (8, 8), (8, 9)]) (ag_hv rfl rfl ag_rf)]
      rw [← ag_hvE (J := I) (R := []) (F := [(6, 6), (6, 7)]) ag_rf]
      exact hW
    subst hQ9
    exact end_i C hr hlocks ((hv J [42] [] u2), I) hWr (by first | exact Or.inl ⟨by omega, by omega⟩) dX11_worth_21
  · refine lv_asv (v' := .ref o1) rfl ?_
    obtain ⟨hsK1, hsR1, hsV1, hsO1, hsT1⟩ := spo_at hs1
    have hsk1 := congrArg Int32.toInt hsK1
    refine lv_astore_n (lv' := [(3, .ref o1), (0, .ref (g.2.2.1 12)), (1, .int a0), (2, .int a1)]) hx hb dX11_worth_8 rfl hl (by decide) rfl (fun ls hl => ?_)
    refine lv_aload_n hx hb dX11_worth_9 rfl (lv_at hl 0 rfl) ?_
    refine lv_ifnonnull (tgt := 22) hx hb dX11_worth_10 (by decide) ?_
    refine lv_iload_n hx hb dX11_worth_22 rfl (lv_at hl 2 rfl) ?_
    refine lv_if_lt (tgt := 31) hx hb dX11_worth_23 (by decide) (fun c4 => ?_) (fun c4 => ?_)
    · have c4 : a0.toInt < 0 := tlt rfl kp0 c4
      refine lv_ldc hx hb C.1.2.2.2.1 (hts _ tw_825) dX11_worth_31 ?_
      refine lv_aload_n hx hb dX11_worth_33 rfl (lv_at hl 1 rfl) ?_
      refine lv_bipush (v := (-2)) hx hb dX11_worth_34 (by decide) ?_
      refine ci_ C hW (runV (x := (g.2.2.1 12)) (As := [.int (-2)]) (rest := [.int 1000000000]) (T := ((J, L, I, P, E, N), sgX g ++ dy)) C hW (c_X11_refuse l g J L I P E N dy H.size (-2) hwf) mi_X11_refuse tw_411 (recv_ (T := ((J, L, I, P, E, N), sgX g ++ dy)) C hW (mx_ rfl) rfl rfl) ⟨rfl, rfl, Nat.le_of_ble_eq_true rfl, Nat.le_of_ble_eq_true rfl⟩ rfl hl.1 rfl (Nat.le_of_ble_eq_true rfl) dX11_worth_36 ⟨Nat.le_of_ble_eq_true rfl, Nat.le_of_ble_eq_true rfl⟩) (fun r5 u5 H locs hp5 hW => ?_)
      have hc5 : ((r5 = (-2))) := hp5
      clear hp5
      have hr5 : r5.toInt = (-2) := by rw [hc5]; exact kn2
      have hW : WB g A s.heap H locs ((hv J [42] [] u5), L, I, P, E, N) (sgX g ++ dy) := hW
      refine lv_isub hx hb dX11_worth_39 ?_
      refine lv_topi (fun x6 (e6 : x6 = 1000000000 - r5) => ?_)
      try have t6 : x6.toInt = 1000000000 - r5.toInt := tsub e6 kp1000000000 rfl (by omega)
      have hWr : WB g A s.heap H locs ((hv J [42, 45] [(4, 6), (4, 7), (8, 1), (8, 2), (8, 3), (8, 4), (8, 5), (8, 6), (8, 7), (8, 8), (8, 9)] (hv J [42] [] u5)), L, (hv I [] [(6, 6), (6, 7)] I), P, E, N) (sgX g ++ dy) := by
        rw [← ag_hvE (J := J) (R := [42, 45]) (F := [(4, 6), (4, 7), (8, 1), (8, 2), (8, 3), (8, 4), (8, 5), (8, 6), (8, 7), (8, 8), (8, 9)]) (ag_hv rfl rfl ag_rf)]
        rw [← ag_hvE (J := I) (R := []) (F := [(6, 6), (6, 7)]) ag_rf]
        exact hW
      subst hQ9
      exact end_i C hr hlocks ((hv J [42] [] u5), I) hWr (by first | exact Or.inr (Or.inl ⟨by omega, by omega⟩)) dX11_worth_40
    · have c4 : 0 ≤ a0.toInt := tnlt rfl kp0 c4
      refine lv_iload_n hx hb dX11_worth_26 rfl (lv_at hl 2 rfl) ?_
      refine lv_iconst (v := 2) hx hb dX11_worth_27 (by decide) ?_
      refine lv_icmp_le (tgt := 41) hx hb dX11_worth_28 (by decide) (fun c7 => ?_) (fun c7 => ?_)
      · have c7 : a0.toInt ≤ 2 := tle rfl kp2 c7
        refine lv_aload_n hx hb dX11_worth_41 rfl (lv_at hl 1 rfl) ?_
        refine lv_iload_n hx hb dX11_worth_42 rfl (lv_at hl 2 rfl) ?_
        refine lv_aload_n hx hb dX11_worth_43 rfl (lv_at hl 0 rfl) ?_
        refine lv_iload_n hx hb dX11_worth_44 rfl (lv_at hl 3 rfl) ?_
        refine ci_ C hW (runV (x := (g.2.2.1 12)) (As := [.int a0, .ref o1, .int a1]) (rest := []) (T := ((J, L, I, P, E, N), sgX g ++ dy)) C hW (c_X11_worthIn_e l g J L I P E N dy H.size a0 o1 hm1 a1 hwf (show NTR (P 6 0) (elt E P 20) (J 101) (J 20 2).toInt from by omega) (show INJ E P 20 (J 20 2).toInt from by omega) (show CUR (P 1 0) (I 1 1) (I 1 2) (elt E P 21) (elt E P 20) (J 105) (J 106) (J 107) (J 21 2).toInt (J 20 2).toInt from by omega) (show HMR (P 2 0) (I 2 1) (I 2 2) (I 2 3) (elt E P 22) (elt E P 20) (J 108) (J 109) (J 110) (J 111) (J 22 2).toInt (J 20 2).toInt from by omega) (show 0 ≤ a1.toInt ∧ a1.toInt ≤ 9999 from by omega) (show CDB I P E N (J 25 2).toInt from by omega) (show 0 ≤ (J 3 1).toInt ∧ (J 3 1).toInt ≤ 9999 from by omega)) mi_X11_worthIn tw_826 (recv_ (T := ((J, L, I, P, E, N), sgX g ++ dy)) C hW (mx_ rfl) rfl rfl) ⟨rfl, rfl, Nat.le_of_ble_eq_true rfl, Nat.le_of_ble_eq_true rfl⟩ rfl hl.1 rfl (Nat.le_of_ble_eq_true rfl) dX11_worth_45 ⟨Nat.le_of_ble_eq_true rfl, Nat.le_of_ble_eq_true rfl⟩) (fun r8 u8 H locs hp8 hW => ?_)
        have hf8_0 : (WIF I P E N (J 25 2).toInt a0.toInt a1.toInt (fun s m9 => SCL (I 9 2 o1) (hrw a1.toInt) (I 9 5 o1) s m9 (I 9 3 o1) (J 3 1 - a1) (J 22 2)) (TLY (fun x => SND x (J 101) (fun k => I 6 1 (elt E P 20 k)) (fun k => I 6 3 (elt E P 20 k)) (fun k => I 6 5 (elt E P 20 k)) (CUTP (J 105) (J 106) (J 107) (J 21 2).toInt a1.toInt) (I 9 5 o1) (I 9 3 o1) (J 20 2).toInt) (I 9 2 o1) (fun x => HF (I 9 2 o1) (J 110) (J 111) a1.toInt (J 4 5) (J 109) (J 108) x) (J 22 2).toInt.toNat) r8) := hp8
        clear hp8
        have hW : WB g A s.heap H locs ((hv J [45] [(4, 6), (4, 7), (8, 1), (8, 2), (8, 3), (8, 4), (8, 5), (8, 6), (8, 7), (8, 8), (8, 9)] u8.1), L, (hv I [] [(6, 6), (6, 7)] u8.2), P, E, N) (sgX g ++ dy) := hW
        have hWI := hf8_0
        have hWr : WB g A s.heap H locs ((hv J [42, 45] [(4, 6), (4, 7), (8, 1), (8, 2), (8, 3), (8, 4), (8, 5), (8, 6), (8, 7), (8, 8), (8, 9)] (hv J [45] [(4, 6), (4, 7), (8, 1), (8, 2), (8, 3), (8, 4), (8, 5), (8, 6), (8, 7), (8, 8), (8, 9)] u8.1)), L, (hv I [] [(6, 6), (6, 7)] (hv I [] [(6, 6), (6, 7)] u8.2)), P, E, N) (sgX g ++ dy) := by
          rw [← ag_hvE (J := J) (R := [42, 45]) (F := [(4, 6), (4, 7), (8, 1), (8, 2), (8, 3), (8, 4), (8, 5), (8, 6), (8, 7), (8, 8), (8, 9)]) (ag_hv rfl rfl ag_rf)]
          rw [← ag_hvE (J := I) (R := []) (F := [(6, 6), (6, 7)]) (ag_hv rfl rfl ag_rf)]
          exact hW
        subst hQ9
        exact end_i C hr hlocks ((hv J [45] [(4, 6), (4, 7), (8, 1), (8, 2), (8, 3), (8, 4), (8, 5), (8, 6), (8, 7), (8, 8), (8, 9)] u8.1), (hv I [] [(6, 6), (6, 7)] u8.2)) hWr (by first | exact Or.inr (Or.inr (⟨by first | rfl | assumption, by omega, show WIF I P E N (J 25 2).toInt a0.toInt a1.toInt (fun s m9 => SCL (J 116 a1.toNatClampNeg) (hrw a1.toInt) (J 118 a1.toNatClampNeg) s m9 (J 120 a1.toNatClampNeg) (J 3 1 - a1) (J 22 2)) (TLY (fun x => SND x (J 101) (fun k => I 6 1 (elt E P 20 k)) (fun k => I 6 3 (elt E P 20 k)) (fun k => I 6 5 (elt E P 20 k)) (CUTP (J 105) (J 106) (J 107) (J 21 2).toInt a1.toInt) (J 118 a1.toNatClampNeg) (J 120 a1.toNatClampNeg) (J 20 2).toInt) (J 116 a1.toNatClampNeg) (fun x => HF (J 116 a1.toNatClampNeg) (J 110) (J 111) a1.toInt (J 4 5) (J 109) (J 108) x) (J 22 2).toInt.toNat) r8 from (by rw [hsK1, hsV1, hsT1] at hWI; exact hWI)⟩))) dX11_worth_48
      · have c7 : 2 < a0.toInt := tnle rfl kp2 c7
        refine lv_ldc hx hb C.1.2.2.2.1 (hts _ tw_825) dX11_worth_31 ?_
        refine lv_aload_n hx hb dX11_worth_33 rfl (lv_at hl 1 rfl) ?_
        refine lv_bipush (v := (-2)) hx hb dX11_worth_34 (by decide) ?_
        refine ci_ C hW (runV (x := (g.2.2.1 12)) (As := [.int (-2)]) (rest := [.int 1000000000]) (T := ((J, L, I, P, E, N), sgX g ++ dy)) C hW (c_X11_refuse l g J L I P E N dy H.size (-2) hwf) mi_X11_refuse tw_411 (recv_ (T := ((J, L, I, P, E, N), sgX g ++ dy)) C hW (mx_ rfl) rfl rfl) ⟨rfl, rfl, Nat.le_of_ble_eq_true rfl, Nat.le_of_ble_eq_true rfl⟩ rfl hl.1 rfl (Nat.le_of_ble_eq_true rfl) dX11_worth_36 ⟨Nat.le_of_ble_eq_true rfl, Nat.le_of_ble_eq_true rfl⟩) (fun r9 u9 H locs hp9 hW => ?_)
        have hc9 : ((r9 = (-2))) := hp9
        clear hp9
        have hr9 : r9.toInt = (-2) := by rw [hc9]; exact kn2
        have hW : WB g A s.heap H locs ((hv J [42] [] u9), L, I, P, E, N) (sgX g ++ dy) := hW
        refine lv_isub hx hb dX11_worth_39 ?_
        refine lv_topi (fun x10 (e10 : x10 = 1000000000 - r9) => ?_)
        try have t10 : x10.toInt = 1000000000 - r9.toInt := tsub e10 kp1000000000 rfl (by omega)
        have hWr : WB g A s.heap H locs ((hv J [42, 45] [(4, 6), (4, 7), (8, 1), (8, 2), (8, 3), (8, 4), (8, 5), (8, 6), (8, 7), (8, 8), (8, 9)] (hv J [42] [] u9)), L, (hv I [] [(6, 6), (6, 7)] I), P, E, N) (sgX g ++ dy) := by
          rw [← ag_hvE (J := J) (R := [42, 45]) (F := [(4, 6), (4, 7), (8, 1), (8, 2), (8, 3), (8, 4), (8, 5), (8, 6), (8, 7), (8, 8), (8, 9)]) (ag_hv rfl rfl ag_rf)]
          rw [← ag_hvE (J := I) (R := []) (F := [(6, 6), (6, 7)]) ag_rf]
          exact hW
        subst hQ9
        exact end_i C hr hlocks ((hv J [42] [] u9), I) hWr (by first | exact Or.inr (Or.inl ⟨by omega, by omega⟩)) dX11_worth_40
