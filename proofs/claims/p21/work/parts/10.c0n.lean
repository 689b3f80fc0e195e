/-- what comes through a wire; a node's volume -/
abbrev LFT (vb wi w : Int32) : Int32 := vb - wi * (10 + w) / 10
def FV (vb wi bo mo w : Int32) : Int32 := if 0 < (LFT vb wi w).toInt then (if 999 < (LFT vb wi w + bo + mo).toInt then 999 else LFT vb wi w + bo + mo) else 0
def RCV (sev vb wi bo mo w : Int32) : Int32 := if sev.toInt = 0 then FV vb wi bo mo w else 0
theorem rcv_s {sev vb wi bo mo w : Int32} (h : ¬ sev.toInt = 0) : RCV sev vb wi bo mo w = 0 := if_neg h
theorem rcv_f {sev vb wi bo mo w : Int32} (h : sev.toInt = 0) : RCV sev vb wi bo mo w = FV vb wi bo mo w := if_pos h
section FVS
variable {sev vb wi bo mo w l m : Int32}
theorem fv_0 (el : l = LFT vb wi w) (h : l.toInt ≤ 0) : 0 = FV vb wi bo mo w := by
  unfold FV; rw [← el, if_neg (by omega)]
theorem fv_c (el : l = LFT vb wi w) (h : 0 < l.toInt) (em : m = l + bo + mo) (hm : 999 < m.toInt) : 999 = FV vb wi bo mo w := by
  unfold FV; rw [← el, if_pos h, ← em, if_pos hm]
theorem fv_n (el : l = LFT vb wi w) (h : 0 < l.toInt) (em : m = l + bo + mo) (hm : m.toInt ≤ 999) : m = FV vb wi bo mo w := by
  unfold FV; rw [← el, if_pos h, ← em, if_neg (by omega)]
theorem fv_p (el : l = LFT vb wi w) (h : 0 < l.toInt) (em : m = if (999 : Int32) < l + bo + mo then 999 else l + bo + mo) : m = FV vb wi bo mo w := by
  have e9 : (999 : Int32).toInt = 999 := by decide
  unfold FV; rw [← el, if_pos h, em]
  by_cases q : (999 : Int32) < l + bo + mo
  · rw [if_pos q, if_pos (by have := tlt e9 rfl q; exact this)]
  · rw [if_neg q, if_neg (by have := tnlt e9 rfl q; omega)]
end FVS
/-- the wire of a node is cut in a minute -/
def CUTP (cn cf ct : Nat → Int32) (i m : Int) (k : Nat) : Prop := ∃ j : Nat, (j : Int) < i ∧ (cn j).toInt = k ∧ (cf j).toInt ≤ m ∧ m ≤ (ct j).toInt
/-- a row that holds how loud it is at each node -/
def SND (x on wi bo mo : Nat → Int32) (cut : Nat → Prop) (v w : Int32) (n : Int) : Prop := ∀ k : Nat, (k : Int) < n → (k = 0 → x k = v) ∧ (1 ≤ k → (cut k → x k = 0) ∧ (¬ cut k → x k = FV (x (on k).toNatClampNeg) (wi k) (bo k) (mo k) w))
/-- the tree of the class's nodes, its cuts, its homes by the reference's rows -/
def NTR (p : Nat → Option Nat) (el : Nat → Nat) (on : Nat → Int32) (n : Int) : Prop := ∀ k : Nat, (k : Int) < n → (k = 0 → p (el k) = none) ∧ (1 ≤ k → p (el k) = some (el (on k).toNatClampNeg) ∧ 0 ≤ (on k).toInt ∧ (on k).toInt < k)
def CUR (p : Nat → Option Nat) (f t : Nat → Int32) (el2 el : Nat → Nat) (cn cf ct : Nat → Int32) (nc n : Int) : Prop := ∀ j : Nat, (j : Int) < nc → p (el2 j) = some (el (cn j).toNatClampNeg) ∧ 0 ≤ (cn j).toInt ∧ (cn j).toInt < n ∧ f (el2 j) = cf j ∧ t (el2 j) = ct j ∧ 0 ≤ (cf j).toInt
def HMR (p : Nat → Option Nat) (e s m : Nat → Int32) (el2 el : Nat → Nat) (hn ea su ma : Nat → Int32) (nh n : Int) : Prop := ∀ j : Nat, (j : Int) < nh → p (el2 j) = some (el (hn j).toNatClampNeg) ∧ 0 ≤ (hn j).toInt ∧ (hn j).toInt < n ∧ e (el2 j) = ea j ∧ s (el2 j) = su j ∧ m (el2 j) = ma j ∧ 1 ≤ (ea j).toInt ∧ (ea j).toInt ≤ 9
def INJF (el : Nat → Nat) (n : Int) : Prop := ∀ j k : Nat, (j : Int) < n → (k : Int) < n → el j = el k → j = k
def SEV (s : Nat → Int32) (el : Nat → Nat) (cn cf ct : Nat → Int32) (n i m : Int) : Prop := ∀ k : Nat, (k : Int) < n → (CUTP cn cf ct i m k → (s (el k)).toInt = 1) ∧ (¬ CUTP cn cf ct i m k → (s (el k)).toInt = 0)
def VLD (s x wi bo mo : Nat → Int32) (el : Nat → Nat) (on : Nat → Int32) (v w : Int32) (m : Int) : Prop := ∀ k : Nat, (k : Int) < m → (k = 0 → x (el k) = v) ∧ (1 ≤ k → x (el k) = RCV (s (el k)) (x (el (on k).toNatClampNeg)) (wi (el k)) (bo (el k)) (mo (el k)) w)
section NET
variable {x y on wi bo mo wi' bo' mo' s s' x' cn cf ct : Nat → Int32} {p : Nat → Option Nat} {cut cut' : Nat → Prop} {v w v' w' val : Int32} {n n' m m' i i' nc : Int} {el el2 : Nat → Nat} {o b c k : Nat} {G : Nat → Nat → Int32} {r : Nat}
theorem snd_det (h : SND x on wi bo mo cut v w n) (h' : SND y on wi' bo' mo' cut' v' w' n') (hn : n = n') (hon : ∀ k : Nat, 1 ≤ k → (k : Int) < n → (on k).toInt < k) (hw : ∀ k : Nat, (k : Int) < n → wi k = wi' k) (hb : ∀ k : Nat, (k : Int) < n → bo k = bo' k) (hm : ∀ k : Nat, (k : Int) < n → mo k = mo' k) (hc : ∀ k : Nat, 1 ≤ k → (k : Int) < n → (cut k ↔ cut' k)) (ev : v = v') (ew : w = w') : ∀ k : Nat, (k : Int) < n → x k = y k := by
  subst hn ev ew
  intro k
  induction k using Nat.strongRecOn with
  | ind k ih =>
    intro hk
    obtain ⟨a1, a2⟩ := h k hk
    obtain ⟨b1, b2⟩ := h' k hk
    by_cases e : k = 0
    · rw [a1 e, b1 e]
    · obtain ⟨c1, c2⟩ := a2 (by omega)
      obtain ⟨d1, d2⟩ := b2 (by omega)
      by_cases q : cut k
      · rw [c1 q, d1 ((hc k (by omega) hk).mp q)]
      · have ho := hon k (by omega) hk
        have e2 : (on k).toNatClampNeg < k := by have := tcl (on k); omega
        rw [c2 q, d2 (fun z => q ((hc k (by omega) hk).mpr z)), ih _ e2 (by omega), hw k hk, hb k hk, hm k hk]
theorem cutp_s (hc : (c : Int) = i) (hi : i' = i + 1) (hx : ¬ ((cn c).toInt = k ∧ (cf c).toInt ≤ m ∧ m ≤ (ct c).toInt)) : CUTP cn cf ct i' m k ↔ CUTP cn cf ct i m k := by
  subst hi
  constructor
  · rintro ⟨j, h1, h2⟩
    by_cases e : j = c
    · subst e; exact absurd h2 hx
    · exact ⟨j, by omega, h2⟩
  · rintro ⟨j, h1, h2⟩
    exact ⟨j, by omega, h2⟩
theorem cutp_no (h : ¬ CUTP cn cf ct i m k) (hc : (c : Int) = i) (hi : i' = i + 1) (hx : (cn c).toInt = k → (cf c).toInt ≤ m → ¬ m ≤ (ct c).toInt) : ¬ CUTP cn cf ct i' m k := fun q => h ((cutp_s hc hi (fun z => hx z.1 z.2.1 z.2.2)).mp q)
theorem cutp_0 (h : i = 0) : ¬ CUTP cn cf ct i m k := fun ⟨j, h1, _⟩ => by omega
theorem zsv_s (h : ∀ k : Nat, (k : Int) < m → (s (el k)).toInt = 0) (h1 : ∀ b, b ≠ o → s' b = s b) (h2 : s' o = 0) (ho : o = el c) (hc : (c : Int) = m) (hm : m' = m + 1) : ∀ k : Nat, (k : Int) < m' → (s' (el k)).toInt = 0 := fun k hk => by
  by_cases e : el k = o
  · rw [e, h2]; rfl
  · rw [h1 _ e]
    exact h k (by
      have : k ≠ c := fun q => e (by rw [q]; exact ho.symm)
      omega)
theorem sev_0 (h : ∀ k : Nat, (k : Int) < n → (s (el k)).toInt = 0) (hi : i = 0) : SEV s el cn cf ct n i m := fun k hk => ⟨fun ⟨j, hj, _⟩ => by omega, fun _ => h k hk⟩
theorem sev_skip (h : SEV s el cn cf ct n i m) (hc : (c : Int) = i) (hi : i' = i + 1) (hx : ¬ ((cf c).toInt ≤ m ∧ m ≤ (ct c).toInt)) : SEV s el cn cf ct n i' m := fun k hk => by
  have e := cutp_s (cn := cn) (cf := cf) (ct := ct) (m := m) (k := k) hc hi (fun z => hx z.2)
  rw [e]; exact h k hk
theorem sev_hit (h : SEV s el cn cf ct n i m) (hj : ∀ j k : Nat, (j : Int) < n → (k : Int) < n → el j = el k → j = k) (hc : (c : Int) = i) (hi : i' = i + 1) (h1 : (cf c).toInt ≤ m) (h2 : m ≤ (ct c).toInt) (hb : b = el (cn c).toNatClampNeg) (h3 : 0 ≤ (cn c).toInt) (h4 : (cn c).toInt < n) (hs : ∀ a, a ≠ b → s' a = s a) (hs1 : s' b = 1) : SEV s' el cn cf ct n i' m := fun k hk => by
  have h8 := tcl (cn c)
  by_cases e : k = (cn c).toNatClampNeg
  · subst e
    rw [← hb, hs1]
    exact ⟨fun _ => by decide, fun q => absurd ⟨c, by omega, by omega, h1, h2⟩ q⟩
  · have e2 : el k ≠ b := fun q => e (hj k _ hk (by omega) (q.trans hb))
    have e3 := cutp_s (cn := cn) (cf := cf) (ct := ct) (m := m) (k := k) hc hi (fun z => e (by omega))
    rw [hs _ e2, e3]; exact h k hk
theorem vld_0 (h : m = 0) : VLD s x wi bo mo el on v w m := fun k hk => by omega
theorem vld_s (h : VLD s x wi bo mo el on v w m) (hnt : NTR p el on n) (hj : ∀ j k : Nat, (j : Int) < n → (k : Int) < n → el j = el k → j = k) (ho : o = el c) (hc : (c : Int) = m) (hm : m' = m + 1) (hmn : m < n) (h7 : ∀ b, b ≠ o → x' b = x b) (hF1 : p o = none → x' o = v) (hF2 : ∀ b, p o = some b → x' o = RCV (s o) (x b) (wi o) (bo o) (mo o) w) : VLD s x' wi bo mo el on v w m' := fun k hk => by
  subst ho
  have ne : ∀ j : Nat, (j : Int) < m → x' (el j) = x (el j) := fun j hj' => h7 _ (fun q => by
    have := hj j c (by omega) (by omega) q
    omega)
  obtain ⟨n1, n2⟩ := hnt k (by omega)
  by_cases e : k = c
  · subst e
    refine ⟨fun q => hF1 (n1 q), fun q => ?_⟩
    obtain ⟨n3, n4, n5⟩ := n2 q
    have h8 := tcl (on k)
    rw [hF2 _ n3, ne _ (by omega)]
  · obtain ⟨a1, a2⟩ := h k (by omega)
    refine ⟨fun q => by rw [ne k (by omega)]; exact a1 q, fun q => ?_⟩
    obtain ⟨n3, n4, n5⟩ := n2 q
    have h8 := tcl (on k)
    rw [ne k (by omega), ne (on k).toNatClampNeg (by omega)]; exact a2 q
theorem snd_of (h : VLD s x wi bo mo el on v w m) (hm : n ≤ m) (hs : SEV s el cn cf ct n i m') : SND (fun k => x (el k)) on (fun k => wi (el k)) (fun k => bo (el k)) (fun k => mo (el k)) (CUTP cn cf ct i m') v w n := fun k hk => by
  obtain ⟨a1, a2⟩ := h k (by omega)
  obtain ⟨b1, b2⟩ := hs k hk
  exact ⟨a1, fun q => ⟨fun z => (a2 q).trans (rcv_s (by rw [b1 z]; decide)), fun z => (a2 q).trans (rcv_f (b2 z))⟩⟩
theorem snd_1 (h : x 0 = v) (hn : n = 1) : SND x on wi bo mo cut v w n := fun k hk => ⟨fun q => by rw [q]; exact h, fun q => by omega⟩
theorem snd_s (h : SND (G r) on wi bo mo cut v w m) (hz : x = up2 G r c val r) (hc : (c : Int) = m) (hm : m' = m + 1) (h1 : 1 ≤ m) (hon : ∀ k : Nat, 1 ≤ k → (k : Int) < m' → (on k).toInt < k) (hv1 : cut c → val = 0) (hv2 : ¬ cut c → val = FV (G r (on c).toNatClampNeg) (wi c) (bo c) (mo c) w) : SND x on wi bo mo cut v w m' := fun k hk => by
  subst hz
  have h8 := tcl (on k)
  by_cases e : k = c
  · subst e
    have h9 := hon k (by omega) hk
    rw [up2_s, up2_f _ _ _ (by omega)]
    exact ⟨fun q => by omega, fun _ => ⟨hv1, hv2⟩⟩
  · rw [up2_f _ _ _ e]
    obtain ⟨a1, a2⟩ := h k (by omega)
    refine ⟨a1, fun q => ?_⟩
    have h9 := hon k q hk
    rw [up2_f _ _ _ (by omega)]; exact a2 q
/-- heard, by ears and by how loud it is -/
theorem div_ge {l e y z d : Int32} (hd : d = y / e) (hz : z = l * e) (hl : 1 ≤ l.toInt) (hl2 : l.toInt ≤ 99) (he : 1 ≤ e.toInt) (he2 : e.toInt ≤ 9) : l.toInt ≤ d.toInt ↔ z.toInt ≤ y.toInt := by
  have hp : l.toInt * e.toInt ≤ 99 * 9 := Int.mul_le_mul hl2 he2 (by omega) (by omega)
  have hp0 : 0 ≤ l.toInt * e.toInt := Int.mul_nonneg (by omega) (by omega)
  have h1 : z.toInt = l.toInt * e.toInt := tmul hz rfl rfl (by omega)
  have h2 : d.toInt = y.toInt.tdiv e.toInt := tdiv hd rfl rfl (by omega)
  rw [h1, h2]
  rcases Int.lt_or_le y.toInt 0 with q | q
  · have h3 : y.toInt.tdiv e.toInt ≤ 0 := by
      have h4 := Int.neg_tdiv (a := -y.toInt) (b := e.toInt)
      rw [Int.neg_neg] at h4
      have h5 : 0 ≤ (-y.toInt).tdiv e.toInt := Int.tdiv_nonneg (by omega) (by omega)
      omega
    constructor <;> intro h <;> omega
  · rw [Int.tdiv_eq_ediv_of_nonneg q]
    exact Int.le_ediv_iff_mul_le (by omega)
end NET
set_option maxHeartbeats 4000000 in
set_option maxRecDepth 100000 in
theorem c_X5_receive_e (l : Launch) (g : gG) (J : Nat → Nat → Int32) (L : Nat → Nat → Int64) (I : Nat → Nat → Nat → Int32) (P : Nat → Nat → Nat → Option Nat) (E : Nat → Option Nat) (N : Nat → Nat) (dy : List (Nat × Nat)) (sz : Nat) (o : Nat) (hmo : (6, o) ∈ dy) (a0 : Int32) (a1 : Int32) (hwf : WXF g J P E N dy) : Met l yX5_receive (WS yX5_receive cX5_receive 4 none) (RM (2) 0 0) (PC g [.ref o, .int a0, .int a1] ((J, L, I, P, E, N), sgX g ++ dy) sz) (va_Qv (fun (u : (Nat → Nat → Nat → Int32)) => (∀ b : Nat, b ≠ o → u 6 7 b = I 6 7 b) ∧ (P 6 0 o = none → u 6 7 o = a0) ∧ (∀ b : Nat, P 6 0 o = some b → u 6 7 o = RCV (I 6 6 o) (I 6 7 b) (I 6 1 o) (I 6 3 o) (I 6 5 o) a1)) (fun u t => at_ g (FR g ((J, L, I, P, E, N), sgX g ++ dy) sz) ((J, L, (hv I [] [(6, 7)] u), P, E, N), sgX g ++ dy) t) (FR g ((J, L, I, P, E, N), sgX g ++ dy) sz)) 0 0 (FR g ((J, L, I, P, E, N), sgX g ++ dy) sz) := by
  refine ent (by decide +kernel) (Nat.le_of_ble_eq_true rfl) ?_
  intro p e s m below meth c ls hsz C hW hr hlocks hname hl
  generalize FR g ((J, L, I, P, E, N), sgX g ++ dy) sz = A at C hW ⊢
  generalize hQ9 : (va_Qv (fun (u : (Nat → Nat → Nat → Int32)) => (∀ b : Nat, b ≠ o → u 6 7 b = I 6 7 b) ∧ (P 6 0 o = none → u 6 7 o = a0) ∧ (∀ b : Nat, P 6 0 o = some b → u 6 7 o = RCV (I 6 6 o) (I 6 7 b) (I 6 1 o) (I 6 3 o) (I 6 5 o) a1)) (fun u t => at_ g A ((J, L, (hv I [] [(6, 7)] u), P, E, N), sgX g ++ dy) t) A) = Q9
  have hx := C.1.1
  have hb := C.1.2.1
  have hts := C.1.2.2.2.2
  have hl : lv_has ls 4 [(0, .ref o), (1, .int a0), (2, .int a1)] := hl
  obtain ⟨H, hH⟩ : ∃ H : Heap, H = s.heap := ⟨_, rfl⟩
  obtain ⟨locs, hlocs⟩ : ∃ q : List Loc, q = [] := ⟨_, rfl⟩
  have hW : WB g A s.heap H locs (J, L, I, P, E, N) (sgX g ++ dy) := by rw [hH, hlocs]; exact hW
  refine start_ hH hlocs ?_
  refine lv_aload_n hx hb dX5_receive_0 rfl (lv_at hl 0 rfl) ?_
  refine rg_6_0 C hW (List.mem_append_right _ hmo) tw_137 dX5_receive_1 ?_
  rcases hwf.2.2.1 o hmo with hb1 | ⟨b1, hb1, hbm1⟩
  · refine lv_asv (v' := .null) (by show va_rf (P 6 0 o) = _; rw [hb1]; rfl) ?_
    refine lv_ifnonnullN hx hb dX5_receive_4 ?_
    refine lv_aload_n hx hb dX5_receive_7 rfl (lv_at hl 0 rfl) ?_
    refine lv_iload_n hx hb dX5_receive_8 rfl (lv_at hl 1 rfl) ?_
    refine rp_6_7 C hW (List.mem_append_right _ hmo) tw_151 dX5_receive_9 (fun H locs hW => ?_)
    have hWr : WB g A s.heap H locs (J, L, (hv I [] [(6, 7)] (up3 I 6 7 o a0)), P, E, N) (sgX g ++ dy) := by
      rw [← ag_hvE (J := I) (R := []) (F := [(6, 7)]) (ag_up3 (Or.inr rfl) ag_rf)]
      exact hW
    subst hQ9
    exact end_v C hr hlocks (up3 I 6 7 o a0) hWr ⟨show ∀ b : Nat, b ≠ o → (up3 I 6 7 o a0) 6 7 b = I 6 7 b from by exact fun b hb => up3_a _ _ _ _ hb _ _, show P 6 0 o = none → (up3 I 6 7 o a0) 6 7 o = a0 from by exact fun _ => up3_s _ _ _ _ _, show ∀ b : Nat, P 6 0 o = some b → (up3 I 6 7 o a0) 6 7 o = RCV (I 6 6 o) (I 6 7 b) (I 6 1 o) (I 6 3 o) (I 6 5 o) a1 from by (intro b h9; rw [hb1] at h9; cases h9)⟩ dX5_receive_12
  · refine lv_asv (v' := .ref b1) (by show va_rf (P 6 0 o) = _; rw [hb1]; rfl) ?_
    refine lv_ifnonnull (tgt := 13) hx hb dX5_receive_4 (by decide) ?_
    refine lv_aload_n hx hb dX5_receive_13 rfl (lv_at hl 0 rfl) ?_
    refine rg_6_6 C hW (List.mem_append_right _ hmo) tw_148 dX5_receive_14 ?_
    refine lv_topi (fun x2 (e2 : x2 = I 6 6 o) => ?_)
    have t2 : x2.toInt = (I 6 6 o).toInt := by rw [e2]
    refine lv_if_eq (tgt := 24) hx hb dX5_receive_17 (by decide) (fun c3 => ?_) (fun c3 => ?_)
    · have c3 : x2.toInt = 0 := teq rfl kp0 c3
      refine lv_aload_n hx hb dX5_receive_24 rfl (lv_at hl 0 rfl) ?_
      refine rg_6_0 C hW (List.mem_append_right _ hmo) tw_137 dX5_receive_25 ?_
      refine lv_asv (v' := .ref b1) (by show va_rf (P 6 0 o) = _; rw [hb1]; rfl) ?_
      refine rg_6_7 C hW (List.mem_append_right _ hbm1) tw_151 dX5_receive_28 ?_
      refine lv_topi (fun x5 (e5 : x5 = I 6 7 b1) => ?_)
      have t5 : x5.toInt = (I 6 7 b1).toInt := by rw [e5]
      refine lv_aload_n hx hb dX5_receive_31 rfl (lv_at hl 0 rfl) ?_
      refine rg_6_1 C hW (List.mem_append_right _ hmo) tw_139 dX5_receive_32 ?_
      refine lv_topi (fun x6 (e6 : x6 = I 6 1 o) => ?_)
      have t6 : x6.toInt = (I 6 1 o).toInt := by rw [e6]
      refine lv_bipush (v := 10) hx hb dX5_receive_35 (by decide) ?_
      refine lv_iload_n hx hb dX5_receive_37 rfl (lv_at hl 2 rfl) ?_
      refine lv_iadd hx hb dX5_receive_38 ?_
      refine lv_topi (fun x7 (e7 : x7 = 10 + a1) => ?_)
      try have t7 : x7.toInt = 10 + a1.toInt := tadd e7 kp10 rfl (by omega)
      refine lv_imul hx hb dX5_receive_39 ?_
      refine lv_topi (fun x8 (e8 : x8 = x6 * x7) => ?_)
      refine lv_bipush (v := 10) hx hb dX5_receive_40 (by decide) ?_
      refine lv_idiv hx hb dX5_receive_42 (by decide) ?_
      refine lv_topi (fun x9 (e9 : x9 = x8 / 10) => ?_)
      have t9 : x9.toInt = x8.toInt.tdiv 10 := tdiv e9 rfl kp10 (by decide)
      refine lv_isub hx hb dX5_receive_43 ?_
      refine lv_topi (fun x10 (e10 : x10 = x5 - x9) => ?_)
      refine lv_istore_n (lv' := [(3, .int x10), (0, .ref o), (1, .int a0), (2, .int a1)]) hx hb dX5_receive_44 rfl hl (by decide) rfl (fun ls hl => ?_)
      refine lv_aload_n hx hb dX5_receive_45 rfl (lv_at hl 1 rfl) ?_
      refine lv_iload_n hx hb dX5_receive_46 rfl (lv_at hl 0 rfl) ?_
      refine lv_if_le (tgt := 70) hx hb dX5_receive_47 (by decide) (fun c11 => ?_) (fun c11 => ?_)
      · have c11 : x10.toInt ≤ 0 := tle rfl kp0 c11
        refine lv_iconst (v := 0) hx hb dX5_receive_70 (by decide) ?_
        refine rp_6_7 C hW (List.mem_append_right _ hmo) tw_151 dX5_receive_71 (fun H locs hW => ?_)
        have hWr : WB g A s.heap H locs (J, L, (hv I [] [(6, 7)] (up3 I 6 7 o 0)), P, E, N) (sgX g ++ dy) := by
          rw [← ag_hvE (J := I) (R := []) (F := [(6, 7)]) (ag_up3 (Or.inr rfl) ag_rf)]
          exact hW
        subst hQ9
        exact end_v C hr hlocks (up3 I 6 7 o 0) hWr ⟨show ∀ b : Nat, b ≠ o → (up3 I 6 7 o 0) 6 7 b = I 6 7 b from by exact fun b hb => up3_a _ _ _ _ hb _ _, show P 6 0 o = none → (up3 I 6 7 o 0) 6 7 o = a0 from by (intro h9; rw [hb1] at h9; cases h9), show ∀ b : Nat, P 6 0 o = some b → (up3 I 6 7 o 0) 6 7 o = RCV (I 6 6 o) (I 6 7 b) (I 6 1 o) (I 6 3 o) (I 6 5 o) a1 from by (intro b h9; rw [hb1] at h9; cases h9; refine (up3_s _ _ _ _ _).trans ?_; first | exact (rcv_s (by omega)).symm | exact (fv_0 (l := x10) (by rw [e10, e5, e9, e8, e6, e7]) (by omega)).trans (rcv_f (by omega)).symm)⟩ dX5_receive_74
      · have c11 : 0 < x10.toInt := tnle rfl kp0 c11
        refine lv_iload_n hx hb dX5_receive_50 rfl (lv_at hl 0 rfl) ?_
        refine lv_aload_n hx hb dX5_receive_51 rfl (lv_at hl 1 rfl) ?_
        refine rg_6_3 C hW (List.mem_append_right _ hmo) tw_142 dX5_receive_52 ?_
        refine lv_topi (fun x12 (e12 : x12 = I 6 3 o) => ?_)
        have t12 : x12.toInt = (I 6 3 o).toInt := by rw [e12]
        refine lv_iadd hx hb dX5_receive_55 ?_
        refine lv_topi (fun x13 (e13 : x13 = x10 + x12) => ?_)
        refine lv_aload_n hx hb dX5_receive_56 rfl (lv_at hl 1 rfl) ?_
        refine rg_6_5 C hW (List.mem_append_right _ hmo) tw_146 dX5_receive_57 ?_
        refine lv_topi (fun x14 (e14 : x14 = I 6 5 o) => ?_)
        have t14 : x14.toInt = (I 6 5 o).toInt := by rw [e14]
        refine lv_iadd hx hb dX5_receive_60 ?_
        refine lv_topi (fun x15 (e15 : x15 = x13 + x14) => ?_)
        refine lv_sipush (v := 999) hx hb dX5_receive_61 (by decide) ?_
        refine va_mmin hx hb (C.1.2.2.1.trans hl.1.symm) C.1.2.2.2.1 (hts _ tw_536) (hts _ tw_225) (hts _ tw_74) (hts _ tw_226) (Nat.le_of_ble_eq_true rfl) (Nat.le_of_ble_eq_true rfl) (Nat.le_of_ble_eq_true rfl) (Nat.le_of_ble_eq_true rfl) dX5_receive_64 ?_
        refine lv_topi (fun x16 (e16 : x16 = if 999 < x15 then 999 else x15) => ?_)
        have t16 : x16.toInt = min x15.toInt 999 := tmin e16 rfl kp999
        refine lv_goto (tgt := 71) hx hb dX5_receive_67 (by decide) ?_
        refine rp_6_7 C hW (List.mem_append_right _ hmo) tw_151 dX5_receive_71 (fun H locs hW => ?_)
        have hWr : WB g A s.heap H locs (J, L, (hv I [] [(6, 7)] (up3 I 6 7 o x16)), P, E, N) (sgX g ++ dy) := by
          rw [← ag_hvE (J := I) (R := []) (F := [(6, 7)]) (ag_up3 (Or.inr rfl) ag_rf)]
          exact hW
        subst hQ9
        exact end_v C hr hlocks (up3 I 6 7 o x16) hWr ⟨show ∀ b : Nat, b ≠ o → (up3 I 6 7 o x16) 6 7 b = I 6 7 b from by exact fun b hb => up3_a _ _ _ _ hb _ _, show P 6 0 o = none → (up3 I 6 7 o x16) 6 7 o = a0 from by (intro h9; rw [hb1] at h9; cases h9), show ∀ b : Nat, P 6 0 o = some b → (up3 I 6 7 o x16) 6 7 o = RCV (I 6 6 o) (I 6 7 b) (I 6 1 o) (I 6 3 o) (I 6 5 o) a1 from by (intro b h9; rw [hb1] at h9; cases h9; refine (up3_s _ _ _ _ _).trans ?_; first | exact (rcv_s (by omega)).symm | exact (fv_0 (l := x10) (by rw [e10, e5, e9, e8, e6, e7]) (by omega)).trans (rcv_f (by omega)).symm | exact (fv_p (l := x10) (by rw [e10, e5, e9, e8, e6, e7]) (by omega) (by rw [e16, e15, e13, e12, e14])).trans (rcv_f (by omega)).symm)⟩ dX5_receive_74
    · have c3 : ¬ x2.toInt = 0 := tne rfl kp0 c3
      refine lv_iconst (v := 0) hx hb dX5_receive_20 (by decide) ?_
      refine lv_goto (tgt := 44) hx hb dX5_receive_21 (by decide) ?_
      refine lv_istore_n (lv' := [(3, .int 0), (0, .ref o), (1, .int a0), (2, .int a1)]) hx hb dX5_receive_44 rfl hl (by decide) rfl (fun ls hl => ?_)
      refine lv_aload_n hx hb dX5_receive_45 rfl (lv_at hl 1 rfl) ?_
      refine lv_iload_n hx hb dX5_receive_46 rfl (lv_at hl 0 rfl) ?_
      refine lv_if_le (tgt := 70) hx hb dX5_receive_47 (by decide) (fun c17 => ?_) (fun c17 => ?_)
      · skip
        refine lv_iconst (v := 0) hx hb dX5_receive_70 (by decide) ?_
        refine rp_6_7 C hW (List.mem_append_right _ hmo) tw_151 dX5_receive_71 (fun H locs hW => ?_)
        have hWr : WB g A s.heap H locs (J, L, (hv I [] [(6, 7)] (up3 I 6 7 o 0)), P, E, N) (sgX g ++ dy) := by
          rw [← ag_hvE (J := I) (R := []) (F := [(6, 7)]) (ag_up3 (Or.inr rfl) ag_rf)]
          exact hW
        subst hQ9
        exact end_v C hr hlocks (up3 I 6 7 o 0) hWr ⟨show ∀ b : Nat, b ≠ o → (up3 I 6 7 o 0) 6 7 b = I 6 7 b from by exact fun b hb => up3_a _ _ _ _ hb _ _, show P 6 0 o = none → (up3 I 6 7 o 0) 6 7 o = a0 from by (intro h9; rw [hb1] at h9; cases h9), show ∀ b : Nat, P 6 0 o = some b → (up3 I 6 7 o 0) 6 7 o = RCV (I 6 6 o) (I 6 7 b) (I 6 1 o) (I 6 3 o) (I 6 5 o) a1 from by (intro b h9; rw [hb1] at h9; cases h9; refine (up3_s _ _ _ _ _).trans ?_; first | exact (rcv_s (by omega)).symm)⟩ dX5_receive_74
      · exact absurd (by decide) c17

set_option maxHeartbeats 4000000 in
set_option maxRecDepth 100000 in
theorem c_X3_carry_e (l : Launch) (g : gG) (J : Nat → Nat → Int32) (L : Nat → Nat → Int64) (I : Nat → Nat → Nat → Int32) (P : Nat → Nat → Nat → Option Nat) (E : Nat → Option Nat) (N : Nat → Nat) (dy : List (Nat × Nat)) (sz : Nat) (a0 : Int32) (a1 : Int32) (a2 : Int32) (hwf : WXF g J P E N dy) (hnt : NTR (P 6 0) (elt E P 20) (J 101) (J 20 2).toInt) (hij : INJ E P 20 (J 20 2).toInt) (hcu : CUR (P 1 0) (I 1 1) (I 1 2) (elt E P 21) (elt E P 20) (J 105) (J 106) (J 107) (J 21 2).toInt (J 20 2).toInt) : Met l yX3_carry (WS yX3_carry cX3_carry 6 none) (RM (4) 0 0) (PC g [.ref (g.2.2.1 4), .int a0, .int a1, .int a2] ((J, L, I, P, E, N), sgX g ++ dy) sz) (va_Qv (fun (u : (Nat → Nat → Nat → Int32)) => (SND (fun k => u 6 7 (elt E P 20 k)) (J 101) (fun k => I 6 1 (elt E P 20 k)) (fun k => I 6 3 (elt E P 20 k)) (fun k => I 6 5 (elt E P 20 k)) (CUTP (J 105) (J 106) (J 107) (J 21 2).toInt a2.toInt) a0 a1 (J 20 2).toInt)) (fun u t => at_ g (FR g ((J, L, I, P, E, N), sgX g ++ dy) sz) ((J, L, (hv I [] [(6, 6), (6, 7)] u), P, E, N), sgX g ++ dy) t) (FR g ((J, L, I, P, E, N), sgX g ++ dy) sz)) 0 0 (FR g ((J, L, I, P, E, N), sgX g ++ dy) sz) := by
  refine ent (by decide +kernel) (Nat.le_of_ble_eq_true rfl) ?_
  intro p e s m below meth c ls hsz C hW hr hlocks hname hl
  generalize FR g ((J, L, I, P, E, N), sgX g ++ dy) sz = A at C hW ⊢
  generalize hQ9 : (va_Qv (fun (u : (Nat → Nat → Nat → Int32)) => (SND (fun k => u 6 7 (elt E P 20 k)) (J 101) (fun k => I 6 1 (elt E P 20 k)) (fun k => I 6 3 (elt E P 20 k)) (fun k => I 6 5 (elt E P 20 k)) (CUTP (J 105) (J 106) (J 107) (J 21 2).toInt a2.toInt) a0 a1 (J 20 2).toInt)) (fun u t => at_ g A ((J, L, (hv I [] [(6, 6), (6, 7)] u), P, E, N), sgX g ++ dy) t) A) = Q9
  have hx := C.1.1
  have hb := C.1.2.1
  have hts := C.1.2.2.2.2
  have hl : lv_has ls 6 [(0, .ref (g.2.2.1 4)), (1, .int a0), (2, .int a1), (3, .int a2)] := hl
  obtain ⟨H, hH⟩ : ∃ H : Heap, H = s.heap := ⟨_, rfl⟩
  obtain ⟨locs, hlocs⟩ : ∃ q : List Loc, q = [] := ⟨_, rfl⟩
  have hW : WB g A s.heap H locs (J, L, I, P, E, N) (sgX g ++ dy) := by rw [hH, hlocs]; exact hW
  obtain ⟨h20a, h20b, -⟩ := hwf.1.1
  obtain ⟨h21a, h21b, -⟩ := hwf.1.2.1
  refine start_ hH hlocs ?_
  refine lv_iconst (v := 0) hx hb dX3_carry_0 (by decide) ?_
  refine lv_istore (lv' := [(4, .int 0), (0, .ref (g.2.2.1 4)), (1, .int a0), (2, .int a1), (3, .int a2)]) hx hb dX3_carry_1 hl (by decide) rfl (fun ls hl => ?_)
  have loop3 : ∀ (n : Nat) (m4 : Int32) (Kl1 : Nat → Nat → Nat → Int32) (H : Heap) (locs : List Loc) (ls : Array Slot), ((J 20 2).toInt - m4.toInt).toNat < n → 0 ≤ m4.toInt ∧ m4.toInt ≤ (J 20 2).toInt → (∀ k : Nat, (k : Int) < m4.toInt → (Kl1 6 6 (elt E P 20 k)).toInt = 0) → WB g A s.heap H locs (J, L, (hv I [] [(6, 6), (6, 7)] Kl1), P, E, N) (sgX g ++ dy) → lv_has ls 6 [(4, .int m4), (0, .ref (g.2.2.1 4)), (1, .int a0), (2, .int a1), (3, .int a2)] → W p l e (RM (4) 0 0) s m ([.ref (g.2.2.1 4), .int a0, .int a1, .int a2] : List Value).toArray below meth c H locs 0 0 (MQ below Q9 ([.ref (g.2.2.1 4), .int a0, .int a1, .int a2] : List Value).toArray s 0 0 A) (F0 m 3 ls []) := by
    intro n
    induction n with
    | zero => intro m4 Kl1 H locs ls hmeas; exact absurd hmeas (Nat.not_lt_zero _)
    | succ n ih =>
      intro m4 Kl1 H locs ls hmeas hi hzs hW hl
      refine lv_iload hx hb dX3_carry_3 (lv_at hl 0 rfl) ?_
      refine lv_aload_n hx hb dX3_carry_5 rfl (lv_at hl 1 rfl) ?_
      refine rg_4_0 C hW (mx_ rfl) tw_232 dX3_carry_6 ?_
      refine ci_ C hW (runV (x := (g.2.2.1 20)) (As := []) (rest := [.int m4]) (T := ((J, L, (hv I [] [(6, 6), (6, 7)] Kl1), P, E, N), sgX g ++ dy)) C hW (c_Jx4a65c_size_8abf5 l g J L (hv I [] [(6, 6), (6, 7)] Kl1) P E N dy H.size 20 rfl ) mi_Jx4a65c_size_8abf5 tw_467 (recv_ (T := ((J, L, (hv I [] [(6, 6), (6, 7)] Kl1), P, E, N), sgX g ++ dy)) C hW (mx_ rfl) (cel_list rfl) rfl) ⟨rfl, rfl, Nat.le_of_ble_eq_true rfl, Nat.le_of_ble_eq_true rfl⟩ rfl hl.1 rfl (Nat.le_of_ble_eq_true rfl) dX3_carry_9 ⟨Nat.le_of_ble_eq_true rfl, Nat.le_of_ble_eq_true rfl⟩) (fun r2 u2 H locs hp2 hW => ?_)
      have hc2 : ((r2 = J 20 2)) := hp2
      clear hp2
      have hr2 : r2 = J 20 2 := hc2
      refine lv_as (J 20 2) hr2 ?_
      have hW : WB g A s.heap H locs (J, L, (hv I [] [(6, 6), (6, 7)] Kl1), P, E, N) (sgX g ++ dy) := hW
      refine lv_icmp_ge (tgt := 37) hx hb dX3_carry_12 (by decide) (fun c3 => ?_) (fun c3 => ?_)
      · have c3 : (J 20 2).toInt ≤ m4.toInt := tle rfl rfl c3
        refine lv_iconst (v := 0) hx hb dX3_carry_37 (by decide) ?_
        refine lv_istore (lv' := [(4, .int 0), (0, .ref (g.2.2.1 4)), (1, .int a0), (2, .int a1), (3, .int a2)]) hx hb dX3_carry_38 hl (by decide) rfl (fun ls hl => ?_)
        have loop40 : ∀ (n40 : Nat) (m4 : Int32) (Kl4 : Nat → Nat → Nat → Int32) (H : Heap) (locs : List Loc) (ls : Array Slot), ((J 21 2).toInt - m4.toInt).toNat < n40 → 0 ≤ m4.toInt ∧ m4.toInt ≤ (J 21 2).toInt → SEV (Kl4 6 6) (elt E P 20) (J 105) (J 106) (J 107) (J 20 2).toInt m4.toInt a2.toInt → WB g A s.heap H locs (J, L, (hv (hv I [] [(6, 6), (6, 7)] Kl1) [] [(6, 6), (6, 7)] Kl4), P, E, N) (sgX g ++ dy) → lv_has ls 6 [(4, .int m4), (0, .ref (g.2.2.1 4)), (1, .int a0), (2, .int a1), (3, .int a2)] → W p l e (RM (4) 0 0) s m ([.ref (g.2.2.1 4), .int a0, .int a1, .int a2] : List Value).toArray below meth c H locs 0 0 (MQ below Q9 ([.ref (g.2.2.1 4), .int a0, .int a1, .int a2] : List Value).toArray s 0 0 A) (F0 m 40 ls []) := by
          intro n40
          induction n40 with
          | zero => intro m4 Kl4 H locs ls hmeas; exact absurd hmeas (Nat.not_lt_zero _)
          | succ n40 ih40 =>
            intro m4 Kl4 H locs ls hmeas hi hse hW hl
            refine lv_iload hx hb dX3_carry_40 (lv_at hl 0 rfl) ?_
            refine lv_aload_n hx hb dX3_carry_42 rfl (lv_at hl 1 rfl) ?_
            refine rg_4_1 C hW (mx_ rfl) tw_234 dX3_carry_43 ?_
            refine ci_ C hW (runV (x := (g.2.2.1 21)) (As := []) (rest := [.int m4]) (T := ((J, L, (hv (hv I [] [(6, 6), (6, 7)] Kl1) [] [(6, 6), (6, 7)] Kl4), P, E, N), sgX g ++ dy)) C hW (c_Jx4a65c_size_8abf5 l g J L (hv (hv I [] [(6, 6), (6, 7)] Kl1) [] [(6, 6), (6, 7)] Kl4) P E N dy H.size 21 rfl ) mi_Jx4a65c_size_8abf5 tw_467 (recv_ (T := ((J, L, (hv (hv I [] [(6, 6), (6, 7)] Kl1) [] [(6, 6), (6, 7)] Kl4), P, E, N), sgX g ++ dy)) C hW (mx_ rfl) (cel_list rfl) rfl) ⟨rfl, rfl, Nat.le_of_ble_eq_true rfl, Nat.le_of_ble_eq_true rfl⟩ rfl hl.1 rfl (Nat.le_of_ble_eq_true rfl) dX3_carry_46 ⟨Nat.le_of_ble_eq_true rfl, Nat.le_of_ble_eq_true rfl⟩) (fun r5 u5 H locs hp5 hW => ?_)
            have hc5 : ((r5 = J 21 2)) := hp5
            clear hp5
            have hr5 : r5 = J 21 2 := hc5
            refine lv_as (J 21 2) hr5 ?_
            have hW : WB g A s.heap H locs (J, L, (hv (hv I [] [(6, 6), (6, 7)] Kl1) [] [(6, 6), (6, 7)] Kl4), P, E, N) (sgX g ++ dy) := hW
            refine lv_icmp_ge (tgt := 99) hx hb dX3_carry_49 (by decide) (fun c6 => ?_) (fun c6 => ?_)
            · have c6 : (J 21 2).toInt ≤ m4.toInt := tle rfl rfl c6
              refine lv_iconst (v := 0) hx hb dX3_carry_99 (by decide) ?_
              refine lv_istore (lv' := [(4, .int 0), (0, .ref (g.2.2.1 4)), (1, .int a0), (2, .int a1), (3, .int a2)]) hx hb dX3_carry_100 hl (by decide) rfl (fun ls hl => ?_)
              have loop102 : ∀ (n102 : Nat) (m4 : Int32) (Kl7 : Nat → Nat → Nat → Int32) (H : Heap) (locs : List Loc) (ls : Array Slot), ((J 20 2).toInt - m4.toInt).toNat < n102 → 0 ≤ m4.toInt ∧ m4.toInt ≤ (J 20 2).toInt → SEV (Kl7 6 6) (elt E P 20) (J 105) (J 106) (J 107) (J 20 2).toInt (J 21 2).toInt a2.toInt → VLD (Kl7 6 6) (Kl7 6 7) (I 6 1) (I 6 3) (I 6 5) (elt E P 20) (J 101) a0 a1 m4.toInt → WB g A s.heap H locs (J, L, (hv (hv (hv I [] [(6, 6), (6, 7)] Kl1) [] [(6, 6), (6, 7)] Kl4) [] [(6, 6), (6, 7)] Kl7), P, E, N) (sgX g ++ dy) → lv_has ls 6 [(4, .int m4), (0, .ref (g.2.2.1 4)), (1, .int a0), (2, .int a1), (3, .int a2)] → W p l e (RM (4) 0 0) s m ([.ref (g.2.2.1 4), .int a0, .int a1, .int a2] : List Value).toArray below meth c H locs 0 0 (MQ below Q9 ([.ref (g.2.2.1 4), .int a0, .int a1, .int a2] : List Value).toArray s 0 0 A) (F0 m 102 ls []) := by
                intro n102
                induction n102 with
                | zero => intro m4 Kl7 H locs ls hmeas; exact absurd hmeas (Nat.not_lt_zero _)
                | succ n102 ih102 =>
                  intro m4 Kl7 H locs ls hmeas hi hse hvl hW hl
                  refine lv_iload hx hb dX3_carry_102 (lv_at hl 0 rfl) ?_
                  refine lv_aload_n hx hb dX3_carry_104 rfl (lv_at hl 1 rfl) ?_
                  refine rg_4_0 C hW (mx_ rfl) tw_232 dX3_carry_105 ?_
                  refine ci_ C hW (runV (x := (g.2.2.1 20)) (As := []) (rest := [.int m4]) (T := ((J, L, (hv (hv (hv I [] [(6, 6), (6, 7)] Kl1) [] [(6, 6), (6, 7)] Kl4) [] [(6, 6), (6, 7)] Kl7), P, E, N), sgX g ++ dy)) C hW (c_Jx4a65c_size_8abf5 l g J L (hv (hv (hv I [] [(6, 6), (6, 7)] Kl1) [] [(6, 6), (6, 7)] Kl4) [] [(6, 6), (6, 7)] Kl7) P E N dy H.size 20 rfl ) mi_Jx4a65c_size_8abf5 tw_467 (recv_ (T := ((J, L, (hv (hv (hv I [] [(6, 6), (6, 7)] Kl1) [] [(6, 6), (6, 7)] Kl4) [] [(6, 6), (6, 7)] Kl7), P, E, N), sgX g ++ dy)) C hW (mx_ rfl) (cel_list rfl) rfl) ⟨rfl, rfl, Nat.le_of_ble_eq_true rfl, Nat.le_of_ble_eq_true rfl⟩ rfl hl.1 rfl (Nat.le_of_ble_eq_true rfl) dX3_carry_108 ⟨Nat.le_of_ble_eq_true rfl, Nat.le_of_ble_eq_true rfl⟩) (fun r8 u8 H locs hp8 hW => ?_)
                  have hc8 : ((r8 = J 20 2)) := hp8
                  clear hp8
                  have hr8 : r8 = J 20 2 := hc8
                  refine lv_as (J 20 2) hr8 ?_
                  have hW : WB g A s.heap H locs (J, L, (hv (hv (hv I [] [(6, 6), (6, 7)] Kl1) [] [(6, 6), (6, 7)] Kl4) [] [(6, 6), (6, 7)] Kl7), P, E, N) (sgX g ++ dy) := hW
                  refine lv_icmp_ge (tgt := 137) hx hb dX3_carry_111 (by decide) (fun c9 => ?_) (fun c9 => ?_)
                  · have c9 : (J 20 2).toInt ≤ m4.toInt := tle rfl rfl c9
                    have hWr : WB g A s.heap H locs (J, L, (hv I [] [(6, 6), (6, 7)] (hv (hv (hv I [] [(6, 6), (6, 7)] Kl1) [] [(6, 6), (6, 7)] Kl4) [] [(6, 6), (6, 7)] Kl7)), P, E, N) (sgX g ++ dy) := by
                      rw [← ag_hvE (J := I) (R := []) (F := [(6, 6), (6, 7)]) (ag_hv rfl rfl (ag_hv rfl rfl (ag_hv rfl rfl ag_rf)))]
                      exact hW
                    subst hQ9
                    exact end_v C hr hlocks (hv (hv (hv I [] [(6, 6), (6, 7)] Kl1) [] [(6, 6), (6, 7)] Kl4) [] [(6, 6), (6, 7)] Kl7) hWr (show SND (fun k => (hv (hv (hv I [] [(6, 6), (6, 7)] Kl1) [] [(6, 6), (6, 7)] Kl4) [] [(6, 6), (6, 7)] Kl7) 6 7 (elt E P 20 k)) (J 101) (fun k => I 6 1 (elt E P 20 k)) (fun k => I 6 3 (elt E P 20 k)) (fun k => I 6 5 (elt E P 20 k)) (CUTP (J 105) (J 106) (J 107) (J 21 2).toInt a2.toInt) a0 a1 (J 20 2).toInt from by exact snd_of hvl (by omega) hse) dX3_carry_137
                  · have c9 : m4.toInt < (J 20 2).toInt := tnle rfl rfl c9
                    refine lv_aload_n hx hb dX3_carry_114 rfl (lv_at hl 1 rfl) ?_
                    refine rg_4_0 C hW (mx_ rfl) tw_232 dX3_carry_115 ?_
                    refine lv_iload hx hb dX3_carry_118 (lv_at hl 0 rfl) ?_
                    refine cq_ C hW (runV (x := (g.2.2.1 20)) (As := [.int m4]) (rest := []) (T := ((J, L, (hv (hv (hv I [] [(6, 6), (6, 7)] Kl1) [] [(6, 6), (6, 7)] Kl4) [] [(6, 6), (6, 7)] Kl7), P, E, N), sgX g ++ dy)) C hW ((c_Jx4a65c_get_915e3 6) l g J L (hv (hv (hv I [] [(6, 6), (6, 7)] Kl1) [] [(6, 6), (6, 7)] Kl4) [] [(6, 6), (6, 7)] Kl7) P E N dy H.size 20 rfl m4 (show LWF g J P E N dy 20 6 from hwf.1.1) (show 0 ≤ m4.toInt ∧ m4.toInt < (J 20 2).toInt from by omega)) mi_Jx4a65c_get_915e3 tw_471 (recv_ (T := ((J, L, (hv (hv (hv I [] [(6, 6), (6, 7)] Kl1) [] [(6, 6), (6, 7)] Kl4) [] [(6, 6), (6, 7)] Kl7), P, E, N), sgX g ++ dy)) C hW (mx_ rfl) (cel_list rfl) rfl) ⟨rfl, rfl, Nat.le_of_ble_eq_true rfl, Nat.le_of_ble_eq_true rfl⟩ rfl hl.1 rfl (Nat.le_of_ble_eq_true rfl) dX3_carry_120 ⟨Nat.le_of_ble_eq_true rfl, Nat.le_of_ble_eq_true rfl⟩) (fun q10 u10 H locs hp10 hW => ?_)
                    have hq10 : (q10 = some (elt E P 20 m4.toNatClampNeg)) := hp10
                    clear hp10
                    have hW : WB g A s.heap H locs (J, L, (hv (hv (hv I [] [(6, 6), (6, 7)] Kl1) [] [(6, 6), (6, 7)] Kl4) [] [(6, 6), (6, 7)] Kl7), P, E, N) (sgX g ++ dy) := hW
                    subst hq10
                    obtain ⟨o10, ho10⟩ : ∃ z : Nat, z = elt E P 20 m4.toNatClampNeg := ⟨_, rfl⟩
                    have hm10 : (6, o10) ∈ dy := by rw [ho10]; exact (lw_mem (er := 6) hwf.1.1 (show (m4.toNatClampNeg : Int) < (J 20 2).toInt from by have := tcl m4; omega))
                    refine lv_asv (v' := .ref o10) (by rw [ho10]; rfl) ?_
                    refine g_cast C hW (List.mem_append_right _ hm10) rfl rfl tw_131 dX3_carry_123 ?_
                    refine lv_iload_n hx hb dX3_carry_126 rfl (lv_at hl 2 rfl) ?_
                    refine lv_iload_n hx hb dX3_carry_127 rfl (lv_at hl 3 rfl) ?_
                    refine cv_ C hW (runV (x := o10) (As := [.int a0, .int a1]) (rest := []) (T := ((J, L, (hv (hv (hv I [] [(6, 6), (6, 7)] Kl1) [] [(6, 6), (6, 7)] Kl4) [] [(6, 6), (6, 7)] Kl7), P, E, N), sgX g ++ dy)) C hW (c_X5_receive_e l g J L (hv (hv (hv I [] [(6, 6), (6, 7)] Kl1) [] [(6, 6), (6, 7)] Kl4) [] [(6, 6), (6, 7)] Kl7) P E N dy H.size o10 hm10 a0 a1 hwf) mi_X5_receive tw_532 (recv_ (T := ((J, L, (hv (hv (hv I [] [(6, 6), (6, 7)] Kl1) [] [(6, 6), (6, 7)] Kl4) [] [(6, 6), (6, 7)] Kl7), P, E, N), sgX g ++ dy)) C hW (List.mem_append_right _ hm10) rfl rfl) ⟨rfl, rfl, Nat.le_of_ble_eq_true rfl, Nat.le_of_ble_eq_true rfl⟩ rfl hl.1 rfl (Nat.le_of_ble_eq_true rfl) dX3_carry_128 ⟨Nat.le_of_ble_eq_true rfl, Nat.le_of_ble_eq_true rfl⟩) (fun u11 H locs hp11 hW => ?_)
                    obtain ⟨hf11_0, hf11_1, hf11_2⟩ : (∀ b : Nat, b ≠ o10 → u11 6 7 b = (hv (hv (hv I [] [(6, 6), (6, 7)] Kl1) [] [(6, 6), (6, 7)] Kl4) [] [(6, 6), (6, 7)] Kl7) 6 7 b) ∧ (P 6 0 o10 = none → u11 6 7 o10 = a0) ∧ (∀ b : Nat, P 6 0 o10 = some b → u11 6 7 o10 = RCV ((hv (hv (hv I [] [(6, 6), (6, 7)] Kl1) [] [(6, 6), (6, 7)] Kl4) [] [(6, 6), (6, 7)] Kl7) 6 6 o10) ((hv (hv (hv I [] [(6, 6), (6, 7)] Kl1) [] [(6, 6), (6, 7)] Kl4) [] [(6, 6), (6, 7)] Kl7) 6 7 b) ((hv (hv (hv I [] [(6, 6), (6, 7)] Kl1) [] [(6, 6), (6, 7)] Kl4) [] [(6, 6), (6, 7)] Kl7) 6 1 o10) ((hv (hv (hv I [] [(6, 6), (6, 7)] Kl1) [] [(6, 6), (6, 7)] Kl4) [] [(6, 6), (6, 7)] Kl7) 6 3 o10) ((hv (hv (hv I [] [(6, 6), (6, 7)] Kl1) [] [(6, 6), (6, 7)] Kl4) [] [(6, 6), (6, 7)] Kl7) 6 5 o10) a1) := hp11
                    have hW : WB g A s.heap H locs (J, L, (hv (hv (hv (hv I [] [(6, 6), (6, 7)] Kl1) [] [(6, 6), (6, 7)] Kl4) [] [(6, 6), (6, 7)] Kl7) [] [(6, 7)] u11), P, E, N) (sgX g ++ dy) := hW
                    have hR0 := hf11_0
                    have hR1 := hf11_1
                    have hR2 := hf11_2
                    obtain ⟨x12, e12⟩ : ∃ y : Int32, y = m4 + 1 := ⟨_, rfl⟩
                    refine lv_iinc (v := x12) (lv' := [(4, .int x12), (0, .ref (g.2.2.1 4)), (1, .int a0), (2, .int a1), (3, .int a2)]) hx hb dX3_carry_131 hl (k := 0) rfl (by rw [e12]; rfl) (by decide) rfl (fun ls hl => ?_)
                    try have t12 : x12.toInt = m4.toInt + 1 := tadd e12 rfl kp1 (by omega)
                    refine lv_goto (tgt := 102) hx hb dX3_carry_134 (by decide) ?_
                    have hWl : WB g A s.heap H locs (J, L, (hv (hv (hv I [] [(6, 6), (6, 7)] Kl1) [] [(6, 6), (6, 7)] Kl4) [] [(6, 6), (6, 7)] (hv (hv (hv (hv I [] [(6, 6), (6, 7)] Kl1) [] [(6, 6), (6, 7)] Kl4) [] [(6, 6), (6, 7)] Kl7) [] [(6, 7)] u11)), P, E, N) (sgX g ++ dy) := by
                      rw [← ag_hvE (J := (hv (hv I [] [(6, 6), (6, 7)] Kl1) [] [(6, 6), (6, 7)] Kl4)) (R := []) (F := [(6, 6), (6, 7)]) (ag_hv rfl rfl (ag_hv rfl rfl ag_rf))]
                      exact hW
                    refine ih102 x12 (hv (hv (hv (hv I [] [(6, 6), (6, 7)] Kl1) [] [(6, 6), (6, 7)] Kl4) [] [(6, 6), (6, 7)] Kl7) [] [(6, 7)] u11) H locs ls ?_ ?_ ?_ ?_ hWl (lv_sub hl [0, 1, 2, 3, 4] rfl)
                    · show ((J 20 2).toInt - x12.toInt).toNat < n102
                      omega
                    · show 0 ≤ x12.toInt ∧ x12.toInt ≤ (J 20 2).toInt
                      first | omega | exact hi | assumption
                    · show SEV ((hv (hv (hv (hv I [] [(6, 6), (6, 7)] Kl1) [] [(6, 6), (6, 7)] Kl4) [] [(6, 6), (6, 7)] Kl7) [] [(6, 7)] u11) 6 6) (elt E P 20) (J 105) (J 106) (J 107) (J 20 2).toInt (J 21 2).toInt a2.toInt
                      exact hse
                    · show VLD ((hv (hv (hv (hv I [] [(6, 6), (6, 7)] Kl1) [] [(6, 6), (6, 7)] Kl4) [] [(6, 6), (6, 7)] Kl7) [] [(6, 7)] u11) 6 6) ((hv (hv (hv (hv I [] [(6, 6), (6, 7)] Kl1) [] [(6, 6), (6, 7)] Kl4) [] [(6, 6), (6, 7)] Kl7) [] [(6, 7)] u11) 6 7) (I 6 1) (I 6 3) (I 6 5) (elt E P 20) (J 101) a0 a1 x12.toInt
                      exact vld_s hvl hnt hij ho10 (by have h8 := tcl m4; omega) (by omega) (by omega) hR0 hR1 hR2
              -- into the loop
              have hWl : WB g A s.heap H locs (J, L, (hv (hv (hv I [] [(6, 6), (6, 7)] Kl1) [] [(6, 6), (6, 7)] Kl4) [] [(6, 6), (6, 7)] (hv (hv I [] [(6, 6), (6, 7)] Kl1) [] [(6, 6), (6, 7)] Kl4)), P, E, N) (sgX g ++ dy) := by
                rw [← ag_hvE (J := (hv (hv I [] [(6, 6), (6, 7)] Kl1) [] [(6, 6), (6, 7)] Kl4)) (R := []) (F := [(6, 6), (6, 7)]) ag_rf]
                exact hW
              refine loop102 (((J 20 2).toInt - (0 : Int32).toInt).toNat + 1) 0 (hv (hv I [] [(6, 6), (6, 7)] Kl1) [] [(6, 6), (6, 7)] Kl4) H locs ls ?_ ?_ ?_ ?_ hWl (lv_sub hl [0, 1, 2, 3, 4] rfl)
              · exact Nat.lt_succ_self _
              · show 0 ≤ (0 : Int32).toInt ∧ (0 : Int32).toInt ≤ (J 20 2).toInt
                try rw [kp0]
                first | omega | exact hi | assumption
              · show SEV ((hv (hv I [] [(6, 6), (6, 7)] Kl1) [] [(6, 6), (6, 7)] Kl4) 6 6) (elt E P 20) (J 105) (J 106) (J 107) (J 20 2).toInt (J 21 2).toInt a2.toInt
                try rw [kp0]
                (have e9 : m4.toInt = (J 21 2).toInt := (by omega); rw [← e9]; exact hse)
              · show VLD ((hv (hv I [] [(6, 6), (6, 7)] Kl1) [] [(6, 6), (6, 7)] Kl4) 6 6) ((hv (hv I [] [(6, 6), (6, 7)] Kl1) [] [(6, 6), (6, 7)] Kl4) 6 7) (I 6 1) (I 6 3) (I 6 5) (elt E P 20) (J 101) a0 a1 (0 : Int32).toInt
                try rw [kp0]
                exact vld_0 (by first | rfl | exact kp0)
            · have c6 : m4.toInt < (J 21 2).toInt := tnle rfl rfl c6
              refine lv_aload_n hx hb dX3_carry_52 rfl (lv_at hl 1 rfl) ?_
              refine rg_4_1 C hW (mx_ rfl) tw_234 dX3_carry_53 ?_
              refine lv_iload hx hb dX3_carry_56 (lv_at hl 0 rfl) ?_
              refine cq_ C hW (runV (x := (g.2.2.1 21)) (As := [.int m4]) (rest := []) (T := ((J, L, (hv (hv I [] [(6, 6), (6, 7)] Kl1) [] [(6, 6), (6, 7)] Kl4), P, E, N), sgX g ++ dy)) C hW ((c_Jx4a65c_get_915e3 1) l g J L (hv (hv I [] [(6, 6), (6, 7)] Kl1) [] [(6, 6), (6, 7)] Kl4) P E N dy H.size 21 rfl m4 (show LWF g J P E N dy 21 1 from hwf.1.2.1) (show 0 ≤ m4.toInt ∧ m4.toInt < (J 21 2).toInt from by omega)) mi_Jx4a65c_get_915e3 tw_471 (recv_ (T := ((J, L, (hv (hv I [] [(6, 6), (6, 7)] Kl1) [] [(6, 6), (6, 7)] Kl4), P, E, N), sgX g ++ dy)) C hW (mx_ rfl) (cel_list rfl) rfl) ⟨rfl, rfl, Nat.le_of_ble_eq_true rfl, Nat.le_of_ble_eq_true rfl⟩ rfl hl.1 rfl (Nat.le_of_ble_eq_true rfl) dX3_carry_58 ⟨Nat.le_of_ble_eq_true rfl, Nat.le_of_ble_eq_true rfl⟩) (fun q13 u13 H locs hp13 hW => ?_)
              have hq13 : (q13 = some (elt E P 21 m4.toNatClampNeg)) := hp13
              clear hp13
              have hW : WB g A s.heap H locs (J, L, (hv (hv I [] [(6, 6), (6, 7)] Kl1) [] [(6, 6), (6, 7)] Kl4), P, E, N) (sgX g ++ dy) := hW
              subst hq13
              obtain ⟨o13, ho13⟩ : ∃ z : Nat, z = elt E P 21 m4.toNatClampNeg := ⟨_, rfl⟩
              have hm13 : (1, o13) ∈ dy := by rw [ho13]; exact (lw_mem (er := 1) hwf.1.2.1 (show (m4.toNatClampNeg : Int) < (J 21 2).toInt from by have := tcl m4; omega))
              refine lv_asv (v' := .ref o13) (by rw [ho13]; rfl) ?_
              refine g_cast C hW (List.mem_append_right _ hm13) rfl rfl tw_531 dX3_carry_61 ?_
              refine lv_astore (lv' := [(5, .ref o13), (4, .int m4), (0, .ref (g.2.2.1 4)), (1, .int a0), (2, .int a1), (3, .int a2)]) hx hb dX3_carry_64 hl (by decide) rfl (fun ls hl => ?_)
              have hcj := hcu m4.toNatClampNeg (by have h8 := tcl m4; omega)
              rw [← ho13] at hcj
              obtain ⟨hcb, hc0, hcn, hcf, hct, hcf0⟩ := hcj
              have hcf9 := congrArg Int32.toInt hcf
              have hct9 := congrArg Int32.toInt hct
              refine lv_aload hx hb dX3_carry_66 (lv_at hl 0 rfl) ?_
              refine rg_1_1 C hW (List.mem_append_right _ hm13) tw_510 dX3_carry_68 ?_
              refine lv_topi (fun x14 (e14 : x14 = I 1 1 o13) => ?_)
              have t14 : x14.toInt = (I 1 1 o13).toInt := by rw [e14]
              refine lv_iload_n hx hb dX3_carry_71 rfl (lv_at hl 5 rfl) ?_
              refine lv_icmp_gt (tgt := 93) hx hb dX3_carry_72 (by decide) (fun c15 => ?_) (fun c15 => ?_)
              · have c15 : a2.toInt < x14.toInt := tlt rfl rfl c15
                obtain ⟨x16, e16⟩ : ∃ y : Int32, y = m4 + 1 := ⟨_, rfl⟩
                refine lv_iinc (v := x16) (lv' := [(4, .int x16), (5, .ref o13), (0, .ref (g.2.2.1 4)), (1, .int a0), (2, .int a1), (3, .int a2)]) hx hb dX3_carry_93 hl (k := 1) rfl (by rw [e16]; rfl) (by decide) rfl (fun ls hl => ?_)
                try have t16 : x16.toInt = m4.toInt + 1 := tadd e16 rfl kp1 (by omega)
                refine lv_goto (tgt := 40) hx hb dX3_carry_96 (by decide) ?_
                have hWl : WB g A s.heap H locs (J, L, (hv (hv I [] [(6, 6), (6, 7)] Kl1) [] [(6, 6), (6, 7)] (hv (hv I [] [(6, 6), (6, 7)] Kl1) [] [(6, 6), (6, 7)] Kl4)), P, E, N) (sgX g ++ dy) := by
                  rw [← ag_hvE (J := (hv I [] [(6, 6), (6, 7)] Kl1)) (R := []) (F := [(6, 6), (6, 7)]) (ag_hv rfl rfl ag_rf)]
                  exact hW
                refine ih40 x16 (hv (hv I [] [(6, 6), (6, 7)] Kl1) [] [(6, 6), (6, 7)] Kl4) H locs ls ?_ ?_ ?_ hWl (lv_sub hl [0, 2, 3, 4, 5] rfl)
                · show ((J 21 2).toInt - x16.toInt).toNat < n40
                  omega
                · show 0 ≤ x16.toInt ∧ x16.toInt ≤ (J 21 2).toInt
                  first | omega | exact hi | assumption
                · show SEV ((hv (hv I [] [(6, 6), (6, 7)] Kl1) [] [(6, 6), (6, 7)] Kl4) 6 6) (elt E P 20) (J 105) (J 106) (J 107) (J 20 2).toInt x16.toInt a2.toInt
                  exact sev_skip (c := m4.toNatClampNeg) hse (by have h8 := tcl m4; omega) (by omega) (by omega)
              · have c15 : x14.toInt ≤ a2.toInt := tnlt rfl rfl c15
                refine lv_iload_n hx hb dX3_carry_75 rfl (lv_at hl 5 rfl) ?_
                refine lv_aload hx hb dX3_carry_76 (lv_at hl 0 rfl) ?_
                refine rg_1_2 C hW (List.mem_append_right _ hm13) tw_512 dX3_carry_78 ?_
                refine lv_topi (fun x17 (e17 : x17 = I 1 2 o13) => ?_)
                have t17 : x17.toInt = (I 1 2 o13).toInt := by rw [e17]
                refine lv_icmp_gt (tgt := 93) hx hb dX3_carry_81 (by decide) (fun c18 => ?_) (fun c18 => ?_)
                · have c18 : x17.toInt < a2.toInt := tlt rfl rfl c18
                  obtain ⟨x19, e19⟩ : ∃ y : Int32, y = m4 + 1 := ⟨_, rfl⟩
                  refine lv_iinc (v := x19) (lv' := [(4, .int x19), (5, .ref o13), (0, .ref (g.2.2.1 4)), (1, .int a0), (2, .int a1), (3, .int a2)]) hx hb dX3_carry_93 hl (k := 1) rfl (by rw [e19]; rfl) (by decide) rfl (fun ls hl => ?_)
                  try have t19 : x19.toInt = m4.toInt + 1 := tadd e19 rfl kp1 (by omega)
                  refine lv_goto (tgt := 40) hx hb dX3_carry_96 (by decide) ?_
                  have hWl : WB g A s.heap H locs (J, L, (hv (hv I [] [(6, 6), (6, 7)] Kl1) [] [(6, 6), (6, 7)] (hv (hv I [] [(6, 6), (6, 7)] Kl1) [] [(6, 6), (6, 7)] Kl4)), P, E, N) (sgX g ++ dy) := by
                    rw [← ag_hvE (J := (hv I [] [(6, 6), (6, 7)] Kl1)) (R := []) (F := [(6, 6), (6, 7)]) (ag_hv rfl rfl ag_rf)]
                    exact hW
                  refine ih40 x19 (hv (hv I [] [(6, 6), (6, 7)] Kl1) [] [(6, 6), (6, 7)] Kl4) H locs ls ?_ ?_ ?_ hWl (lv_sub hl [0, 2, 3, 4, 5] rfl)
                  · show ((J 21 2).toInt - x19.toInt).toNat < n40
                    omega
                  · show 0 ≤ x19.toInt ∧ x19.toInt ≤ (J 21 2).toInt
                    first | omega | exact hi | assumption
                  · show SEV ((hv (hv I [] [(6, 6), (6, 7)] Kl1) [] [(6, 6), (6, 7)] Kl4) 6 6) (elt E P 20) (J 105) (J 106) (J 107) (J 20 2).toInt x19.toInt a2.toInt
                    exact sev_skip (c := m4.toNatClampNeg) hse (by have h8 := tcl m4; omega) (by omega) (by omega)
                · have c18 : a2.toInt ≤ x17.toInt := tnlt rfl rfl c18
                  refine lv_aload hx hb dX3_carry_84 (lv_at hl 0 rfl) ?_
                  refine rg_1_0 C hW (List.mem_append_right _ hm13) tw_508 dX3_carry_86 ?_
                  obtain ⟨b20, hb20, hbm20⟩ := hwf.2.2.2.1 o13 hm13
                  refine lv_asv (v' := .ref b20) (by show va_rf (P 1 0 o13) = _; rw [hb20]; rfl) ?_
                  refine lv_iconst (v := 1) hx hb dX3_carry_89 (by decide) ?_
                  refine rp_6_6 C hW (List.mem_append_right _ hbm20) tw_149 (by decide) dX3_carry_90 (fun H locs hW => ?_)
                  obtain ⟨x21, e21⟩ : ∃ y : Int32, y = m4 + 1 := ⟨_, rfl⟩
                  refine lv_iinc (v := x21) (lv' := [(4, .int x21), (5, .ref o13), (0, .ref (g.2.2.1 4)), (1, .int a0), (2, .int a1), (3, .int a2)]) hx hb dX3_carry_93 hl (k := 1) rfl (by rw [e21]; rfl) (by decide) rfl (fun ls hl => ?_)
                  try have t21 : x21.toInt = m4.toInt + 1 := tadd e21 rfl kp1 (by omega)
                  refine lv_goto (tgt := 40) hx hb dX3_carry_96 (by decide) ?_
                  have hWl : WB g A s.heap H locs (J, L, (hv (hv I [] [(6, 6), (6, 7)] Kl1) [] [(6, 6), (6, 7)] (up3 (hv (hv I [] [(6, 6), (6, 7)] Kl1) [] [(6, 6), (6, 7)] Kl4) 6 6 b20 1)), P, E, N) (sgX g ++ dy) := by
                    rw [← ag_hvE (J := (hv I [] [(6, 6), (6, 7)] Kl1)) (R := []) (F := [(6, 6), (6, 7)]) (ag_up3 (Or.inr rfl) (ag_hv rfl rfl ag_rf))]
                    exact hW
                  refine ih40 x21 (up3 (hv (hv I [] [(6, 6), (6, 7)] Kl1) [] [(6, 6), (6, 7)] Kl4) 6 6 b20 1) H locs ls ?_ ?_ ?_ hWl (lv_sub hl [0, 2, 3, 4, 5] rfl)
                  · show ((J 21 2).toInt - x21.toInt).toNat < n40
                    omega
                  · show 0 ≤ x21.toInt ∧ x21.toInt ≤ (J 21 2).toInt
                    first | omega | exact hi | assumption
                  · show SEV ((up3 (hv (hv I [] [(6, 6), (6, 7)] Kl1) [] [(6, 6), (6, 7)] Kl4) 6 6 b20 1) 6 6) (elt E P 20) (J 105) (J 106) (J 107) (J 20 2).toInt x21.toInt a2.toInt
                    exact sev_hit (c := m4.toNatClampNeg) hse hij (by have h8 := tcl m4; omega) (by omega) (by omega) (by omega) (Option.some.inj (hb20.symm.trans hcb)) hc0 hcn (fun b9 hb9 => up3_a _ _ _ _ hb9 _ _) (up3_s _ _ _ _ _)
        -- into the loop
        have hWl : WB g A s.heap H locs (J, L, (hv (hv I [] [(6, 6), (6, 7)] Kl1) [] [(6, 6), (6, 7)] (hv I [] [(6, 6), (6, 7)] Kl1)), P, E, N) (sgX g ++ dy) := by
          rw [← ag_hvE (J := (hv I [] [(6, 6), (6, 7)] Kl1)) (R := []) (F := [(6, 6), (6, 7)]) ag_rf]
          exact hW
        refine loop40 (((J 21 2).toInt - (0 : Int32).toInt).toNat + 1) 0 (hv I [] [(6, 6), (6, 7)] Kl1) H locs ls ?_ ?_ ?_ hWl (lv_sub hl [0, 1, 2, 3, 4] rfl)
        · exact Nat.lt_succ_self _
        · show 0 ≤ (0 : Int32).toInt ∧ (0 : Int32).toInt ≤ (J 21 2).toInt
          try rw [kp0]
          first | omega | exact hi | assumption
        · show SEV ((hv I [] [(6, 6), (6, 7)] Kl1) 6 6) (elt E P 20) (J 105) (J 106) (J 107) (J 20 2).toInt (0 : Int32).toInt a2.toInt
          try rw [kp0]
          exact sev_0 (fun k hk => hzs k (by omega)) rfl
      · have c3 : m4.toInt < (J 20 2).toInt := tnle rfl rfl c3
        refine lv_aload_n hx hb dX3_carry_15 rfl (lv_at hl 1 rfl) ?_
        refine rg_4_0 C hW (mx_ rfl) tw_232 dX3_carry_16 ?_
        refine lv_iload hx hb dX3_carry_19 (lv_at hl 0 rfl) ?_
        refine cq_ C hW (runV (x := (g.2.2.1 20)) (As := [.int m4]) (rest := []) (T := ((J, L, (hv I [] [(6, 6), (6, 7)] Kl1), P, E, N), sgX g ++ dy)) C hW ((c_Jx4a65c_get_915e3 6) l g J L (hv I [] [(6, 6), (6, 7)] Kl1) P E N dy H.size 20 rfl m4 (show LWF g J P E N dy 20 6 from hwf.1.1) (show 0 ≤ m4.toInt ∧ m4.toInt < (J 20 2).toInt from by omega)) mi_Jx4a65c_get_915e3 tw_471 (recv_ (T := ((J, L, (hv I [] [(6, 6), (6, 7)] Kl1), P, E, N), sgX g ++ dy)) C hW (mx_ rfl) (cel_list rfl) rfl) ⟨rfl, rfl, Nat.le_of_ble_eq_true rfl, Nat.le_of_ble_eq_true rfl⟩ rfl hl.1 rfl (Nat.le_of_ble_eq_true rfl) dX3_carry_21 ⟨Nat.le_of_ble_eq_true rfl, Nat.le_of_ble_eq_true rfl⟩) (fun q22 u22 H locs hp22 hW => ?_)
        have hq22 : (q22 = some (elt E P 20 m4.toNatClampNeg)) := hp22
        clear hp22
        have hW : WB g A s.heap H locs (J, L, (hv I [] [(6, 6), (6, 7)] Kl1), P, E, N) (sgX g ++ dy) := hW
        subst hq22
        obtain ⟨o22, ho22⟩ : ∃ z : Nat, z = elt E P 20 m4.toNatClampNeg := ⟨_, rfl⟩
        have hm22 : (6, o22) ∈ dy := by rw [ho22]; exact (lw_mem (er := 6) hwf.1.1 (show (m4.toNatClampNeg : Int) < (J 20 2).toInt from by have := tcl m4; omega))
        refine lv_asv (v' := .ref o22) (by rw [ho22]; rfl) ?_
        refine g_cast C hW (List.mem_append_right _ hm22) rfl rfl tw_131 dX3_carry_24 ?_
        refine lv_iconst (v := 0) hx hb dX3_carry_27 (by decide) ?_
        refine rp_6_6 C hW (List.mem_append_right _ hm22) tw_149 (by decide) dX3_carry_28 (fun H locs hW => ?_)
        obtain ⟨x23, e23⟩ : ∃ y : Int32, y = m4 + 1 := ⟨_, rfl⟩
        refine lv_iinc (v := x23) (lv' := [(4, .int x23), (0, .ref (g.2.2.1 4)), (1, .int a0), (2, .int a1), (3, .int a2)]) hx hb dX3_carry_31 hl (k := 0) rfl (by rw [e23]; rfl) (by decide) rfl (fun ls hl => ?_)
        try have t23 : x23.toInt = m4.toInt + 1 := tadd e23 rfl kp1 (by omega)
        refine lv_goto (tgt := 3) hx hb dX3_carry_34 (by decide) ?_
        have hWl : WB g A s.heap H locs (J, L, (hv I [] [(6, 6), (6, 7)] (up3 (hv I [] [(6, 6), (6, 7)] Kl1) 6 6 o22 0)), P, E, N) (sgX g ++ dy) := by
          rw [← ag_hvE (J := I) (R := []) (F := [(6, 6), (6, 7)]) (ag_up3 (Or.inr rfl) (ag_hv rfl rfl ag_rf))]
          exact hW
        refine ih x23 (up3 (hv I [] [(6, 6), (6, 7)] Kl1) 6 6 o22 0) H locs ls ?_ ?_ ?_ hWl (lv_sub hl [0, 1, 2, 3, 4] rfl)
        · show ((J 20 2).toInt - x23.toInt).toNat < n
          omega
        · show 0 ≤ x23.toInt ∧ x23.toInt ≤ (J 20 2).toInt
          first | omega | exact hi | assumption
        · show ∀ k : Nat, (k : Int) < x23.toInt → ((up3 (hv I [] [(6, 6), (6, 7)] Kl1) 6 6 o22 0) 6 6 (elt E P 20 k)).toInt = 0
          exact zsv_s hzs (fun b9 hb9 => up3_a _ _ _ _ hb9 _ _) (up3_s _ _ _ _ _) ho22 (by have h8 := tcl m4; omega) (by omega)
  -- into the loop
  have hWl : WB g A s.heap H locs (J, L, (hv I [] [(6, 6), (6, 7)] I), P, E, N) (sgX g ++ dy) := by
    rw [← ag_hvE (J := I) (R := []) (F := [(6, 6), (6, 7)]) ag_rf]
    exact hW
  refine loop3 (((J 20 2).toInt - (0 : Int32).toInt).toNat + 1) 0 I H locs ls ?_ ?_ ?_ hWl (lv_sub hl [0, 1, 2, 3, 4] rfl)
  · exact Nat.lt_succ_self _
  · show 0 ≤ (0 : Int32).toInt ∧ (0 : Int32).toInt ≤ (J 20 2).toInt
    try rw [kp0]
    first | omega | exact hi | assumption
  · show ∀ k : Nat, (k : Int) < (0 : Int32).toInt → (I 6 6 (elt E P 20 k)).toInt = 0
    try rw [kp0]
    intro k hk; omega

set_option maxHeartbeats 4000000 in
set_option maxRecDepth 100000 in
theorem c_X1_isReached_e (l : Launch) (g : gG) (J : Nat → Nat → Int32) (L : Nat → Nat → Int64) (I : Nat → Nat → Nat → Int32) (P : Nat → Nat → Nat → Option Nat) (E : Nat → Option Nat) (N : Nat → Nat) (dy : List (Nat × Nat)) (sz : Nat) (o : Nat) (hmo : (2, o) ∈ dy) (a0 : Int32) (hwf : WXF g J P E N dy) : Met l yX1_isReached (WS yX1_isReached cX1_isReached 2 (some .boolean)) (RM (1) 0 0) (PC g [.ref o, .int a0] ((J, L, I, P, E, N), sgX g ++ dy) sz) (va_Qi (fun (r : Int32) (u : Unit) => (∀ b : Nat, P 2 0 o = some b → ((r.toInt : Int) = 1 ∧ (a0 * I 2 1 o).toInt ≤ (I 6 7 b).toInt) ∨ ((r.toInt : Int) = 0 ∧ (I 6 7 b).toInt < (a0 * I 2 1 o).toInt))) (fun u t => at_ g (FR g ((J, L, I, P, E, N), sgX g ++ dy) sz) ((J, L, I, P, E, N), sgX g ++ dy) t) (FR g ((J, L, I, P, E, N), sgX g ++ dy) sz)) 0 0 (FR g ((J, L, I, P, E, N), sgX g ++ dy) sz) := by
  refine ent (by decide +kernel) (Nat.le_of_ble_eq_true rfl) ?_
  intro p e s m below meth c ls hsz C hW hr hlocks hname hl
  generalize FR g ((J, L, I, P, E, N), sgX g ++ dy) sz = A at C hW ⊢
  generalize hQ9 : (va_Qi (fun (r : Int32) (u : Unit) => (∀ b : Nat, P 2 0 o = some b → ((r.toInt : Int) = 1 ∧ (a0 * I 2 1 o).toInt ≤ (I 6 7 b).toInt) ∨ ((r.toInt : Int) = 0 ∧ (I 6 7 b).toInt < (a0 * I 2 1 o).toInt))) (fun u t => at_ g A ((J, L, I, P, E, N), sgX g ++ dy) t) A) = Q9
  have hx := C.1.1
  have hb := C.1.2.1
  have hts := C.1.2.2.2.2
  have hl : lv_has ls 2 [(0, .ref o), (1, .int a0)] := hl
  obtain ⟨H, hH⟩ : ∃ H : Heap, H = s.heap := ⟨_, rfl⟩
  obtain ⟨locs, hlocs⟩ : ∃ q : List Loc, q = [] := ⟨_, rfl⟩
  have hW : WB g A s.heap H locs (J, L, I, P, E, N) (sgX g ++ dy) := by rw [hH, hlocs]; exact hW
  refine start_ hH hlocs ?_
  refine lv_aload_n hx hb dX1_isReached_0 rfl (lv_at hl 0 rfl) ?_
  refine rg_2_0 C hW (List.mem_append_right _ hmo) tw_548 dX1_isReached_1 ?_
  obtain ⟨b1, hb1, hbm1⟩ := hwf.2.2.2.2.1 o hmo
  refine lv_asv (v' := .ref b1) (by show va_rf (P 2 0 o) = _; rw [hb1]; rfl) ?_
  refine rg_6_7 C hW (List.mem_append_right _ hbm1) tw_150 dX1_isReached_4 ?_
  refine lv_topi (fun x2 (e2 : x2 = I 6 7 b1) => ?_)
  have t2 : x2.toInt = (I 6 7 b1).toInt := by rw [e2]
  refine lv_iload_n hx hb dX1_isReached_7 rfl (lv_at hl 1 rfl) ?_
  refine lv_aload_n hx hb dX1_isReached_8 rfl (lv_at hl 0 rfl) ?_
  refine rg_2_1 C hW (List.mem_append_right _ hmo) tw_550 dX1_isReached_9 ?_
  refine lv_topi (fun x3 (e3 : x3 = I 2 1 o) => ?_)
  have t3 : x3.toInt = (I 2 1 o).toInt := by rw [e3]
  refine lv_imul hx hb dX1_isReached_12 ?_
  refine lv_topi (fun x4 (e4 : x4 = a0 * x3) => ?_)
  refine lv_icmp_lt (tgt := 20) hx hb dX1_isReached_13 (by decide) (fun c5 => ?_) (fun c5 => ?_)
  · have c5 : x2.toInt < x4.toInt := tlt rfl rfl c5
    refine lv_iconst (v := 0) hx hb dX1_isReached_20 (by decide) ?_
    subst hQ9
    exact end_z C hr hlocks (by decide) () hW (show ∀ b : Nat, P 2 0 o = some b → ((0 : Int) = 1 ∧ (a0 * I 2 1 o).toInt ≤ (I 6 7 b).toInt) ∨ ((0 : Int) = 0 ∧ (I 6 7 b).toInt < (a0 * I 2 1 o).toInt) from by (intro b h9; rw [hb1] at h9; cases h9; have hm9 : x4.toInt = (a0 * I 2 1 o).toInt := (by rw [e4, e3]); omega)) dX1_isReached_21
  · have c5 : x4.toInt ≤ x2.toInt := tnlt rfl rfl c5
    refine lv_iconst (v := 1) hx hb dX1_isReached_16 (by decide) ?_
    refine lv_goto (tgt := 21) hx hb dX1_isReached_17 (by decide) ?_
    subst hQ9
    exact end_z C hr hlocks (by decide) () hW (show ∀ b : Nat, P 2 0 o = some b → ((1 : Int) = 1 ∧ (a0 * I 2 1 o).toInt ≤ (I 6 7 b).toInt) ∨ ((1 : Int) = 0 ∧ (I 6 7 b).toInt < (a0 * I 2 1 o).toInt) from by (intro b h9; rw [hb1] at h9; cases h9; have hm9 : x4.toInt = (a0 * I 2 1 o).toInt := (by rw [e4, e3]); omega)) dX1_isReached_21

set_option maxHeartbeats 4000000 in
set_option maxRecDepth 100000 in
theorem c_X11_loud_e (l : Launch) (g : gG) (J : Nat → Nat → Int32) (L : Nat → Nat → Int64) (I : Nat → Nat → Nat → Int32) (P : Nat → Nat → Nat → Option Nat) (E : Nat → Option Nat) (N : Nat → Nat) (dy : List (Nat × Nat)) (sz : Nat) (a0 : Int32) (a1 : Int32) (hwf : WXF g J P E N dy) (hnt : NTR (P 6 0) (elt E P 20) (J 101) (J 20 2).toInt) (hij : INJ E P 20 (J 20 2).toInt) (hcu : CUR (P 1 0) (I 1 1) (I 1 2) (elt E P 21) (elt E P 20) (J 105) (J 106) (J 107) (J 21 2).toInt (J 20 2).toInt) : Met l yX11_loud (WS yX11_loud cX11_loud 5 (some .int)) (RM (5) 0 0) (PC g [.ref (g.2.2.1 12), .int a0, .int a1] ((J, L, I, P, E, N), sgX g ++ dy) sz) (va_Qi (fun (r : Int32) (u : (Nat → Nat → Int32) × (Nat → Nat → Nat → Int32)) => ((r.toInt = (-1) ∧ (¬ (0 ≤ a0.toInt ∧ a0.toInt < (J 20 2).toInt))) ∨ (r.toInt = (-4) ∧ (0 ≤ a0.toInt ∧ a0.toInt < (J 20 2).toInt ∧ a1.toInt < 1)) ∨ (r.toInt = (-6) ∧ (0 ≤ a0.toInt ∧ a0.toInt < (J 20 2).toInt ∧ 1 ≤ a1.toInt ∧ 999 < a1.toInt)) ∨ (r = r ∧ (0 ≤ a0.toInt ∧ a0.toInt < (J 20 2).toInt ∧ 1 ≤ a1.toInt ∧ a1.toInt ≤ 999) ∧ (∃ x : Nat → Int32, SND x (J 101) (fun k => I 6 1 (elt E P 20 k)) (fun k => I 6 3 (elt E P 20 k)) (fun k => I 6 5 (elt E P 20 k)) (CUTP (J 105) (J 106) (J 107) (J 21 2).toInt (J 3 1).toInt) a1 (J 4 4) (J 20 2).toInt ∧ r = x a0.toNatClampNeg)))) (fun u t => at_ g (FR g ((J, L, I, P, E, N), sgX g ++ dy) sz) (((hv J [42] [] u.1), L, (hv I [] [(6, 6), (6, 7)] u.2), P, E, N), sgX g ++ dy) t) (FR g ((J, L, I, P, E, N), sgX g ++ dy) sz)) 0 0 (FR g ((J, L, I, P, E, N), sgX g ++ dy) sz) := by
  refine ent (by decide +kernel) (Nat.le_of_ble_eq_true rfl) ?_
  intro p e s m below meth c ls hsz C hW hr hlocks hname hl
  generalize FR g ((J, L, I, P, E, N), sgX g ++ dy) sz = A at C hW ⊢
  generalize hQ9 : (va_Qi (fun (r : Int32) (u : (Nat → Nat → Int32) × (Nat → Nat → Nat → Int32)) => ((r.toInt = (-1) ∧ (¬ (0 ≤ a0.toInt ∧ a0.toInt < (J 20 2).toInt))) ∨ (r.toInt = (-4) ∧ (0 ≤ a0.toInt ∧ a0.toInt < (J 20 2).toInt ∧ a1.toInt < 1)) ∨ (r.toInt = (-6) ∧ (0 ≤ a0.toInt ∧ a0.toInt < (J 20 2).toInt ∧ 1 ≤ a1.toInt ∧ 999 < a1.toInt)) ∨ (r = r ∧ (0 ≤ a0.toInt ∧ a0.toInt < (J 20 2).toInt ∧ 1 ≤ a1.toInt ∧ a1.toInt ≤ 999) ∧ (∃ x : Nat → Int32, SND x (J 101) (fun k => I 6 1 (elt E P 20 k)) (fun k => I 6 3 (elt E P 20 k)) (fun k => I 6 5 (elt E P 20 k)) (CUTP (J 105) (J 106) (J 107) (J 21 2).toInt (J 3 1).toInt) a1 (J 4 4) (J 20 2).toInt ∧ r = x a0.toNatClampNeg)))) (fun u t => at_ g A (((hv J [42] [] u.1), L, (hv I [] [(6, 6), (6, 7)] u.2), P, E, N), sgX g ++ dy) t) A) = Q9
  have hx := C.1.1
  have hb := C.1.2.1
  have hts := C.1.2.2.2.2
  have hl : lv_has ls 5 [(0, .ref (g.2.2.1 12)), (1, .int a0), (2, .int a1)] := hl
  obtain ⟨H, hH⟩ : ∃ H : Heap, H = s.heap := ⟨_, rfl⟩
  obtain ⟨locs, hlocs⟩ : ∃ q : List Loc, q = [] := ⟨_, rfl⟩
  have hW : WB g A s.heap H locs (J, L, I, P, E, N) (sgX g ++ dy) := by rw [hH, hlocs]; exact hW
  refine start_ hH hlocs ?_
  refine lv_aload_n hx hb dX11_loud_0 rfl (lv_at hl 0 rfl) ?_
  refine rg_12_0 C hW (mx_ rfl) tw_364 dX11_loud_1 ?_
  refine lv_iload_n hx hb dX11_loud_4 rfl (lv_at hl 1 rfl) ?_
  refine cq_ C hW (runV (x := (g.2.2.1 4)) (As := [.int a0]) (rest := []) (T := ((J, L, I, P, E, N), sgX g ++ dy)) C hW (c_X3_nodeOf l g J L I P E N dy H.size a0 hwf) mi_X3_nodeOf tw_463 (recv_ (T := ((J, L, I, P, E, N), sgX g ++ dy)) C hW (mx_ rfl) rfl rfl) ⟨rfl, rfl, Nat.le_of_ble_eq_true rfl, Nat.le_of_ble_eq_true rfl⟩ rfl hl.1 rfl (Nat.le_of_ble_eq_true rfl) dX11_loud_5 ⟨Nat.le_of_ble_eq_true rfl, Nat.le_of_ble_eq_true rfl⟩) (fun q1 u1 H locs hp1 hW => ?_)
  have hq1 : ((q1 = none ∧ (¬ (0 ≤ a0.toInt ∧ a0.toInt < (J 20 2).toInt))) ∨ (q1 = some (elt E P 20 a0.toNatClampNeg) ∧ (0 ≤ a0.toInt ∧ a0.toInt < (J 20 2).toInt))) := hp1
  clear hp1
  have hW : WB g A s.heap H locs (J, L, I, P, E, N) (sgX g ++ dy) := hW
  rcases hq1 with ⟨rfl, hn1⟩ | ⟨rfl, hs1⟩
  · refine lv_asv (v' := .null) rfl ?_
    refine lv_astore_nN (lv' := [(3, .null), (0, .ref (g.2.2.1 12)), (1, .int a0), (2, .int a1)]) hx hb dX11_loud_8 rfl hl (by decide) rfl (fun ls hl => ?_)
    refine lv_aload_nN hx hb dX11_loud_9 rfl (lv_at hl 0 rfl) ?_
    refine lv_ifnonnullN hx hb dX11_loud_10 ?_
    refine lv_aload_n hx hb dX11_loud_13 rfl (lv_at hl 1 rfl) ?_
    refine lv_iconst (v := (-1)) hx hb dX11_loud_14 (by decide) ?_
    refine ci_ C hW (runV (x := (g.2.2.1 12)) (As := [.int (-1)]) (rest := []) (T := ((J, L, I, P, E, N), sgX g ++ dy)) C hW (c_X11_refuse l g J L I P E N dy H.size (-1) hwf) mi_X11_refuse tw_411 (recv_ (T := ((J, L, I, P, E, N), sgX g ++ dy)) C hW (mx_ rfl) rfl rfl) ⟨rfl, rfl, Nat.le_of_ble_eq_true rfl, Nat.le_of_ble_eq_true rfl⟩ rfl hl.1 rfl (Nat.le_of_ble_eq_true rfl) dX11_loud_15 ⟨Nat.le_of_ble_eq_true rfl, Nat.le_of_ble_eq_true rfl⟩) (fun r2 u2 H locs hp2 hW => ?_)
    have hc2 : ((r2 = (-1))) := hp2
    clear hp2
    have hr2 : r2.toInt = (-1) := by rw [hc2]; exact kn1
    have hW : WB g A s.heap H locs ((hv J [42] [] u2), L, I, P, E, N) (sgX g ++ dy) := hW
    have hWr : WB g A s.heap H locs ((hv J [42] [] (hv J [42] [] u2)), L, (hv I [] [(6, 6), (6, 7)] I), P, E, N) (sgX g ++ dy) := by
      rw [← ag_hvE (J := J) (R := [42]) (F := []) (ag_hv rfl rfl ag_rf)]
      rw [← ag_hvE (J := I) (R := []) (F := [(6, 6), (6, 7)]) ag_rf]
      exact hW
    subst hQ9
    exact end_i C hr hlocks ((hv J [42] [] u2), I) hWr (by first | exact Or.inl ⟨by omega, by omega⟩ | exact Or.inr (Or.inl ⟨by omega, by omega⟩) | exact Or.inr (Or.inr (Or.inl ⟨by omega, by omega⟩)) | exact Or.inr (Or.inr (Or.inr (⟨by first | rfl | assumption, by omega, show (∃ x : Nat → Int32, SND x (J 101) (fun k => I 6 1 (elt E P 20 k)) (fun k => I 6 3 (elt E P 20 k)) (fun k => I 6 5 (elt E P 20 k)) (CUTP (J 105) (J 106) (J 107) (J 21 2).toInt (J 3 1).toInt) a1 (J 4 4) (J 20 2).toInt ∧ r2 = x a0.toNatClampNeg) from (by omega)⟩)))) dX11_loud_18
  · skip
    obtain ⟨o1, ho1⟩ : ∃ z : Nat, z = elt E P 20 a0.toNatClampNeg := ⟨_, rfl⟩
    have hm1 : (6, o1) ∈ dy := by rw [ho1]; exact (lw_mem (er := 6) hwf.1.1 (show (a0.toNatClampNeg : Int) < (J 20 2).toInt from by have := tcl a0; omega))
    refine lv_asv (v' := .ref o1) (by rw [ho1]; rfl) ?_
    refine lv_astore_n (lv' := [(3, .ref o1), (0, .ref (g.2.2.1 12)), (1, .int a0), (2, .int a1)]) hx hb dX11_loud_8 rfl hl (by decide) rfl (fun ls hl => ?_)
    refine lv_aload_n hx hb dX11_loud_9 rfl (lv_at hl 0 rfl) ?_
    refine lv_ifnonnull (tgt := 19) hx hb dX11_loud_10 (by decide) ?_
    refine lv_iload_n hx hb dX11_loud_19 rfl (lv_at hl 3 rfl) ?_
    refine ci_ C hW (runS (As := [.int a1]) (rest := []) (T := ((J, L, I, P, E, N), sgX g ++ dy)) C hW (c_X11_voiceRefusal l g J L I P E N dy H.size a1 ) mi_X11_voiceRefusal tw_524 ⟨rfl, rfl, Nat.le_of_ble_eq_true rfl, Nat.le_of_ble_eq_true rfl⟩ rfl hl.1 rfl (Nat.le_of_ble_eq_true rfl) dX11_loud_20 ⟨Nat.le_of_ble_eq_true rfl, Nat.le_of_ble_eq_true rfl⟩) (fun r3 u3 H locs hp3 hW => ?_)
    have hc3 : ((r3.toInt = (-4) ∧ (a1.toInt < 1)) ∨ (r3.toInt = (-6) ∧ (999 < a1.toInt)) ∨ (r3.toInt = 0 ∧ (1 ≤ a1.toInt ∧ a1.toInt ≤ 999))) := hp3
    clear hp3
    have hW : WB g A s.heap H locs (J, L, I, P, E, N) (sgX g ++ dy) := hW
    refine lv_istore (lv' := [(4, .int r3), (3, .ref o1), (0, .ref (g.2.2.1 12)), (1, .int a0), (2, .int a1)]) hx hb dX11_loud_23 hl (by decide) rfl (fun ls hl => ?_)
    refine lv_iload hx hb dX11_loud_25 (lv_at hl 0 rfl) ?_
    refine lv_if_eq (tgt := 37) hx hb dX11_loud_27 (by decide) (fun c4 => ?_) (fun c4 => ?_)
    · have c4 : r3.toInt = 0 := teq rfl kp0 c4
      refine lv_aload_n hx hb dX11_loud_37 rfl (lv_at hl 2 rfl) ?_
      refine rg_12_0 C hW (mx_ rfl) tw_364 dX11_loud_38 ?_
      refine lv_iload_n hx hb dX11_loud_41 rfl (lv_at hl 4 rfl) ?_
      refine lv_aload_n hx hb dX11_loud_42 rfl (lv_at hl 2 rfl) ?_
      refine rg_12_0 C hW (mx_ rfl) tw_364 dX11_loud_43 ?_
      refine rg_4_4 C hW (mx_ rfl) tw_240 dX11_loud_46 ?_
      refine lv_aload_n hx hb dX11_loud_49 rfl (lv_at hl 2 rfl) ?_
      refine rg_12_1 C hW (mx_ rfl) tw_365 dX11_loud_50 ?_
      refine rg_3_1 C hW (mx_ rfl) tw_278 dX11_loud_53 ?_
      refine cv_ C hW (runV (x := (g.2.2.1 4)) (As := [.int a1, .int (J 4 4), .int (J 3 1)]) (rest := []) (T := ((J, L, I, P, E, N), sgX g ++ dy)) C hW (c_X3_carry_e l g J L I P E N dy H.size a1 (J 4 4) (J 3 1) hwf (show NTR (P 6 0) (elt E P 20) (J 101) (J 20 2).toInt from hnt) (show INJ E P 20 (J 20 2).toInt from hij) (show CUR (P 1 0) (I 1 1) (I 1 2) (elt E P 21) (elt E P 20) (J 105) (J 106) (J 107) (J 21 2).toInt (J 20 2).toInt from hcu)) mi_X3_carry tw_527 (recv_ (T := ((J, L, I, P, E, N), sgX g ++ dy)) C hW (mx_ rfl) rfl rfl) ⟨rfl, rfl, Nat.le_of_ble_eq_true rfl, Nat.le_of_ble_eq_true rfl⟩ rfl hl.1 rfl (Nat.le_of_ble_eq_true rfl) dX11_loud_56 ⟨Nat.le_of_ble_eq_true rfl, Nat.le_of_ble_eq_true rfl⟩) (fun u5 H locs hp5 hW => ?_)
      have hf5_0 : (SND (fun k => u5 6 7 (elt E P 20 k)) (J 101) (fun k => I 6 1 (elt E P 20 k)) (fun k => I 6 3 (elt E P 20 k)) (fun k => I 6 5 (elt E P 20 k)) (CUTP (J 105) (J 106) (J 107) (J 21 2).toInt (J 3 1).toInt) a1 (J 4 4) (J 20 2).toInt) := hp5
      clear hp5
      have hW : WB g A s.heap H locs (J, L, (hv I [] [(6, 6), (6, 7)] u5), P, E, N) (sgX g ++ dy) := hW
      have hS := hf5_0
      refine lv_aload_n hx hb dX11_loud_59 rfl (lv_at hl 1 rfl) ?_
      refine rg_6_7 C hW (List.mem_append_right _ hm1) tw_152 dX11_loud_60 ?_
      refine lv_topi (fun x6 (e6 : x6 = u5 6 7 o1) => ?_)
      have t6 : x6.toInt = (u5 6 7 o1).toInt := by rw [e6]
      have hWr : WB g A s.heap H locs ((hv J [42] [] J), L, (hv I [] [(6, 6), (6, 7)] (hv I [] [(6, 6), (6, 7)] u5)), P, E, N) (sgX g ++ dy) := by
        rw [← ag_hvE (J := J) (R := [42]) (F := []) ag_rf]
        rw [← ag_hvE (J := I) (R := []) (F := [(6, 6), (6, 7)]) (ag_hv rfl rfl ag_rf)]
        exact hW
      subst hQ9
      exact end_i C hr hlocks (J, (hv I [] [(6, 6), (6, 7)] u5)) hWr (by first | exact Or.inl ⟨by omega, by omega⟩ | exact Or.inr (Or.inl ⟨by omega, by omega⟩) | exact Or.inr (Or.inr (Or.inl ⟨by omega, by omega⟩)) | exact Or.inr (Or.inr (Or.inr (⟨by first | rfl | assumption, by omega, show (∃ x : Nat → Int32, SND x (J 101) (fun k => I 6 1 (elt E P 20 k)) (fun k => I 6 3 (elt E P 20 k)) (fun k => I 6 5 (elt E P 20 k)) (CUTP (J 105) (J 106) (J 107) (J 21 2).toInt (J 3 1).toInt) a1 (J 4 4) (J 20 2).toInt ∧ x6 = x a0.toNatClampNeg) from (by exact ⟨_, hS, by rw [e6, ho1]⟩)⟩))) | (rcases hc3 with qhc3 | qhc3 | qhc3 <;> first | exact Or.inl ⟨by omega, by omega⟩ | exact Or.inr (Or.inl ⟨by omega, by omega⟩) | exact Or.inr (Or.inr (Or.inl ⟨by omega, by omega⟩)) | exact Or.inr (Or.inr (Or.inr (⟨by first | rfl | assumption, by omega, show (∃ x : Nat → Int32, SND x (J 101) (fun k => I 6 1 (elt E P 20 k)) (fun k => I 6 3 (elt E P 20 k)) (fun k => I 6 5 (elt E P 20 k)) (CUTP (J 105) (J 106) (J 107) (J 21 2).toInt (J 3 1).toInt) a1 (J 4 4) (J 20 2).toInt ∧ x6 = x a0.toNatClampNeg) from (by exact ⟨_, hS, by rw [e6, ho1]⟩)⟩))) | (exfalso; omega))) dX11_loud_63
    · have c4 : ¬ r3.toInt = 0 := tne rfl kp0 c4
      refine lv_aload_n hx hb dX11_loud_30 rfl (lv_at hl 2 rfl) ?_
      refine lv_iload hx hb dX11_loud_31 (lv_at hl 0 rfl) ?_
      refine ci_ C hW (runV (x := (g.2.2.1 12)) (As := [.int r3]) (rest := []) (T := ((J, L, I, P, E, N), sgX g ++ dy)) C hW (c_X11_refuse l g J L I P E N dy H.size r3 hwf) mi_X11_refuse tw_411 (recv_ (T := ((J, L, I, P, E, N), sgX g ++ dy)) C hW (mx_ rfl) rfl rfl) ⟨rfl, rfl, Nat.le_of_ble_eq_true rfl, Nat.le_of_ble_eq_true rfl⟩ rfl hl.1 rfl (Nat.le_of_ble_eq_true rfl) dX11_loud_33 ⟨Nat.le_of_ble_eq_true rfl, Nat.le_of_ble_eq_true rfl⟩) (fun r7 u7 H locs hp7 hW => ?_)
      have hc7 : ((r7 = r3)) := hp7
      clear hp7
      have hr7 : r7.toInt = (r3).toInt := by rw [hc7]
      have hW : WB g A s.heap H locs ((hv J [42] [] u7), L, I, P, E, N) (sgX g ++ dy) := hW
      have hWr : WB g A s.heap H locs ((hv J [42] [] (hv J [42] [] u7)), L, (hv I [] [(6, 6), (6, 7)] I), P, E, N) (sgX g ++ dy) := by
        rw [← ag_hvE (J := J) (R := [42]) (F := []) (ag_hv rfl rfl ag_rf)]
        rw [← ag_hvE (J := I) (R := []) (F := [(6, 6), (6, 7)]) ag_rf]
        exact hW
      subst hQ9
      exact end_i C hr hlocks ((hv J [42] [] u7), I) hWr (by first | exact Or.inl ⟨by omega, by omega⟩ | exact Or.inr (Or.inl ⟨by omega, by omega⟩) | exact Or.inr (Or.inr (Or.inl ⟨by omega, by omega⟩)) | exact Or.inr (Or.inr (Or.inr (⟨by first | rfl | assumption, by omega, show (∃ x : Nat → Int32, SND x (J 101) (fun k => I 6 1 (elt E P 20 k)) (fun k => I 6 3 (elt E P 20 k)) (fun k => I 6 5 (elt E P 20 k)) (CUTP (J 105) (J 106) (J 107) (J 21 2).toInt (J 3 1).toInt) a1 (J 4 4) (J 20 2).toInt ∧ r7 = x a0.toNatClampNeg) from (by omega)⟩))) | (rcases hc3 with qhc3 | qhc3 | qhc3 <;> first | exact Or.inl ⟨by omega, by omega⟩ | exact Or.inr (Or.inl ⟨by omega, by omega⟩) | exact Or.inr (Or.inr (Or.inl ⟨by omega, by omega⟩)) | exact Or.inr (Or.inr (Or.inr (⟨by first | rfl | assumption, by omega, show (∃ x : Nat → Int32, SND x (J 101) (fun k => I 6 1 (elt E P 20 k)) (fun k => I 6 3 (elt E P 20 k)) (fun k => I 6 5 (elt E P 20 k)) (CUTP (J 105) (J 106) (J 107) (J 21 2).toInt (J 3 1).toInt) a1 (J 4 4) (J 20 2).toInt ∧ r7 = x a0.toNatClampNeg) from (by omega)⟩))) | (exfalso; omega))) dX11_loud_36

set_option maxHeartbeats 4000000 in
set_option maxRecDepth 100000 in
theorem c_X11_hears_e (l : Launch) (g : gG) (J : Nat → Nat → Int32) (L : Nat → Nat → Int64) (I : Nat → Nat → Nat → Int32) (P : Nat → Nat → Nat → Option Nat) (E : Nat → Option Nat) (N : Nat → Nat) (dy : List (Nat × Nat)) (sz : Nat) (a0 : Int32) (a1 : Int32) (hwf : WXF g J P E N dy) (hnt : NTR (P 6 0) (elt E P 20) (J 101) (J 20 2).toInt) (hij : INJ E P 20 (J 20 2).toInt) (hcu : CUR (P 1 0) (I 1 1) (I 1 2) (elt E P 21) (elt E P 20) (J 105) (J 106) (J 107) (J 21 2).toInt (J 20 2).toInt) (hhm : HMR (P 2 0) (I 2 1) (I 2 2) (I 2 3) (elt E P 22) (elt E P 20) (J 108) (J 109) (J 110) (J 111) (J 22 2).toInt (J 20 2).toInt) : Met l yX11_hears (WS yX11_hears cX11_hears 5 (some .int)) (RM (5) 0 0) (PC g [.ref (g.2.2.1 12), .int a0, .int a1] ((J, L, I, P, E, N), sgX g ++ dy) sz) (va_Qi (fun (r : Int32) (u : (Nat → Nat → Int32) × (Nat → Nat → Nat → Int32)) => ((r.toInt = (-1) ∧ (¬ (0 ≤ a0.toInt ∧ a0.toInt < (J 22 2).toInt))) ∨ (r.toInt = (-4) ∧ (0 ≤ a0.toInt ∧ a0.toInt < (J 22 2).toInt ∧ a1.toInt < 1)) ∨ (r.toInt = (-6) ∧ (0 ≤ a0.toInt ∧ a0.toInt < (J 22 2).toInt ∧ 1 ≤ a1.toInt ∧ 999 < a1.toInt)) ∨ (r.toInt = 1 ∧ (0 ≤ a0.toInt ∧ a0.toInt < (J 22 2).toInt ∧ 1 ≤ a1.toInt ∧ a1.toInt ≤ 999) ∧ (∃ x : Nat → Int32, SND x (J 101) (fun k => I 6 1 (elt E P 20 k)) (fun k => I 6 3 (elt E P 20 k)) (fun k => I 6 5 (elt E P 20 k)) (CUTP (J 105) (J 106) (J 107) (J 21 2).toInt (J 3 1).toInt) a1 (J 4 4) (J 20 2).toInt ∧ (J 4 5 * J 109 a0.toNatClampNeg).toInt ≤ (x (J 108 a0.toNatClampNeg).toNatClampNeg).toInt)) ∨ (r.toInt = 0 ∧ (0 ≤ a0.toInt ∧ a0.toInt < (J 22 2).toInt ∧ 1 ≤ a1.toInt ∧ a1.toInt ≤ 999) ∧ (∃ x : Nat → Int32, SND x (J 101) (fun k => I 6 1 (elt E P 20 k)) (fun k => I 6 3 (elt E P 20 k)) (fun k => I 6 5 (elt E P 20 k)) (CUTP (J 105) (J 106) (J 107) (J 21 2).toInt (J 3 1).toInt) a1 (J 4 4) (J 20 2).toInt ∧ ¬ (J 4 5 * J 109 a0.toNatClampNeg).toInt ≤ (x (J 108 a0.toNatClampNeg).toNatClampNeg).toInt)))) (fun u t => at_ g (FR g ((J, L, I, P, E, N), sgX g ++ dy) sz) (((hv J [42] [] u.1), L, (hv I [] [(6, 6), (6, 7)] u.2), P, E, N), sgX g ++ dy) t) (FR g ((J, L, I, P, E, N), sgX g ++ dy) sz)) 0 0 (FR g ((J, L, I, P, E, N), sgX g ++ dy) sz) := by
  refine ent (by decide +kernel) (Nat.le_of_ble_eq_true rfl) ?_
  intro p e s m below meth c ls hsz C hW hr hlocks hname hl
  generalize FR g ((J, L, I, P, E, N), sgX g ++ dy) sz = A at C hW ⊢
  generalize hQ9 : (va_Qi (fun (r : Int32) (u : (Nat → Nat → Int32) × (Nat → Nat → Nat → Int32)) => ((r.toInt = (-1) ∧ (¬ (0 ≤ a0.toInt ∧ a0.toInt < (J 22 2).toInt))) ∨ (r.toInt = (-4) ∧ (0 ≤ a0.toInt ∧ a0.toInt < (J 22 2).toInt ∧ a1.toInt < 1)) ∨ (r.toInt = (-6) ∧ (0 ≤ a0.toInt ∧ a0.toInt < (J 22 2).toInt ∧ 1 ≤ a1.toInt ∧ 999 < a1.toInt)) ∨ (r.toInt = 1 ∧ (0 ≤ a0.toInt ∧ a0.toInt < (J 22 2).toInt ∧ 1 ≤ a1.toInt ∧ a1.toInt ≤ 999) ∧ (∃ x : Nat → Int32, SND x (J 101) (fun k => I 6 1 (elt E P 20 k)) (fun k => I 6 3 (elt E P 20 k)) (fun k => I 6 5 (elt E P 20 k)) (CUTP (J 105) (J 106) (J 107) (J 21 2).toInt (J 3 1).toInt) a1 (J 4 4) (J 20 2).toInt ∧ (J 4 5 * J 109 a0.toNatClampNeg).toInt ≤ (x (J 108 a0.toNatClampNeg).toNatClampNeg).toInt)) ∨ (r.toInt = 0 ∧ (0 ≤ a0.toInt ∧ a0.toInt < (J 22 2).toInt ∧ 1 ≤ a1.toInt ∧ a1.toInt ≤ 999) ∧ (∃ x : Nat → Int32, SND x (J 101) (fun k => I 6 1 (elt E P 20 k)) (fun k => I 6 3 (elt E P 20 k)) (fun k => I 6 5 (elt E P 20 k)) (CUTP (J 105) (J 106) (J 107) (J 21 2).toInt (J 3 1).toInt) a1 (J 4 4) (J 20 2).toInt ∧ ¬ (J 4 5 * J 109 a0.toNatClampNeg).toInt ≤ (x (J 108 a0.toNatClampNeg).toNatClampNeg).toInt)))) (fun u t => at_ g A (((hv J [42] [] u.1), L, (hv I [] [(6, 6), (6, 7)] u.2), P, E, N), sgX g ++ dy) t) A) = Q9
  have hx := C.1.1
  have hb := C.1.2.1
  have hts := C.1.2.2.2.2
  have hl : lv_has ls 5 [(0, .ref (g.2.2.1 12)), (1, .int a0), (2, .int a1)] := hl
  obtain ⟨H, hH⟩ : ∃ H : Heap, H = s.heap := ⟨_, rfl⟩
  obtain ⟨locs, hlocs⟩ : ∃ q : List Loc, q = [] := ⟨_, rfl⟩
  have hW : WB g A s.heap H locs (J, L, I, P, E, N) (sgX g ++ dy) := by rw [hH, hlocs]; exact hW
  refine start_ hH hlocs ?_
  refine lv_aload_n hx hb dX11_hears_0 rfl (lv_at hl 0 rfl) ?_
  refine rg_12_0 C hW (mx_ rfl) tw_364 dX11_hears_1 ?_
  refine lv_iload_n hx hb dX11_hears_4 rfl (lv_at hl 1 rfl) ?_
  refine cq_ C hW (runV (x := (g.2.2.1 4)) (As := [.int a0]) (rest := []) (T := ((J, L, I, P, E, N), sgX g ++ dy)) C hW (c_X3_homeOf l g J L I P E N dy H.size a0 hwf) mi_X3_homeOf tw_576 (recv_ (T := ((J, L, I, P, E, N), sgX g ++ dy)) C hW (mx_ rfl) rfl rfl) ⟨rfl, rfl, Nat.le_of_ble_eq_true rfl, Nat.le_of_ble_eq_true rfl⟩ rfl hl.1 rfl (Nat.le_of_ble_eq_true rfl) dX11_hears_5 ⟨Nat.le_of_ble_eq_true rfl, Nat.le_of_ble_eq_true rfl⟩) (fun q1 u1 H locs hp1 hW => ?_)
  have hq1 : ((q1 = none ∧ (¬ (0 ≤ a0.toInt ∧ a0.toInt < (J 22 2).toInt))) ∨ (q1 = some (elt E P 22 a0.toNatClampNeg) ∧ (0 ≤ a0.toInt ∧ a0.toInt < (J 22 2).toInt))) := hp1
  clear hp1
  have hW : WB g A s.heap H locs (J, L, I, P, E, N) (sgX g ++ dy) := hW
  rcases hq1 with ⟨rfl, hn1⟩ | ⟨rfl, hs1⟩
  · refine lv_asv (v' := .null) rfl ?_
    refine lv_astore_nN (lv' := [(3, .null), (0, .ref (g.2.2.1 12)), (1, .int a0), (2, .int a1)]) hx hb dX11_hears_8 rfl hl (by decide) rfl (fun ls hl => ?_)
    refine lv_aload_nN hx hb dX11_hears_9 rfl (lv_at hl 0 rfl) ?_
    refine lv_ifnonnullN hx hb dX11_hears_10 ?_
    refine lv_aload_n hx hb dX11_hears_13 rfl (lv_at hl 1 rfl) ?_
    refine lv_iconst (v := (-1)) hx hb dX11_hears_14 (by decide) ?_
    refine ci_ C hW (runV (x := (g.2.2.1 12)) (As := [.int (-1)]) (rest := []) (T := ((J, L, I, P, E, N), sgX g ++ dy)) C hW (c_X11_refuse l g J L I P E N dy H.size (-1) hwf) mi_X11_refuse tw_411 (recv_ (T := ((J, L, I, P, E, N), sgX g ++ dy)) C hW (mx_ rfl) rfl rfl) ⟨rfl, rfl, Nat.le_of_ble_eq_true rfl, Nat.le_of_ble_eq_true rfl⟩ rfl hl.1 rfl (Nat.le_of_ble_eq_true rfl) dX11_hears_15 ⟨Nat.le_of_ble_eq_true rfl, Nat.le_of_ble_eq_true rfl⟩) (fun r2 u2 H locs hp2 hW => ?_)
    have hc2 : ((r2 = (-1))) := hp2
    clear hp2
    have hr2 : r2.toInt = (-1) := by rw [hc2]; exact kn1
    have hW : WB g A s.heap H locs ((hv J [42] [] u2), L, I, P, E, N) (sgX g ++ dy) := hW
    have hWr : WB g A s.heap H locs ((hv J [42] [] (hv J [42] [] u2)), L, (hv I [] [(6, 6), (6, 7)] I), P, E, N) (sgX g ++ dy) := by
      rw [← ag_hvE (J := J) (R := [42]) (F := []) (ag_hv rfl rfl ag_rf)]
      rw [← ag_hvE (J := I) (R := []) (F := [(6, 6), (6, 7)]) ag_rf]
      exact hW
    subst hQ9
    exact end_i C hr hlocks ((hv J [42] [] u2), I) hWr (by first | exact Or.inl ⟨by omega, by omega⟩) dX11_hears_18
  · skip
    obtain ⟨o1, ho1⟩ : ∃ z : Nat, z = elt E P 22 a0.toNatClampNeg := ⟨_, rfl⟩
    have hm1 : (2, o1) ∈ dy := by rw [ho1]; exact (lw_mem (er := 2) hwf.1.2.2.1 (show (a0.toNatClampNeg : Int) < (J 22 2).toInt from by have := tcl a0; omega))
    refine lv_asv (v' := .ref o1) (by rw [ho1]; rfl) ?_
    refine lv_astore_n (lv' := [(3, .ref o1), (0, .ref (g.2.2.1 12)), (1, .int a0), (2, .int a1)]) hx hb dX11_hears_8 rfl hl (by decide) rfl (fun ls hl => ?_)
    refine lv_aload_n hx hb dX11_hears_9 rfl (lv_at hl 0 rfl) ?_
    refine lv_ifnonnull (tgt := 19) hx hb dX11_hears_10 (by decide) ?_
    refine lv_iload_n hx hb dX11_hears_19 rfl (lv_at hl 3 rfl) ?_
    refine ci_ C hW (runS (As := [.int a1]) (rest := []) (T := ((J, L, I, P, E, N), sgX g ++ dy)) C hW (c_X11_voiceRefusal l g J L I P E N dy H.size a1 ) mi_X11_voiceRefusal tw_524 ⟨rfl, rfl, Nat.le_of_ble_eq_true rfl, Nat.le_of_ble_eq_true rfl⟩ rfl hl.1 rfl (Nat.le_of_ble_eq_true rfl) dX11_hears_20 ⟨Nat.le_of_ble_eq_true rfl, Nat.le_of_ble_eq_true rfl⟩) (fun r3 u3 H locs hp3 hW => ?_)
    have hc3 : ((r3.toInt = (-4) ∧ (a1.toInt < 1)) ∨ (r3.toInt = (-6) ∧ (999 < a1.toInt)) ∨ (r3.toInt = 0 ∧ (1 ≤ a1.toInt ∧ a1.toInt ≤ 999))) := hp3
    clear hp3
    have hW : WB g A s.heap H locs (J, L, I, P, E, N) (sgX g ++ dy) := hW
    refine lv_istore (lv' := [(4, .int r3), (3, .ref o1), (0, .ref (g.2.2.1 12)), (1, .int a0), (2, .int a1)]) hx hb dX11_hears_23 hl (by decide) rfl (fun ls hl => ?_)
    refine lv_iload hx hb dX11_hears_25 (lv_at hl 0 rfl) ?_
    refine lv_if_eq (tgt := 37) hx hb dX11_hears_27 (by decide) (fun c4 => ?_) (fun c4 => ?_)
    · have c4 : r3.toInt = 0 := teq rfl kp0 c4
      refine lv_aload_n hx hb dX11_hears_37 rfl (lv_at hl 2 rfl) ?_
      refine rg_12_0 C hW (mx_ rfl) tw_364 dX11_hears_38 ?_
      refine lv_iload_n hx hb dX11_hears_41 rfl (lv_at hl 4 rfl) ?_
      refine lv_aload_n hx hb dX11_hears_42 rfl (lv_at hl 2 rfl) ?_
      refine rg_12_0 C hW (mx_ rfl) tw_364 dX11_hears_43 ?_
      refine rg_4_4 C hW (mx_ rfl) tw_240 dX11_hears_46 ?_
      refine lv_aload_n hx hb dX11_hears_49 rfl (lv_at hl 2 rfl) ?_
      refine rg_12_1 C hW (mx_ rfl) tw_365 dX11_hears_50 ?_
      refine rg_3_1 C hW (mx_ rfl) tw_278 dX11_hears_53 ?_
      refine cv_ C hW (runV (x := (g.2.2.1 4)) (As := [.int a1, .int (J 4 4), .int (J 3 1)]) (rest := []) (T := ((J, L, I, P, E, N), sgX g ++ dy)) C hW (c_X3_carry_e l g J L I P E N dy H.size a1 (J 4 4) (J 3 1) hwf (show NTR (P 6 0) (elt E P 20) (J 101) (J 20 2).toInt from hnt) (show INJ E P 20 (J 20 2).toInt from hij) (show CUR (P 1 0) (I 1 1) (I 1 2) (elt E P 21) (elt E P 20) (J 105) (J 106) (J 107) (J 21 2).toInt (J 20 2).toInt from hcu)) mi_X3_carry tw_527 (recv_ (T := ((J, L, I, P, E, N), sgX g ++ dy)) C hW (mx_ rfl) rfl rfl) ⟨rfl, rfl, Nat.le_of_ble_eq_true rfl, Nat.le_of_ble_eq_true rfl⟩ rfl hl.1 rfl (Nat.le_of_ble_eq_true rfl) dX11_hears_56 ⟨Nat.le_of_ble_eq_true rfl, Nat.le_of_ble_eq_true rfl⟩) (fun u5 H locs hp5 hW => ?_)
      have hf5_0 : (SND (fun k => u5 6 7 (elt E P 20 k)) (J 101) (fun k => I 6 1 (elt E P 20 k)) (fun k => I 6 3 (elt E P 20 k)) (fun k => I 6 5 (elt E P 20 k)) (CUTP (J 105) (J 106) (J 107) (J 21 2).toInt (J 3 1).toInt) a1 (J 4 4) (J 20 2).toInt) := hp5
      clear hp5
      have hW : WB g A s.heap H locs (J, L, (hv I [] [(6, 6), (6, 7)] u5), P, E, N) (sgX g ++ dy) := hW
      have hS := hf5_0
      refine lv_aload_n hx hb dX11_hears_59 rfl (lv_at hl 1 rfl) ?_
      refine lv_aload_n hx hb dX11_hears_60 rfl (lv_at hl 2 rfl) ?_
      refine rg_12_0 C hW (mx_ rfl) tw_364 dX11_hears_61 ?_
      refine rg_4_5 C hW (mx_ rfl) tw_243 dX11_hears_64 ?_
      refine ci_ C hW (runV (x := o1) (As := [.int (J 4 5)]) (rest := []) (T := ((J, L, (hv I [] [(6, 6), (6, 7)] u5), P, E, N), sgX g ++ dy)) C hW (c_X1_isReached_e l g J L (hv I [] [(6, 6), (6, 7)] u5) P E N dy H.size o1 hm1 (J 4 5) hwf) mi_X1_isReached tw_581 (recv_ (T := ((J, L, (hv I [] [(6, 6), (6, 7)] u5), P, E, N), sgX g ++ dy)) C hW (List.mem_append_right _ hm1) rfl rfl) ⟨rfl, rfl, Nat.le_of_ble_eq_true rfl, Nat.le_of_ble_eq_true rfl⟩ rfl hl.1 rfl (Nat.le_of_ble_eq_true rfl) dX11_hears_67 ⟨Nat.le_of_ble_eq_true rfl, Nat.le_of_ble_eq_true rfl⟩) (fun r6 u6 H locs hp6 hW => ?_)
      have hf6_0 : (∀ b : Nat, P 2 0 o1 = some b → ((r6.toInt : Int) = 1 ∧ ((J 4 5) * (hv I [] [(6, 6), (6, 7)] u5) 2 1 o1).toInt ≤ ((hv I [] [(6, 6), (6, 7)] u5) 6 7 b).toInt) ∨ ((r6.toInt : Int) = 0 ∧ ((hv I [] [(6, 6), (6, 7)] u5) 6 7 b).toInt < ((J 4 5) * (hv I [] [(6, 6), (6, 7)] u5) 2 1 o1).toInt)) := hp6
      clear hp6
      have hW : WB g A s.heap H locs (J, L, (hv I [] [(6, 6), (6, 7)] u5), P, E, N) (sgX g ++ dy) := hW
      have hB := hf6_0
      obtain ⟨h91, -, -, h94, -⟩ := hhm a0.toNatClampNeg (by have h8 := tcl a0; omega)
      rw [← ho1] at h91 h94
      have h95 : (hv I [] [(6, 6), (6, 7)] u5) 2 1 o1 = J 109 a0.toNatClampNeg := h94
      have hb9 := hB _ h91
      rw [h95] at hb9
      refine lv_if_eq (tgt := 77) hx hb dX11_hears_70 (by decide) (fun c7 => ?_) (fun c7 => ?_)
      · have c7 : r6.toInt = 0 := teq rfl kp0 c7
        refine lv_iconst (v := 0) hx hb dX11_hears_77 (by decide) ?_
        have hWr : WB g A s.heap H locs ((hv J [42] [] J), L, (hv I [] [(6, 6), (6, 7)] (hv I [] [(6, 6), (6, 7)] u5)), P, E, N) (sgX g ++ dy) := by
          rw [← ag_hvE (J := J) (R := [42]) (F := []) ag_rf]
          rw [← ag_hvE (J := I) (R := []) (F := [(6, 6), (6, 7)]) (ag_hv rfl rfl ag_rf)]
          exact hW
        subst hQ9
        exact end_i C hr hlocks (J, (hv I [] [(6, 6), (6, 7)] u5)) hWr (by first | exact Or.inr (Or.inr (Or.inr (Or.inr (⟨by decide, by omega, show (∃ x : Nat → Int32, SND x (J 101) (fun k => I 6 1 (elt E P 20 k)) (fun k => I 6 3 (elt E P 20 k)) (fun k => I 6 5 (elt E P 20 k)) (CUTP (J 105) (J 106) (J 107) (J 21 2).toInt (J 3 1).toInt) a1 (J 4 4) (J 20 2).toInt ∧ ¬ (J 4 5 * J 109 a0.toNatClampNeg).toInt ≤ (x (J 108 a0.toNatClampNeg).toNatClampNeg).toInt) from (by exact ⟨_, hS, hb9.elim (fun q => absurd q.1 (by omega)) (fun q => Int.not_le.mpr q.2)⟩)⟩))))) dX11_hears_78
      · have c7 : ¬ r6.toInt = 0 := tne rfl kp0 c7
        refine lv_iconst (v := 1) hx hb dX11_hears_73 (by decide) ?_
        refine lv_goto (tgt := 78) hx hb dX11_hears_74 (by decide) ?_
        have hWr : WB g A s.heap H locs ((hv J [42] [] J), L, (hv I [] [(6, 6), (6, 7)] (hv I [] [(6, 6), (6, 7)] u5)), P, E, N) (sgX g ++ dy) := by
          rw [← ag_hvE (J := J) (R := [42]) (F := []) ag_rf]
          rw [← ag_hvE (J := I) (R := []) (F := [(6, 6), (6, 7)]) (ag_hv rfl rfl ag_rf)]
          exact hW
        subst hQ9
        exact end_i C hr hlocks (J, (hv I [] [(6, 6), (6, 7)] u5)) hWr (by first | exact Or.inr (Or.inr (Or.inr (Or.inl ⟨by decide, by omega, show (∃ x : Nat → Int32, SND x (J 101) (fun k => I 6 1 (elt E P 20 k)) (fun k => I 6 3 (elt E P 20 k)) (fun k => I 6 5 (elt E P 20 k)) (CUTP (J 105) (J 106) (J 107) (J 21 2).toInt (J 3 1).toInt) a1 (J 4 4) (J 20 2).toInt ∧ (J 4 5 * J 109 a0.toNatClampNeg).toInt ≤ (x (J 108 a0.toNatClampNeg).toNatClampNeg).toInt) from (by exact ⟨_, hS, hb9.elim (fun q => q.2) (fun q => absurd q.1 (by omega))⟩)⟩)))) dX11_hears_78
    · have c4 : ¬ r3.toInt = 0 := tne rfl kp0 c4
      refine lv_aload_n hx hb dX11_hears_30 rfl (lv_at hl 2 rfl) ?_
      refine lv_iload hx hb dX11_hears_31 (lv_at hl 0 rfl) ?_
      refine ci_ C hW (runV (x := (g.2.2.1 12)) (As := [.int r3]) (rest := []) (T := ((J, L, I, P, E, N), sgX g ++ dy)) C hW (c_X11_refuse l g J L I P E N dy H.size r3 hwf) mi_X11_refuse tw_411 (recv_ (T := ((J, L, I, P, E, N), sgX g ++ dy)) C hW (mx_ rfl) rfl rfl) ⟨rfl, rfl, Nat.le_of_ble_eq_true rfl, Nat.le_of_ble_eq_true rfl⟩ rfl hl.1 rfl (Nat.le_of_ble_eq_true rfl) dX11_hears_33 ⟨Nat.le_of_ble_eq_true rfl, Nat.le_of_ble_eq_true rfl⟩) (fun r8 u8 H locs hp8 hW => ?_)
      have hc8 : ((r8 = r3)) := hp8
      clear hp8
      have hr8 : r8.toInt = (r3).toInt := by rw [hc8]
      have hW : WB g A s.heap H locs ((hv J [42] [] u8), L, I, P, E, N) (sgX g ++ dy) := hW
      have hWr : WB g A s.heap H locs ((hv J [42] [] (hv J [42] [] u8)), L, (hv I [] [(6, 6), (6, 7)] I), P, E, N) (sgX g ++ dy) := by
        rw [← ag_hvE (J := J) (R := [42]) (F := []) (ag_hv rfl rfl ag_rf)]
        rw [← ag_hvE (J := I) (R := []) (F := [(6, 6), (6, 7)]) ag_rf]
        exact hW
      subst hQ9
      exact end_i C hr hlocks ((hv J [42] [] u8), I) hWr (by first | exact Or.inr (Or.inl ⟨by omega, by omega⟩) | exact Or.inr (Or.inr (Or.inl ⟨by omega, by omega⟩)) | (rcases hc3 with qhc3 | qhc3 | qhc3 <;> first | exact Or.inr (Or.inl ⟨by omega, by omega⟩) | exact Or.inr (Or.inr (Or.inl ⟨by omega, by omega⟩)) | (exfalso; omega))) dX11_hears_36
