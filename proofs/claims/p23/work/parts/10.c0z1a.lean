/-- what a set of boosts adds at each node -/
def EXS (cn cg : Nat → Int32) (s : Int32) : Nat → Nat → Int32
  | 0, _ => 0
  | j + 1, k => if (cn j).toInt = (k : Int) then (if IB s j = true then cg j else 0) else EXS cn cg s j k
def RSP (y y0 cn cg : Nat → Int32) (s : Int32) (i n : Int) : Prop := ∀ k : Nat, (k : Int) < n → ((∃ j : Nat, (j : Int) < i ∧ (cn j).toInt = (k : Int)) → y k = EXS cn cg s i.toNat k) ∧ ((∀ j : Nat, (j : Int) < i → ¬ (cn j).toInt = (k : Int)) → y k = y0 k)
/-- the nodes that could be raised -/
def CHN (I : Nat → Nat → Nat → Int32) (E : Nat → Option Nat) (P : Nat → Nat → Nat → Option Nat) (cn cg : Nat → Int32) (c n : Int) : Prop := ∀ j : Nat, (j : Int) < c → elt E P 23 j = elt E P 20 (cn j).toNatClampNeg ∧ 0 ≤ (cn j).toInt ∧ (cn j).toInt < n ∧ I 6 4 (elt E P 23 j) = cg j ∧ 1 ≤ (cg j).toInt ∧ (cg j).toInt ≤ 99
section BOO
variable {y y' y0 cn cg cn' cg' : Nat → Int32} {s v : Int32} {i i' n n' c c' : Int} {o : Nat} {I I' : Nat → Nat → Nat → Int32} {E E' : Nat → Option Nat} {P P' : Nat → Nat → Nat → Option Nat} {dy : List (Nat × Nat)}
theorem exs_no {k : Nat} : ∀ c : Nat, (∀ j : Nat, j < c → ¬ (cn j).toInt = (k : Int)) → EXS cn cg s c k = 0
  | 0, _ => rfl
  | c + 1, h => by rw [EXS, if_neg (h c (Nat.lt_succ_self c))]; exact exs_no c (fun j hj => h j (Nat.lt_succ_of_lt hj))
theorem rsp_0 (h : i = 0) : RSP y y cn cg s i n := fun k hk => ⟨fun ⟨j, j1, _⟩ => by omega, fun _ => rfl⟩
theorem rsp_s (h : RSP y y0 cn cg s i n) (h0 : 0 ≤ i) (hi : i' = i + 1) (h1 : ∀ k : Nat, (k : Int) < n → (cn i.toNat).toInt = (k : Int) → y' k = if IB s i.toNat = true then cg i.toNat else 0) (h2 : ∀ k : Nat, (k : Int) < n → ¬ (cn i.toNat).toInt = (k : Int) → y' k = y k) : RSP y' y0 cn cg s i' n := fun k hk => by
  have e : i'.toNat = i.toNat + 1 := by omega
  by_cases q : (cn i.toNat).toInt = (k : Int)
  · refine ⟨fun _ => ?_, fun z => absurd q (z i.toNat (by omega))⟩
    rw [h1 k hk q, e, EXS, if_pos q]
  · rw [h2 k hk q]
    refine ⟨fun ⟨j, j1, j2⟩ => ?_, fun z => (h k hk).2 (fun j hj => z j (by omega))⟩
    have hj : j ≠ i.toNat := fun e9 => q (by rw [← e9]; exact j2)
    rw [(h k hk).1 ⟨j, by omega, j2⟩, e, EXS, if_neg q]
theorem rsp_e (h : RSP y y0 cn cg s c n) (h0 : 0 ≤ c) (hz : ∀ k : Nat, (k : Int) < n → (∀ j : Nat, (j : Int) < c → ¬ (cn j).toInt = (k : Int)) → y0 k = 0) : ∀ k : Nat, (k : Int) < n → y k = EXS cn cg s c.toNat k := fun k hk => by
  by_cases q : ∃ j : Nat, (j : Int) < c ∧ (cn j).toInt = (k : Int)
  · exact (h k hk).1 q
  · have q2 : ∀ j : Nat, (j : Int) < c → ¬ (cn j).toInt = (k : Int) := fun j j1 j2 => q ⟨j, j1, j2⟩
    rw [(h k hk).2 q2, hz k hk q2]
    exact (exs_no _ (fun j hj => q2 j (by omega))).symm
/-- the class raises one node -/
theorem rsp_c {K : Nat → Nat → Nat → Int32} (h : RSP (fun k => K 6 5 (elt E P 20 k)) y0 cn cg s i n) (hij : INJ E P 20 n) (hch : CHN I E P cn cg c n) (ho : o = elt E P 23 i.toNat) (h0 : 0 ≤ i) (hic : i < c) (hi : i' = i + 1) (hv : v = if IB s i.toNat = true then cg i.toNat else 0) : RSP (fun k => up3 K 6 5 o v 6 5 (elt E P 20 k)) y0 cn cg s i' n := by
  obtain ⟨a1, a2, a3, -⟩ := hch i.toNat (by omega)
  have h8 := tcl (cn i.toNat)
  refine rsp_s h h0 hi (fun k hk q => ?_) (fun k hk q => ?_)
  · have ek : elt E P 20 k = o := by rw [ho, a1, show (cn i.toNat).toNatClampNeg = k by omega]
    show up3 K 6 5 o v 6 5 (elt E P 20 k) = _
    rw [ek, up3_s]; exact hv
  · have ek : elt E P 20 k ≠ o := fun e => by
      rw [ho, a1] at e
      have := hij k _ hk (by omega) e
      omega
    exact up3_a _ _ _ _ ek _ _
theorem chn_gain (hch : CHN I E P cn cg c n) (ho : o = elt E P 23 i.toNat) (h0 : 0 ≤ i) (hic : i < c) : I 6 4 o = cg i.toNat := by
  rw [ho]; exact (hch i.toNat (by omega)).2.2.2.1
theorem snd_mo {x on wi bo mo mo' : Nat → Int32} {cut : Nat → Prop} {v w : Int32} (h : SND x on wi bo mo cut v w n) (hm : ∀ k : Nat, (k : Int) < n → mo k = mo' k) : SND x on wi bo mo' cut v w n := fun k hk => by
  rw [← hm k hk]; exact h k hk
theorem chn_keep (h : CHN I E P cn cg c n) (hc : c' = c) (hn : n ≤ n') (he : ∀ k : Nat, elt E' P' 23 k = elt E P 23 k) (he2 : ∀ k : Nat, (k : Int) < n → elt E' P' 20 k = elt E P 20 k) (hI : ∀ j : Nat, (j : Int) < c → I' 6 4 (elt E P 23 j) = I 6 4 (elt E P 23 j)) (e1 : cn' = cn) (e2 : cg' = cg) : CHN I' E' P' cn' cg' c' n' := by
  subst hc e1 e2
  intro j hj
  obtain ⟨a1, a2, a3, a4⟩ := h j hj
  have h8 := tcl (cn' j)
  rw [he j, he2 _ (by omega), hI j hj]
  exact ⟨a1, a2, by omega, a4⟩
theorem chn_add {G : Nat → Nat → Int32} {a : Nat} {z v w : Int32} (h : CHN I E P (G 125) (G 126) c n) (hc : c' = c + 1) (hcw : c = w.toInt) (h0 : 0 ≤ c) (hg : (I 6 4 (elt E P 20 a)).toInt ≤ 0) (hz : z.toInt = (a : Int)) (ha : (a : Int) < n) (hv : 1 ≤ v.toInt ∧ v.toInt ≤ 99) (hI : ∀ b : Nat, b ≠ elt E P 20 a → I' 6 4 b = I 6 4 b) (hI2 : I' 6 4 (elt E P 20 a) = v) (he : ∀ k : Nat, (k : Int) < c → elt E' P' 23 k = elt E P 23 k) (he3 : ∀ j : Nat, (j : Int) = c → elt E' P' 23 j = elt E P 20 a) (he2 : ∀ k : Nat, elt E' P' 20 k = elt E P 20 k) (e1 : cn' = up2 G 125 w.toNatClampNeg z 125) (e2 : cg' = up2 G 126 w.toNatClampNeg v 126) : CHN I' E' P' cn' cg' c' n := by
  subst hc e1 e2
  have h8 := tcl w
  have h9 := tcl z
  intro j hj
  by_cases q : (j : Int) < c
  · obtain ⟨a1, a2, a3, a4, a5, a6⟩ := h j q
    have hne : elt E P 23 j ≠ elt E P 20 a := fun e => by
      rw [e] at a4
      rw [a4] at hg; omega
    rw [he j q, up2_f _ _ _ (by omega), up2_f _ _ _ (by omega), he2, hI _ hne]
    exact ⟨a1, a2, a3, a4, a5, a6⟩
  · have ej : j = w.toNatClampNeg := by omega
    rw [he3 j (by omega), ej, up2_s, up2_s, he2, hI2, show z.toNatClampNeg = a by omega]
    exact ⟨rfl, by omega, by omega, rfl, hv.1, hv.2⟩
end BOO
/-- all homes hear -/
def HALC (x ea hn : Nat → Int32) (le : Int32) (nh : Int) : Prop := ∀ h : Nat, (h : Int) < nh → (le * ea h).toInt ≤ (x (hn h).toNatClampNeg).toInt
def HALM (x ea hn : Nat → Int32) (le : Int32) (nh : Int) : Prop := ∀ h : Nat, (h : Int) < nh → le.toInt ≤ (x (hn h).toNatClampNeg / ea h).toInt
theorem hal_s {p : Nat → Prop} {i i' : Int} (h : ∀ k : Nat, (k : Int) < i → p k) (h0 : 0 ≤ i) (hi : i' = i + 1) (hp : p i.toNat) : ∀ k : Nat, (k : Int) < i' → p k := fun k hk => by
  by_cases e : k = i.toNat
  · rw [e]; exact hp
  · exact h k (by omega)
section CBST
variable {ok : Nat → Prop} {sz : Nat → Nat} {v : Nat → Int} {t n : Nat} {b f s z : Int32}
/-- the class's best set, its size -/
def CBS (b f : Int32) (p : Int × Nat) : Prop := (b.toInt = -9 ∧ f.toInt = 20 ∧ p = (-9, 25)) ∨ (0 ≤ b.toInt ∧ p.1 = b.toInt ∧ f.toInt = (p.2 : Int))
theorem cbs_0 (h : b.toInt = -9) (h2 : f.toInt = 20) : CBS b f (BSF ok sz v 0) := Or.inl ⟨h, h2, rfl⟩
theorem cbs_y (hb : CBS b f (BSF ok sz v t)) (h1 : z.toInt = (sz t : Int)) (h2 : z.toInt < f.toInt) (h20 : sz t < 20) (hok : ok t) (hv : v t = s.toInt) (h0 : 0 ≤ s.toInt) : CBS s z (BSF ok sz v (t + 1)) := by
  have hlt : sz t < (BSF ok sz v t).2 := by
    rcases hb with ⟨-, -, e⟩ | ⟨-, -, e⟩
    · rw [e]; show sz t < 25; omega
    · omega
  rw [bsf_y ⟨hlt, hok⟩]
  exact Or.inr ⟨h0, hv, h1⟩
theorem cbs_n (hb : CBS b f (BSF ok sz v t)) (h1 : z.toInt = (sz t : Int)) (h20 : sz t < 20) (hn : ¬ ok t ∨ f.toInt ≤ z.toInt) : CBS b f (BSF ok sz v (t + 1)) := by
  rw [bsf_n (fun q => hn.elim (fun y => y q.2) (fun y => by
    have q1 := q.1
    rcases hb with ⟨-, e2, e⟩ | ⟨-, -, e⟩
    · omega
    · omega))]
  exact hb
theorem cbs_r (hb : CBS b f (BSF ok sz v t)) : b.toInt = (BSF ok sz v t).1 := by
  rcases hb with ⟨q, -, e⟩ | ⟨-, q, -⟩
  · rw [e]; exact q
  · exact q.symm
end CBST
theorem cb9 {t : Nat} (h : t < 512) : CB t 32 ≤ 9 := by
  rw [cb_pow (n := 9) (show t < 2 ^ 9 from h) 32 (by decide), cb_cnt (p := fun k => t.testBit k = true) (fun _ _ => Iff.rfl)]
  exact cnt_le
theorem tN_tn {a : Int32} (h : 0 ≤ a.toInt) : tN a = a.toInt.toNat := by
  have := tN_i h; omega
theorem tN_of {t : Nat} (h : t < 2 ^ 31) : tN (Int32.ofNat t) = t := by
  have h1 : (Int32.ofNat t).toInt = (t : Int) := Int32.toInt_ofNat_of_lt (by omega)
  have := tN_i (a := Int32.ofNat t) (by omega)
  omega
theorem pow9 {c : Nat} (h : c ≤ 9) : 2 ^ c ≤ 512 := Nat.pow_le_pow_right (by decide) h
theorem powp (c : Nat) : 1 ≤ 2 ^ c := Nat.pow_pos (by decide)
theorem chn_not {I : Nat → Nat → Nat → Int32} {E : Nat → Option Nat} {P : Nat → Nat → Nat → Option Nat} {cn cg : Nat → Int32} {c n : Int} {k : Nat} (hch : CHN I E P cn cg c n) (hij : INJ E P 20 n) (hk : (k : Int) < n) (hno : ∀ j : Nat, (j : Int) < c → ¬ (cn j).toInt = (k : Int)) : ∀ j : Nat, (j : Int) < c → ¬ elt E P 23 j = elt E P 20 k := fun j hj e => by
  obtain ⟨a1, a2, a3, -⟩ := hch j hj
  have h8 := tcl (cn j)
  rw [a1] at e
  have e2 := hij _ k (by omega) hk e
  exact hno j hj (by omega)
theorem hal_no {x y on wi bo mo ea hn : Nat → Int32} {cut : Nat → Prop} {v w le : Int32} {n nh : Int} (h : SND x on wi bo mo cut v w n) (h2 : SND y on wi bo mo cut v w n) (hon : ∀ k : Nat, 1 ≤ k → (k : Int) < n → (on k).toInt < k) (hb : ∀ j : Nat, (j : Int) < nh → 0 ≤ (hn j).toInt ∧ (hn j).toInt < n) (hx : ¬ HALC x ea hn le nh) (hy : HALC y ea hn le nh) : False := hx (fun j hj => by
  obtain ⟨b0, b1⟩ := hb j hj
  have h8 := tcl (hn j)
  have e := snd_det h h2 rfl hon (fun _ _ => rfl) (fun _ _ => rfl) (fun _ _ => rfl) (fun _ _ _ => Iff.rfl) rfl rfl (hn j).toNatClampNeg (by omega)
  rw [e]; exact hy j hj)
theorem hal_nm {x y on wi bo mo ea hn : Nat → Int32} {cut : Nat → Prop} {v w le : Int32} {n nh : Int} (h : SND x on wi bo mo cut v w n) (h2 : SND y on wi bo mo cut v w n) (hon : ∀ k : Nat, 1 ≤ k → (k : Int) < n → (on k).toInt < k) (hb : ∀ j : Nat, (j : Int) < nh → 0 ≤ (hn j).toInt ∧ (hn j).toInt < n) (hx : ¬ HALM x ea hn le nh) (hy : HALM y ea hn le nh) : False := hx (fun j hj => by
  obtain ⟨b0, b1⟩ := hb j hj
  have h8 := tcl (hn j)
  have e := snd_det h h2 rfl hon (fun _ _ => rfl) (fun _ _ => rfl) (fun _ _ => rfl) (fun _ _ _ => Iff.rfl) rfl rfl (hn j).toNatClampNeg (by omega)
  rw [e]; exact hy j hj)
