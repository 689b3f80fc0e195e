/-- the sets of hours in their order -/
def SQ (h : Int32) : Nat → Int32
  | 0 => 0
  | t + 1 => (SQ h t - h) &&& h
def PD : Nat → Nat → Nat → Nat
  | 0, _, _ => 0
  | n + 1, h, t => if h % 2 = 1 then t % 2 + 2 * PD n (h / 2) (t / 2) else 2 * PD n (h / 2) t
theorem cb_2 (x : Nat) : ∀ n, CB x (n + 1) = x % 2 + CB (x / 2) n := fun n => by
  have h := cb_split x 1 n
  rw [show 1 + n = n + 1 by omega] at h
  rw [h, show x / 2 ^ 1 = x / 2 by rfl]
  simp only [CB, Nat.pow_zero, Nat.div_one]; omega
theorem pd_0 : ∀ (n h : Nat), PD n h 0 = 0
  | 0, _ => rfl
  | n + 1, h => by
    rw [PD]
    by_cases e : h % 2 = 1
    · rw [if_pos e, Nat.zero_div, pd_0 n]
    · rw [if_neg e, pd_0 n]
theorem pd_full : ∀ (n h : Nat), h < 2 ^ n → PD n h (2 ^ CB h n - 1) = h
  | 0, h, q => by rw [Nat.pow_zero] at q; rw [PD]; omega
  | n + 1, h, q => by
    have hp : 2 ^ (n + 1) = 2 * 2 ^ n := Nat.pow_succ'
    have hc : 0 < 2 ^ CB (h / 2) n := Nat.pow_pos (by decide)
    have ih := pd_full n (h / 2) (by omega)
    rw [PD, cb_2]
    by_cases e : h % 2 = 1
    · have e2 : 2 ^ (h % 2 + CB (h / 2) n) - 1 = 2 * (2 ^ CB (h / 2) n - 1) + 1 := by rw [e, Nat.add_comm 1, Nat.pow_succ']; omega
      have e3 : (2 * (2 ^ CB (h / 2) n - 1) + 1) / 2 = 2 ^ CB (h / 2) n - 1 := by omega
      rw [if_pos e, e2, e3, ih]; omega
    · have e2 : h % 2 = 0 := by omega
      rw [if_neg e, e2, Nat.zero_add, ih]; omega
theorem pd_ne : ∀ (n h t : Nat), h < 2 ^ n → t < 2 ^ CB h n - 1 → PD n h t < h
  | 0, h, t, q, z => by simp [CB] at z
  | n + 1, h, t, q, z => by
    have hp : 2 ^ (n + 1) = 2 * 2 ^ n := Nat.pow_succ'
    have hc : 0 < 2 ^ CB (h / 2) n := Nat.pow_pos (by decide)
    rw [cb_2] at z
    rw [PD]
    by_cases e : h % 2 = 1
    · rw [e, Nat.add_comm 1, Nat.pow_succ'] at z
      rw [if_pos e]
      by_cases y : t / 2 < 2 ^ CB (h / 2) n - 1
      · have := pd_ne n (h / 2) (t / 2) (by omega) y
        omega
      · have y2 : t / 2 = 2 ^ CB (h / 2) n - 1 := by omega
        rw [y2, pd_full n (h / 2) (by omega)]; omega
    · have e2 : h % 2 = 0 := by omega
      rw [e2, Nat.zero_add] at z
      rw [if_neg e]
      have := pd_ne n (h / 2) t (by omega) z
      omega
theorem pd_and : ∀ (n h t : Nat), h < 2 ^ n → (PD n h t + (2 ^ n - 1 - h)) &&& h = PD n h t
  | 0, h, t, q => by rw [Nat.pow_zero] at q; rw [show h = 0 by omega]; simp [PD]
  | n + 1, h, t, q => by
    have hp : 2 ^ (n + 1) = 2 * 2 ^ n := Nat.pow_succ'
    rw [PD]
    by_cases e : h % 2 = 1
    · have ih := pd_and n (h / 2) (t / 2) (by omega)
      rw [if_pos e]
      have e1 : t % 2 + 2 * PD n (h / 2) (t / 2) + (2 ^ (n + 1) - 1 - h) = 2 * (PD n (h / 2) (t / 2) + (2 ^ n - 1 - h / 2)) + t % 2 := by omega
      have e2 : h = 2 * (h / 2) + 1 := by omega
      rw [e1]
      conv => lhs; rhs; rw [e2]
      have e3 : t % 2 &&& 1 = t % 2 := by rcases Nat.mod_two_eq_zero_or_one t with z | z <;> rw [z] <;> rfl
      rw [and_2 (by omega) (by decide), ih, e3]; omega
    · have ih := pd_and n (h / 2) t (by omega)
      rw [if_neg e]
      have e1 : 2 * PD n (h / 2) t + (2 ^ (n + 1) - 1 - h) = 2 * (PD n (h / 2) t + (2 ^ n - 1 - h / 2)) + 1 := by omega
      have e2 : h = 2 * (h / 2) + 0 := by omega
      rw [e1]
      conv => lhs; rhs; rw [e2]
      rw [and_2 (by decide) (by decide), ih]; rfl
theorem pd_next : ∀ (n h t : Nat), h < 2 ^ n → t < 2 ^ CB h n - 1 → (PD n h t + (2 ^ n - h)) &&& h = PD n h (t + 1)
  | 0, h, t, q, z => by simp [CB] at z
  | n + 1, h, t, q, z => by
    have hp : 2 ^ (n + 1) = 2 * 2 ^ n := Nat.pow_succ'
    have hc : 0 < 2 ^ CB (h / 2) n := Nat.pow_pos (by decide)
    rw [cb_2] at z
    rw [PD, PD]
    by_cases e : h % 2 = 1
    · rw [e, Nat.add_comm 1, Nat.pow_succ'] at z
      rw [if_pos e, if_pos e]
      have e2 : h = 2 * (h / 2) + 1 := by omega
      by_cases y : t % 2 = 1
      · have ih := pd_next n (h / 2) (t / 2) (by omega) (by omega)
        have e1 : t % 2 + 2 * PD n (h / 2) (t / 2) + (2 ^ (n + 1) - h) = 2 * (PD n (h / 2) (t / 2) + (2 ^ n - h / 2)) + 0 := by omega
        rw [e1]
        conv => lhs; rhs; rw [e2]
        rw [and_2 (by decide) (by decide), ih, show (t + 1) / 2 = t / 2 + 1 by omega, show (t + 1) % 2 = 0 by omega]; simp
      · have ih := pd_and n (h / 2) (t / 2) (by omega)
        have e1 : t % 2 + 2 * PD n (h / 2) (t / 2) + (2 ^ (n + 1) - h) = 2 * (PD n (h / 2) (t / 2) + (2 ^ n - 1 - h / 2)) + 1 := by omega
        rw [e1]
        conv => lhs; rhs; rw [e2]
        rw [and_2 (by decide) (by decide), ih, show (t + 1) / 2 = t / 2 by omega, show (t + 1) % 2 = 1 by omega]
        simp; omega
    · have e2 : h % 2 = 0 := by omega
      rw [e2, Nat.zero_add] at z
      have ih := pd_next n (h / 2) t (by omega) z
      rw [if_neg e, if_neg e]
      have e1 : 2 * PD n (h / 2) t + (2 ^ (n + 1) - h) = 2 * (PD n (h / 2) t + (2 ^ n - h / 2)) + 0 := by omega
      have e3 : h = 2 * (h / 2) + 0 := by omega
      rw [e1]
      conv => lhs; rhs; rw [e3]
      rw [and_2 (by decide) (by decide), ih]; rfl
/-- the sets by their numbers -/
theorem sq_pd {h : Int32} (hh : tN h < 2 ^ 24) : ∀ t : Nat, t ≤ 2 ^ CB (tN h) 24 - 1 → tN (SQ h t) = PD 24 (tN h) t
  | 0, _ => (show tN (0 : Int32) = 0 by decide).trans (pd_0 24 (tN h)).symm
  | t + 1, ht => by
    have ih := sq_pd hh t (by omega)
    have h1 := pd_ne 24 (tN h) t hh (by omega)
    have h2 := pd_next 24 (tN h) t hh (by omega)
    have e1 : tN (SQ h t - h) = 2 ^ 24 * 255 + (PD 24 (tN h) t + (2 ^ 24 - tN h)) := by
      have h3 : tN (SQ h t - h) = (2 ^ 32 - tN h + tN (SQ h t)) % 2 ^ 32 := BitVec.toNat_sub ..
      rw [h3, ih]; omega
    show tN ((SQ h t - h) &&& h) = _
    rw [tN_and, e1]
    have e2 : tN h = 2 ^ 24 * 0 + tN h := by omega
    conv => lhs; rhs; rw [e2]
    rw [and_at (by omega) hh, h2, Nat.and_zero]; omega
theorem sq_sub {h : Int32} : ∀ t : Nat, SQ h t &&& h = SQ h t
  | 0 => Int32.toBitVec_inj.mp (BitVec.zero_and ..)
  | t + 1 => by
    show ((SQ h t - h) &&& h) &&& h = _
    apply Int32.toBitVec_inj.mp
    show ((SQ h t - h).toBitVec &&& h.toBitVec) &&& h.toBitVec = (SQ h t - h).toBitVec &&& h.toBitVec
    rw [BitVec.and_assoc, BitVec.and_self]
/-- the reference's way to the next set -/
theorem sq_nx {h s : Int32} (hs : s &&& h = s) : (s ||| (h ^^^ (-1))) + 1 = s - h := by
  apply Int32.toBitVec_inj.mp
  have hs2 : s.toBitVec &&& h.toBitVec = s.toBitVec := congrArg Int32.toBitVec hs
  show (s.toBitVec ||| (h.toBitVec ^^^ (-1#32))) + 1#32 = s.toBitVec - h.toBitVec
  have e1 : h.toBitVec ^^^ (-1#32) = ~~~h.toBitVec := by
    apply BitVec.eq_of_getLsbD_eq
    intro i hi
    rw [BitVec.getLsbD_xor, BitVec.getLsbD_not]
    have e2 : (-1#32 : BitVec 32) = BitVec.allOnes 32 := by decide
    rw [e2, BitVec.getLsbD_allOnes]; simp [hi]
  have e3 : s.toBitVec &&& ~~~h.toBitVec = 0#32 := by
    apply BitVec.eq_of_getLsbD_eq
    intro i hi
    have e4 : (s.toBitVec &&& h.toBitVec).getLsbD i = s.toBitVec.getLsbD i := congrArg (fun b : BitVec 32 => b.getLsbD i) hs2
    rw [BitVec.getLsbD_and] at e4
    rw [BitVec.getLsbD_and, BitVec.getLsbD_not, BitVec.getLsbD_zero]
    cases q1 : s.toBitVec.getLsbD i <;> cases q2 : h.toBitVec.getLsbD i <;> simp_all
  rw [e1, ← BitVec.add_eq_or_of_and_eq_zero _ _ e3, BitVec.add_assoc, ← BitVec.neg_eq_not_add, BitVec.sub_eq_add_neg]
/-- the best of the first sets: the set, its size -/
noncomputable def BSF (ok : Nat → Prop) (sz : Nat → Nat) (v : Nat → Int) : Nat → Int × Nat
  | 0 => (-9, 25)
  | t + 1 => @ite (Int × Nat) (sz t < (BSF ok sz v t).2 ∧ ok t) (Classical.propDecidable _) (v t, sz t) (BSF ok sz v t)
section BSFS
variable {ok ok' : Nat → Prop} {sz : Nat → Nat} {v : Nat → Int} {t n : Nat}
theorem bsf_y (h : sz t < (BSF ok sz v t).2 ∧ ok t) : BSF ok sz v (t + 1) = (v t, sz t) := by rw [BSF, if_pos h]
theorem bsf_n (h : ¬ (sz t < (BSF ok sz v t).2 ∧ ok t)) : BSF ok sz v (t + 1) = BSF ok sz v t := by rw [BSF, if_neg h]
theorem bsf_c (h : ∀ k, k < n → (ok k ↔ ok' k)) : BSF ok sz v n = BSF ok' sz v n := by
  induction n with
  | zero => rfl
  | succ n ih =>
    have e := ih (fun k hk => h k (Nat.lt_succ_of_lt hk))
    have e2 : ok n = ok' n := propext (h n (Nat.lt_succ_self n))
    rw [BSF, BSF, e, e2]
end BSFS
section RTS
variable {ok : Nat → Prop} {sz : Nat → Nat} {v : Nat → Int} {t : Nat} {b f s z h r : Int32}
theorem bs_y (hb : b.toInt = (BSF ok sz v t).1 ∧ f.toInt = ((BSF ok sz v t).2 : Int)) (h1 : z.toInt = (sz t : Int)) (h2 : z.toInt < f.toInt) (hok : ok t) (hv : s.toInt = v t) : s.toInt = (BSF ok sz v (t + 1)).1 ∧ z.toInt = ((BSF ok sz v (t + 1)).2 : Int) := by
  have e := bsf_y (ok := ok) (sz := sz) (v := v) (t := t) ⟨by omega, hok⟩
  rw [e]; exact ⟨hv, h1⟩
theorem bs_n (hb : b.toInt = (BSF ok sz v t).1 ∧ f.toInt = ((BSF ok sz v t).2 : Int)) (h1 : z.toInt = (sz t : Int)) (hn : ¬ ok t ∨ f.toInt ≤ z.toInt) : b.toInt = (BSF ok sz v (t + 1)).1 ∧ f.toInt = ((BSF ok sz v (t + 1)).2 : Int) := by
  have e := bsf_n (ok := ok) (sz := sz) (v := v) (t := t) (fun q => hn.elim (fun y => y q.2) (fun y => by have := q.1; omega))
  rw [e]; exact hb
/-- the reference's best set -/
def RBS (b : Int32) (p : Int × Nat) : Prop := (b.toInt = -9 ∧ p = (-9, 25)) ∨ (0 ≤ b.toInt ∧ p = (b.toInt, CB (tN b) 32))
theorem rbs_0 (h : b.toInt = -9) : RBS b (BSF ok sz v 0) := Or.inl ⟨h, rfl⟩
theorem rbs_y (hb : RBS b (BSF ok sz v t)) (h1 : sz t = CB (tN s) 32) (h25 : sz t < 25) (h2 : b.toInt < 0 ∨ (CB (tN s) 32 : Int) < CB (tN b) 32) (hok : ok t) (hv : v t = s.toInt) (h0 : 0 ≤ s.toInt) : RBS s (BSF ok sz v (t + 1)) := by
  have hlt : sz t < (BSF ok sz v t).2 := by
    rcases hb with ⟨q, e⟩ | ⟨q, e⟩
    · rw [e]; exact h25
    · rw [e]; show _ < CB (tN b) 32; omega
  rw [bsf_y ⟨hlt, hok⟩, hv, h1]
  exact Or.inr ⟨h0, rfl⟩
theorem rbs_n (hb : RBS b (BSF ok sz v t)) (h1 : sz t = CB (tN s) 32) (hn : ¬ ok t ∨ (0 ≤ b.toInt ∧ (CB (tN b) 32 : Int) ≤ CB (tN s) 32)) : RBS b (BSF ok sz v (t + 1)) := by
  rw [bsf_n (fun q => hn.elim (fun y => y q.2) (fun y => by
    have q1 := q.1
    rcases hb with ⟨w, e⟩ | ⟨w, e⟩
    · omega
    · rw [e] at q1
      have q2 : sz t < CB (tN b) 32 := q1
      omega))]
  exact hb
theorem rbs_r (hb : RBS b (BSF ok sz v t)) : b.toInt = (BSF ok sz v t).1 := by
  rcases hb with ⟨q, e⟩ | ⟨q, e⟩
  · rw [e]; exact q
  · rw [e]
theorem sq_le (hh : tN h < 2 ^ 24) (t : Nat) : tN (SQ h t) < 2 ^ 24 := by
  have e : tN (SQ h t) = tN (SQ h t) &&& tN h := by rw [← tN_and, sq_sub]
  rw [e]
  exact Nat.lt_of_le_of_lt Nat.and_le_right hh
theorem i_of_tN (h : tN b < 2 ^ 24) : b.toInt = (tN b : Int) := tN_int (by omega)
theorem cb24_le (x : Nat) : CB x 24 ≤ 24 := by
  have e : CB x 24 = CNT (fun k => x.testBit k = true) 24 := cb_cnt (fun _ _ => Iff.rfl)
  rw [e]; exact cnt_le
theorem sq_sz (hh : tN h < 2 ^ 24) (t : Nat) : CB (tN (SQ h t)) 32 < 25 := by
  rw [cb_pow (sq_le hh t) 32 (by decide)]
  have := cb24_le (tN (SQ h t))
  omega
theorem sq_end (hh : tN h < 2 ^ 24) (hs : SQ h t = h) (ht : t < 2 ^ CB (tN h) 24) : t + 1 = 2 ^ CB (tN h) 24 := by
  rcases Nat.lt_or_ge t (2 ^ CB (tN h) 24 - 1) with q | q
  · have h1 := pd_ne 24 (tN h) t hh q
    rw [← sq_pd hh t (by omega), hs] at h1
    omega
  · omega
theorem sq_more (hh : tN h < 2 ^ 24) (hs : ¬ SQ h t = h) (ht : t < 2 ^ CB (tN h) 24) : t + 1 < 2 ^ CB (tN h) 24 := by
  rcases Nat.lt_or_ge (t + 1) (2 ^ CB (tN h) 24) with q | q
  · exact q
  · refine absurd ?_ hs
    have e : t = 2 ^ CB (tN h) 24 - 1 := by omega
    apply Int32.toBitVec_inj.mp
    apply BitVec.eq_of_toNat_eq
    show tN (SQ h t) = tN h
    rw [sq_pd hh t (by omega), e, pd_full 24 (tN h) hh]
theorem sq_1 (e1 : r = s - h) (e2 : z = r &&& h) (hs : s = SQ h t) : z = SQ h (t + 1) := by rw [e2, e1, hs]; rfl
theorem sq_2 {x y w : Int32} (e1 : x = h ^^^ (-1)) (e2 : y = s ||| x) (e3 : w = y + 1) (e4 : z = w &&& h) (hs : s = SQ h t) : z = SQ h (t + 1) := by
  rw [e4, e3, e2, e1, hs, sq_nx (sq_sub t)]; rfl
theorem pow12 {c : Nat} (h : c ≤ 12) : 2 ^ c ≤ 4096 := Nat.pow_le_pow_right (by decide) h
theorem shl_12 : ∀ k, k ≤ 12 → ((1 : Int32) <<< (Int32.ofNat k &&& 31)).toInt = ((2 ^ k : Nat) : Int) := by decide +kernel
theorem shl_p {c x : Int32} {n : Nat} (hc : c.toInt = (n : Int)) (hn : n ≤ 12) (e : x = (1 : Int32) <<< (c &&& 31)) : x.toInt = ((2 ^ n : Nat) : Int) := by
  have e2 : c = Int32.ofNat n := by
    have h1 := i_ofn (h := c) (by omega)
    rw [h1]; congr 1; omega
  rw [e, e2]; exact shl_12 n hn
/-- the reference's count of bits -/
def BTS (n s a : Int32) : Prop := n.toInt + (CB (tN s) 32 : Int) = (CB (tN a) 32 : Int)
theorem shr_1 {s x : Int32} (h : 0 ≤ s.toInt) (e : x = s >>> ((1 : Int32) &&& 31)) : tN x = tN s / 2 := by
  have h1 := tN_i h
  have h2 : x.toInt = s.toInt / 2 := by
    have h3 := tshr1 e
    rw [h3]
  have h4 := tN_i (a := x) (by omega)
  omega
theorem and_1 {s x : Int32} (e : x = s &&& 1) : x.toInt = ((tN s % 2 : Nat) : Int) := by
  have k1 : tN (1 : Int32) = 1 := by decide
  have h1 : tN x = tN s % 2 := by rw [e, tN_and, k1]; exact Nat.and_two_pow_sub_one_eq_mod _ 1
  rw [tN_int (by omega), h1]
theorem bts_s {n s a n' s' x : Int32} (h : BTS n s a) (h0 : 0 < s.toInt) (ex : x = s &&& 1) (en : n' = n + x) (es : s' = s >>> ((1 : Int32) &&& 31)) (hn : 0 ≤ n.toInt ∧ n.toInt ≤ 32) : BTS n' s' a := by
  have h1 := and_1 ex
  have h2 := shr_1 (by omega) es
  have h3 : n'.toInt = n.toInt + x.toInt := tadd en rfl rfl (by omega)
  have h4 := tN_lt s
  unfold BTS at *
  have e1 : CB (tN s) 32 = tN s % 2 + CB (tN s / 2) 31 := cb_2 _ 31
  have e2 : CB (tN s / 2) 32 = CB (tN s / 2) 31 := cb_pow (show tN s / 2 < 2 ^ 31 by omega) 32 (by decide)
  rw [h2, e2, h3, h1]; omega
theorem bts_b {n s a : Int32} (h : BTS n s a) : n.toInt ≤ 32 := by
  have e : CB (tN a) 32 = CNT (fun k => (tN a).testBit k = true) 32 := cb_cnt (fun _ _ => Iff.rfl)
  have := cnt_le (p := fun k => (tN a).testBit k = true) (n := 32)
  unfold BTS at h
  omega
theorem bts_e {n s a : Int32} (h : BTS n s a) (h0 : s.toInt = 0) : n.toInt = (CB (tN a) 32 : Int) := by
  unfold BTS at h
  rw [tN_0 h0] at h
  have e : CB 0 32 = 0 := by decide
  rw [e] at h; omega
/-- the hours of those who would hear, one after the other -/
def CTG (ho su : Nat → Int32) (p : Nat → Prop) (c n : Int) : Prop := ∀ s : Int32, CNT (fun i => ¬ (ho i &&& s).toInt = 0) c.toNat = CNT (fun h => p h ∧ ¬ (su h &&& s).toInt = 0) n.toNat
theorem ctg_y {G : Nat → Nat → Int32} {q i : Nat} {u su : Nat → Int32} {p : Nat → Prop} {c c' n n' : Int} {w : Int32} (h : CTG (G q) su p c n) (hu : u = up2 G q i w q) (hi : (i : Int) = c) (hc : c' = c + 1) (h0 : 0 ≤ n) (hn : n' = n + 1) (hp : p n.toNat) (hw : w = su n.toNat) : CTG u su p c' n' := by
  intro s
  subst hu hc hn hw
  have e1 : (c + 1).toNat = i + 1 := by omega
  have e2 : (n + 1).toNat = n.toNat + 1 := by omega
  have e3 : c.toNat = i := by omega
  have h1 := h s
  rw [e3] at h1
  have h2 : CNT (fun j => ¬ (up2 G q i (su n.toNat) q j &&& s).toInt = 0) i = CNT (fun j => ¬ (G q j &&& s).toInt = 0) i := cnt_c (fun k hk => by rw [up2_f _ _ _ (show k ≠ i by omega)])
  rw [e1, e2]
  by_cases z : ¬ (su n.toNat &&& s).toInt = 0
  · rw [cnt_y (p := fun j => ¬ (up2 G q i (su n.toNat) q j &&& s).toInt = 0) (by rw [up2_s]; exact z), cnt_y (p := fun h => p h ∧ ¬ (su h &&& s).toInt = 0) ⟨hp, z⟩, h2, h1]
  · rw [cnt_n (p := fun j => ¬ (up2 G q i (su n.toNat) q j &&& s).toInt = 0) (by rw [up2_s]; exact z), cnt_n (p := fun h => p h ∧ ¬ (su h &&& s).toInt = 0) (fun y => z y.2), h2, h1]
theorem ctg_n {ho su : Nat → Int32} {p : Nat → Prop} {c n n' : Int} (h : CTG ho su p c n) (h0 : 0 ≤ n) (hn : n' = n + 1) (hp : ¬ p n.toNat) : CTG ho su p c n' := by
  intro s
  subst hn
  have e2 : (n + 1).toNat = n.toNat + 1 := by omega
  rw [e2, cnt_n (p := fun h => p h ∧ ¬ (su h &&& s).toInt = 0) (fun y => hp y.1)]; exact h s
end RTS
theorem fh_cnt {l : Nat → Int64} {su : Nat → Int32} {p : Nat → Prop} {n w r : Int} {a : Int32} {sz : Nat → Nat} {v : Nat → Int} {T : Nat} (h : LSTN l su p n) (hn : n ≤ 64) (hF : (¬ w ≤ ((CNT (fun h => CVR l a h) 64 : Nat) : Int) ∧ r = -9) ∨ (w ≤ ((CNT (fun h => CVR l a h) 64 : Nat) : Int) ∧ r = (BSF (fun t => w ≤ ((CNT (fun h => CVR l (SQ a t) h) 64 : Nat) : Int)) sz v T).1)) : (¬ w ≤ ((CNT (fun h => p h ∧ HIT (su h) a) n.toNat : Nat) : Int) ∧ r = -9) ∨ (w ≤ ((CNT (fun h => p h ∧ HIT (su h) a) n.toNat : Nat) : Int) ∧ r = (BSF (fun t => w ≤ ((CNT (fun h => p h ∧ HIT (su h) (SQ a t)) n.toNat : Nat) : Int)) sz v T).1) := by
  rw [cv_cnt h hn a] at hF
  have e : BSF (fun t => w ≤ ((CNT (fun h => CVR l (SQ a t) h) 64 : Nat) : Int)) sz v T = BSF (fun t => w ≤ ((CNT (fun h => p h ∧ HIT (su h) (SQ a t)) n.toNat : Nat) : Int)) sz v T := bsf_c (fun k _ => by rw [cv_cnt h hn (SQ a k)])
  rw [e] at hF; exact hF
