/-- a set breaks the way to a node -/
def WBR (on : Nat → Int32) (s : Int32) (k : Nat) : Prop := ∃ i : Nat, i < 12 ∧ WAY on 20 k i ∧ IB s i = true
theorem wbr_0 {on : Nat → Int32} {s : Int32} : ¬ WBR on s 0 := fun ⟨_, _, h, _⟩ => way_0 h
theorem wbr_1 {on : Nat → Int32} {s : Int32} {n : Int} (hon : ∀ k : Nat, 1 ≤ k → (k : Int) < n → 0 ≤ (on k).toInt ∧ (on k).toInt < k) (hn : n ≤ 20) {k : Nat} (h1 : 1 ≤ k) (hk : (k : Int) < n) : WBR on s k ↔ (k < 12 ∧ IB s k = true) ∨ WBR on s (on k).toNatClampNeg := by
  constructor
  · rintro ⟨i, a, b, c⟩
    rcases (way_1 hon hn h1 hk).mp b with e | e
    · subst e; exact Or.inl ⟨a, c⟩
    · exact Or.inr ⟨i, a, e, c⟩
  · rintro (⟨a, c⟩ | ⟨i, a, b, c⟩)
    · exact ⟨k, a, (way_1 hon hn h1 hk).mpr (Or.inl rfl), c⟩
    · exact ⟨i, a, (way_1 hon hn h1 hk).mpr (Or.inr b), c⟩
/-- on the way up: whether it was broken before, or is from here on -/
def WBI (on : Nat → Int32) (s b m : Int32) (h : Nat) : Prop := (b.toInt = 0 ∨ b.toInt = 1) ∧ ((b.toInt = 1 ∨ WBR on s m.toNatClampNeg) ↔ WBR on s h)
theorem wbi_0 {on : Nat → Int32} {s b m : Int32} {h : Nat} (hb : b.toInt = 0) (hm : m.toNatClampNeg = h) : WBI on s b m h := ⟨Or.inl hb, by rw [hm]; exact ⟨fun q => q.elim (fun z => by omega) id, Or.inr⟩⟩
theorem wbi_s {on : Nat → Int32} {s b b' m m' : Int32} {h : Nat} {n : Int} (hi : WBI on s b m h) (hon : ∀ k : Nat, 1 ≤ k → (k : Int) < n → 0 ≤ (on k).toInt ∧ (on k).toInt < k) (hn : n ≤ 20) (h1 : 1 ≤ m.toInt) (hm : m.toInt < n) (em : m' = on m.toNatClampNeg) (hb : (b'.toInt = 1 ∧ (b.toInt = 1 ∨ (m.toInt < 12 ∧ IB s m.toNatClampNeg = true))) ∨ (b'.toInt = 0 ∧ b.toInt = 0 ∧ ¬ (m.toInt < 12 ∧ IB s m.toNatClampNeg = true))) : WBI on s b' m' h := by
  have h8 := tcl m
  refine ⟨hb.elim (fun q => Or.inr q.1) (fun q => Or.inl q.1), ?_⟩
  rw [← hi.2, wbr_1 hon hn (show 1 ≤ m.toNatClampNeg by omega) (by omega), em]
  rcases hb with ⟨q, z⟩ | ⟨q, z, y⟩
  · refine ⟨fun _ => z.imp id (fun y => Or.inl ⟨by omega, y.2⟩), fun _ => Or.inl q⟩
  · constructor
    · rintro (e | e)
      · omega
      · exact Or.inr (Or.inr e)
    · rintro (e | e | e)
      · omega
      · exact absurd ⟨by omega, e.2⟩ y
      · exact Or.inr e
theorem wbi_e {on : Nat → Int32} {s b m : Int32} {h : Nat} (hi : WBI on s b m h) (hm : m.toInt ≤ 0) : b.toInt = 1 ↔ WBR on s h := by
  have h8 := tcl m
  rw [← hi.2, show m.toNatClampNeg = 0 by omega]
  exact ⟨Or.inl, fun q => q.elim id (fun z => absurd z wbr_0)⟩
def EXPL (on : Nat → Int32) (s : Int32) (cm hn : Nat → Int32) (nh : Int) : Prop := ∀ h : Nat, (h : Int) < nh → (¬ (cm h).toInt = 0 ↔ WBR on s (hn h).toNatClampNeg)
theorem pow_h {c : Nat} (h : 1 ≤ c) : 2 ^ c = 2 * 2 ^ (c - 1) := by
  obtain ⟨k, rfl⟩ : ∃ k, c = k + 1 := ⟨c - 1, by omega⟩
  rw [Nat.add_sub_cancel, Nat.pow_succ']
theorem cb12 {t : Nat} (h : t < 4096) : CB t 32 ≤ 12 := by
  rw [cb_pow (n := 12) (show t < 2 ^ 12 from h) 32 (by decide), cb_cnt (p := fun k => t.testBit k = true) (fun _ _ => Iff.rfl)]
  exact cnt_le
theorem bk_eq {on cm hn pa : Nat → Int32} {nh n : Int} {o : Int32} {w r r' : Int} (hon : ∀ k : Nat, 1 ≤ k → (k : Int) < n → 0 ≤ (on k).toInt ∧ (on k).toInt < k) (hn1 : 1 ≤ n) (hn20 : n ≤ 20) (hh : ∀ h : Nat, (h : Int) < nh → 0 ≤ (hn h).toInt ∧ (hn h).toInt < n) (hp : ∀ k : Nat, (k : Int) < n → ∀ i : Nat, i < 32 → (IB (pa k) i = true ↔ i < 12 ∧ WAY on 20 k i)) (hO : OPN o cm hn pa nh n)
    (hA : BKR (BRF (fun t => HIT2 (SQ o t) cm hn pa nh) (fun t => CB (tN (SQ o t)) 32) (fun t => (SQ o t).toInt) (2 ^ CB (tN o) 24)) w r)
    (hB : BKR (BRF (fun t => EXPL on (Int32.ofNat (2 * t)) cm hn nh) (fun t => CB (2 * t) 32) (fun t => ((2 * t : Nat) : Int)) (2 ^ (min 12 n.toNat - 1))) w r') (hw : w = 0 ∨ w = 1 ∨ w = 2) : r = r' := by
  obtain ⟨o1, o2⟩ := opn_12 hO
  have h24 : tN o < 2 ^ 24 := by omega
  have hm : 2 ^ min 12 n.toNat = 2 * 2 ^ (min 12 n.toNat - 1) := pow_h (by omega)
  have hm12 : 2 ^ min 12 n.toNat ≤ 2 ^ 12 := Nat.pow_le_pow_right (by decide) (by omega)
  have hb : ∀ (h : Nat) (s : Int32), (h : Int) < nh → (¬ (pa (hn h).toNatClampNeg &&& s).toInt = 0 ↔ WBR on s (hn h).toNatClampNeg) := fun h s hh9 => by
    obtain ⟨a1, a2⟩ := hh h hh9
    have h8 := tcl (hn h)
    rw [ib_ne]
    constructor
    · rintro ⟨i, b1, b2, b3⟩
      obtain ⟨c1, c2⟩ := (hp _ (by omega) i b1).mp b2
      exact ⟨i, c1, c2, b3⟩
    · rintro ⟨i, b1, b2, b3⟩
      exact ⟨i, by omega, (hp _ (by omega) i (by omega)).mpr ⟨b1, b2⟩, b3⟩
  have hoN : tN o < 2 ^ min 12 n.toNat := tN_top (by omega) (fun i h1 h2 q => by
    obtain ⟨q1, q2, q3, -⟩ := (hO i h2).mp q
    omega)
  obtain ⟨OK, hOK⟩ : ∃ OK : Nat → Prop, OK = fun v => v &&& tN o = v ∧ v < 2 ^ 24 ∧ HIT2 (Int32.ofNat v) cm hn pa nh := ⟨_, rfl⟩
  have e1 := brf_all (ok := OK) (sz := fun v => CB v 32) (v := fun v => (v : Int)) (N := 2 ^ min 12 n.toNat) h24 (fun k q => by rw [hOK] at q; exact ⟨q.1, q.2.1⟩) hoN
  have e2 : BRF (fun t => OK (PD 24 (tN o) t)) (fun t => CB (PD 24 (tN o) t) 32) (fun t => ((PD 24 (tN o) t : Nat) : Int)) (2 ^ CB (tN o) 24) = BRF (fun t => HIT2 (SQ o t) cm hn pa nh) (fun t => CB (tN (SQ o t)) 32) (fun t => (SQ o t).toInt) (2 ^ CB (tN o) 24) := brf_c _ (fun t ht => by
    have p1 := sq_pd h24 t (by omega)
    have p2 := sq_le h24 t
    have p3 : Int32.ofNat (tN (SQ o t)) = SQ o t := i_tN (tN_of (by omega))
    rw [← p1]
    refine ⟨?_, rfl, (i_of_tN p2).symm⟩
    rw [hOK]
    show (tN (SQ o t) &&& tN o = tN (SQ o t) ∧ tN (SQ o t) < 2 ^ 24 ∧ HIT2 (Int32.ofNat (tN (SQ o t))) cm hn pa nh) ↔ _
    rw [p3]
    exact ⟨fun q => q.2.2, fun q => ⟨by rw [← tN_and, sq_sub], p2, q⟩⟩)
  have e3 := brf_even (ok := OK) (sz := fun v => CB v 32) (v := fun v => (v : Int)) (2 ^ (min 12 n.toNat - 1)) (fun k q => by
    rw [hOK] at q
    have q1 := q.1
    have e5 : k = 2 * (k / 2) + k % 2 := by omega
    have e6 : tN o = 2 * (tN o / 2) + 0 := by omega
    rw [e6] at q1
    rw [e5, and_2 (by omega) (by decide), Nat.and_zero] at q1
    omega)
  have e4 : BRF (fun t => OK (2 * t)) (fun t => CB (2 * t) 32) (fun t => ((2 * t : Nat) : Int)) (2 ^ (min 12 n.toNat - 1)) = BRF (fun t => EXPL on (Int32.ofNat (2 * t)) cm hn nh) (fun t => CB (2 * t) 32) (fun t => ((2 * t : Nat) : Int)) (2 ^ (min 12 n.toNat - 1)) := brf_c _ (fun t ht => by
    refine ⟨?_, rfl, rfl⟩
    have t1 : 2 * t < 2 ^ min 12 n.toNat := by omega
    have ts : tN (Int32.ofNat (2 * t)) = 2 * t := tN_of (by omega)
    rw [hOK]
    show (2 * t &&& tN o = 2 * t ∧ 2 * t < 2 ^ 24 ∧ HIT2 (Int32.ofNat (2 * t)) cm hn pa nh) ↔ _
    generalize Int32.ofNat (2 * t) = s at ts
    constructor
    · rintro ⟨q1, -, q3⟩ h hh9
      rw [← hb h s hh9]
      refine ⟨fun z => q3 h hh9 z, fun z y => ?_⟩
      obtain ⟨i, i1, i2, i3⟩ := ib_ne.mp z
      have i4 : IB o i = true := by
        have e5 : (tN s &&& tN o).testBit i = (tN s).testBit i := by rw [ts, q1]
        rw [Nat.testBit_and, show (tN s).testBit i = true from i3] at e5
        rw [Bool.true_and] at e5; exact e5
      exact ((hO i i1).mp i4).2.2.2 h hh9 y i2
    · intro q
      refine ⟨?_, by omega, fun h hh9 z => (hb h s hh9).mpr ((q h hh9).mp z)⟩
      have q1 := tN_ib (a := s) (b := o) (fun i hi q9 => (hO i hi).mpr (by
        have b1 : i < min 12 n.toNat := Nat.lt_of_not_le (fun y => by
          have y1 : tN s < 2 ^ i := Nat.lt_of_lt_of_le (by omega) (Nat.pow_le_pow_right (by decide) y)
          have y2 : (tN s).testBit i = false := Nat.testBit_lt_two_pow y1
          rw [show (tN s).testBit i = true from q9] at y2; cases y2)
        have b2 : 1 ≤ i := Nat.one_le_iff_ne_zero.mpr (fun y => by
          rw [y] at q9
          have y2 : (tN s).testBit 0 = true := q9
          rw [Nat.testBit_zero, ts] at y2
          have := of_decide_eq_true y2
          omega)
        refine ⟨b2, by omega, by omega, fun h hh9 z y => ?_⟩
        obtain ⟨a1, a2⟩ := hh h hh9
        have h8 := tcl (hn h)
        obtain ⟨c1, c2⟩ := (hp _ (by omega) i hi).mp y
        exact ((q h hh9).mpr ⟨i, c1, c2, q9⟩) z))
      rw [ts] at q1; exact q1)
  rw [← e2, ← e1, hm, e3, e4] at hA
  exact bkr_det hA hB hw
theorem rks_1 {b r : Int32} {p : BRS} (hb : RKS b r p) : 0 ≤ b.toInt → 1 ≤ r.toInt := fun q => hb.elim (fun z => by omega) (fun z => z.2.2)
