theorem rt_cnt {ho su hi wh : Nat → Int32} {p q : Nat → Prop} {c n w : Int} {a : Int32} {sz : Nat → Nat} {v : Nat → Int} {T : Nat} (h : CTG ho su (fun h => ¬ (hi h).toInt = 0 ∧ ¬ (wh h).toInt = 0) c n ∧ 0 ≤ c ∧ c ≤ 40) (h3 : ∀ h : Nat, (h : Int) < n → (¬ (hi h).toInt = 0 ↔ p h)) (h4 : ∀ h : Nat, (h : Int) < n → (¬ (wh h).toInt = 0 ↔ q h)) : (((CNT (fun i => ¬ (ho i &&& a).toInt = 0) c.toNat : Nat) : Int) = ((CNT (fun h => (p h ∧ q h) ∧ ¬ (su h &&& a).toInt = 0) n.toNat : Nat) : Int)) ∧ BSF (fun t => w ≤ ((CNT (fun i => ¬ (ho i &&& SQ a t).toInt = 0) c.toNat : Nat) : Int)) sz v T = BSF (fun t => w ≤ ((CNT (fun h => (p h ∧ q h) ∧ ¬ (su h &&& SQ a t).toInt = 0) n.toNat : Nat) : Int)) sz v T := by
  have e (s : Int32) : CNT (fun i => ¬ (ho i &&& s).toInt = 0) c.toNat = CNT (fun h => (p h ∧ q h) ∧ ¬ (su h &&& s).toInt = 0) n.toNat := by
    rw [h.1 s]
    exact cnt_c (fun k hk => and_congr (and_congr (h3 k (by omega)) (h4 k (by omega))) Iff.rfl)
  exact ⟨by rw [e a], bsf_c (fun k _ => by rw [e (SQ a k)])⟩
theorem rt_eq {P Q : Nat → Prop} {su : Nat → Int32} {n n' : Nat} {a w : Int32} {r r' : Int} {sz : Nat → Nat} {v : Nat → Int} {T : Nat} (hn : n = n') (h : ∀ j, j < n → (P j ↔ Q j)) (h0 : 0 ≤ a.toInt) (h1 : a.toInt ≤ 16777215) (hA : (¬ w.toInt ≤ ((CNT (fun h => P h ∧ HIT (su h) a) n : Nat) : Int) ∧ r = -9) ∨ (w.toInt ≤ ((CNT (fun h => P h ∧ HIT (su h) a) n : Nat) : Int) ∧ r = (BSF (fun t => w.toInt ≤ ((CNT (fun h => P h ∧ HIT (su h) (SQ a t)) n : Nat) : Int)) sz v T).1)) (hB : (¬ w.toInt ≤ ((CNT (fun h => Q h ∧ ¬ (su h &&& a).toInt = 0) n' : Nat) : Int) ∧ r' = -9) ∨ (w.toInt ≤ ((CNT (fun h => Q h ∧ ¬ (su h &&& a).toInt = 0) n' : Nat) : Int) ∧ r' = (BSF (fun t => w.toInt ≤ ((CNT (fun h => Q h ∧ ¬ (su h &&& SQ a t).toInt = 0) n' : Nat) : Int)) sz v T).1)) : r = r' := by
  subst hn
  have e (s : Int32) (z : tN s < 2 ^ 24) : CNT (fun h => P h ∧ HIT (su h) s) n = CNT (fun h => Q h ∧ ¬ (su h &&& s).toInt = 0) n := cnt_c (fun k hk => and_congr (h k hk) (hit_and (by have := i_of_tN z; omega) (by have := i_of_tN z; omega)))
  have ha : tN a < 2 ^ 24 := by have := tN_i h0; omega
  have e2 : BSF (fun t => w.toInt ≤ ((CNT (fun h => P h ∧ HIT (su h) (SQ a t)) n : Nat) : Int)) sz v T = BSF (fun t => w.toInt ≤ ((CNT (fun h => Q h ∧ ¬ (su h &&& SQ a t).toInt = 0) n : Nat) : Int)) sz v T := bsf_c (fun k _ => by rw [e (SQ a k) (sq_le ha k)])
  rw [e a ha, e2] at hA
  rcases hA with ⟨a1, a2⟩ | ⟨a1, a2⟩ <;> rcases hB with ⟨b1, b2⟩ | ⟨b1, b2⟩
  · exact a2.trans b2.symm
  · exact absurd b1 a1
  · exact absurd a1 b1
  · exact a2.trans b2.symm
