set_option maxHeartbeats 4000000 in
set_option maxRecDepth 100000 in
theorem rel_printed (k : Nat) (g : gG) (J : Nat → Nat → Int32) (I : Nat → Nat → Nat → Int32) (P : Nat → Nat → Nat → Option Nat) (E : Nat → Option Nat) (N : Nat → Nat) (dy : List (Nat × Nat)) (r271 : Int32) (x268 : Int32) (u271 : (Nat → Nat → Int32) × (Nat → Nat → Nat → Int32)) (x270 : Int32) (r274 : Int32) (u274 : (Nat → Nat → Int32)) (hk64 : k ≤ 64) (hwf0 : WXF g J P E N dy) (hwm0 : WM J) (hnow0 : 0 ≤ (J 3 1).toInt ∧ (J 3 1).toInt ≤ 9999 ∧ (J 27 2).toInt ≤ (J 3 1).toInt) (hrl0 : 0 ≤ (J 12 11).toInt) (hac0 : 0 ≤ (J 12 10).toInt) (hrel0 : (J 3 1).toInt = (J 13 31).toInt) (hrel1 : J 4 4 = J 13 33) (hrel2 : J 12 12 = J 13 38) (hrel3 : J 12 13 = J 13 39) (hrel4 : 1 ≤ (J 12 12).toInt ∧ 0 ≤ (J 12 13).toInt ∧ (J 12 13).toInt ≤ 240) (hrel5 : (J 24 2).toInt = (J 13 37).toInt) (hrel6 : RDR I E P (J 113) (J 114) (J 115) (J 24 2).toInt) (hrel7 : ZR (J 115) (J 24 2).toInt) (hrel8 : INJ E P 24 (J 24 2).toInt) (hrel9 : SPR I E P (J 27 2).toInt (J 3 1).toInt (J 116) (J 117) (J 118) (J 119) (J 120)) (hrel10 : (J 26 2).toInt = (J 13 42).toInt) (hrel11 : (J 20 2).toInt = (J 13 32).toInt) (hrel12 : (J 22 2).toInt = (J 13 35).toInt) (hrel13 : (J 11 2).toInt = (J 13 55).toInt) (hrel14 : ∀ k : Nat, (k : Int) < (J 11 2).toInt → J 43 k = J 153 k) (hrel15 : (J 25 2).toInt = (J 13 40).toInt) (hrel16 : TMR I P E N (J 25 2).toInt (J 121) (J 122) (J 123) (J 124)) (hrel17 : (J 12 11).toInt = (J 13 44).toInt) (hrel18 : ∀ k : Nat, (k : Int) < (J 12 11).toInt → J 41 k = J 130 k) (hrel19 : INJ E P 26 (J 26 2).toInt) (hrel20 : NWR I E P (J 127) (J 128) (J 26 2).toInt) (hrel21 : OFB (J 116) (J 119) (J 3 1).toInt (J 26 2).toInt) (hrel22 : FRR I E P (J 116) (J 119) (J 26 2).toInt (J 3 1).toInt) (hc271 : ((r271.toInt = (-1) ∧ (¬ (0 ≤ x268.toInt ∧ x268.toInt < (J 26 2).toInt)) ∧ u271.2 5 1 = I 5 1) ∨ (r271.toInt = (-3) ∧ (0 ≤ x268.toInt ∧ x268.toInt < (J 26 2).toInt ∧ ¬ (I 5 1 (elt E P 26 x268.toNatClampNeg)).toInt = -1) ∧ u271.2 5 1 = I 5 1) ∨ (r271.toInt = (-4) ∧ (0 ≤ x268.toInt ∧ x268.toInt < (J 26 2).toInt ∧ (I 5 1 (elt E P 26 x268.toNatClampNeg)).toInt = -1 ∧ x270.toInt < (J 3 1).toInt) ∧ u271.2 5 1 = I 5 1) ∨ (r271.toInt = (-6) ∧ (0 ≤ x268.toInt ∧ x268.toInt < (J 26 2).toInt ∧ (I 5 1 (elt E P 26 x268.toNatClampNeg)).toInt = -1 ∧ (J 3 1).toInt ≤ x270.toInt ∧ 9999 < x270.toInt) ∧ u271.2 5 1 = I 5 1) ∨ (r271.toInt = 1 ∧ (0 ≤ x268.toInt ∧ x268.toInt < (J 26 2).toInt ∧ (I 5 1 (elt E P 26 x268.toNatClampNeg)).toInt = -1 ∧ (J 3 1).toInt ≤ x270.toInt ∧ x270.toInt ≤ 9999) ∧ (∀ b : Nat, b ≠ elt E P 26 x268.toNatClampNeg → u271.2 5 1 b = I 5 1 b) ∧ u271.2 5 1 (elt E P 26 x268.toNatClampNeg) = x270))) (hc274 : ((r274.toInt = (-1) ∧ (¬ (0 ≤ x268.toInt ∧ x268.toInt < (J 13 42).toInt)) ∧ u274 128 = J 128) ∨ (r274.toInt = (-3) ∧ (0 ≤ x268.toInt ∧ x268.toInt < (J 13 42).toInt ∧ 0 ≤ (J 128 x268.toNatClampNeg).toInt) ∧ u274 128 = J 128) ∨ (r274.toInt = (-4) ∧ (0 ≤ x268.toInt ∧ x268.toInt < (J 13 42).toInt ∧ (J 128 x268.toNatClampNeg).toInt < 0 ∧ x270.toInt < (J 13 31).toInt) ∧ u274 128 = J 128) ∨ (r274.toInt = (-6) ∧ (0 ≤ x268.toInt ∧ x268.toInt < (J 13 42).toInt ∧ (J 128 x268.toNatClampNeg).toInt < 0 ∧ (J 13 31).toInt ≤ x270.toInt ∧ 9999 < x270.toInt) ∧ u274 128 = J 128) ∨ (r274.toInt = 1 ∧ (0 ≤ x268.toInt ∧ x268.toInt < (J 13 42).toInt ∧ (J 128 x268.toNatClampNeg).toInt < 0 ∧ (J 13 31).toInt ≤ x270.toInt ∧ x270.toInt ≤ 9999) ∧ u274 128 = up2 J 128 x268.toNatClampNeg x270 128))) : (NWR (hv I [] [(5, 1)] u271.2) E P ((hv (hv J [42] [] u271.1) [100, 128] [] u274) 127) ((hv (hv J [42] [] u271.1) [100, 128] [] u274) 128) ((hv (hv J [42] [] u271.1) [100, 128] [] u274) 26 2).toInt) := by
  have hwf := hwf0
  have hwm := hwm0
  have hnow := hnow0
  have hlo20 : 0 ≤ (J 20 2).toInt := hwf.1.1.1
  have hlo22 : 0 ≤ (J 22 2).toInt := hwf.1.2.2.1.1
  have htp0 := hwm.2.2.2.2.2.2.2.2
  have hrw9 := hwm.2.2.2.2.2.2
  have hlo26 : 0 ≤ (J 26 2).toInt := hwf.2.1.2.2.1.1
  have hnw9 := nwr_at (a := x268) hrel20
  rcases hc271 with ⟨qAa, qAb, qAx0⟩ | ⟨qAa, qAb, qAx0⟩ | ⟨qAa, qAb, qAx0⟩ | ⟨qAa, qAb, qAx0⟩ | ⟨qAa, qAb, qAx0, qAx1⟩
  · rcases hc274 with ⟨qBa, qBb, qBx0⟩ | ⟨qBa, qBb, qBx0⟩ | ⟨qBa, qBb, qBx0⟩ | ⟨qBa, qBb, qBx0⟩ | ⟨qBa, qBb, qBx0⟩
    · first | exact nwr_same hrel20 rfl qAx0 qBx0 | exact nwr_set (n := (J 26 2).toInt) (v := x270) hrel20 hrel19 (by have h8 := tcl x268; omega) rfl qAx0 qAx1 (by omega) qBx0
    · first | (exfalso; omega) | exact (by first | exact nwr_same hrel20 rfl qAx0 qBx0 | exact nwr_set (n := (J 26 2).toInt) (v := x270) hrel20 hrel19 (by have h8 := tcl x268; omega) rfl qAx0 qAx1 (by omega) qBx0)
    · first | (exfalso; omega) | exact (by first | exact nwr_same hrel20 rfl qAx0 qBx0 | exact nwr_set (n := (J 26 2).toInt) (v := x270) hrel20 hrel19 (by have h8 := tcl x268; omega) rfl qAx0 qAx1 (by omega) qBx0)
    · first | (exfalso; omega) | exact (by first | exact nwr_same hrel20 rfl qAx0 qBx0 | exact nwr_set (n := (J 26 2).toInt) (v := x270) hrel20 hrel19 (by have h8 := tcl x268; omega) rfl qAx0 qAx1 (by omega) qBx0)
    · first | (exfalso; omega) | exact (by first | exact nwr_same hrel20 rfl qAx0 qBx0 | exact nwr_set (n := (J 26 2).toInt) (v := x270) hrel20 hrel19 (by have h8 := tcl x268; omega) rfl qAx0 qAx1 (by omega) qBx0)
  · rcases hc274 with ⟨qBa, qBb, qBx0⟩ | ⟨qBa, qBb, qBx0⟩ | ⟨qBa, qBb, qBx0⟩ | ⟨qBa, qBb, qBx0⟩ | ⟨qBa, qBb, qBx0⟩
    · first | (exfalso; omega) | exact (by first | exact nwr_same hrel20 rfl qAx0 qBx0 | exact nwr_set (n := (J 26 2).toInt) (v := x270) hrel20 hrel19 (by have h8 := tcl x268; omega) rfl qAx0 qAx1 (by omega) qBx0)
    · first | exact nwr_same hrel20 rfl qAx0 qBx0 | exact nwr_set (n := (J 26 2).toInt) (v := x270) hrel20 hrel19 (by have h8 := tcl x268; omega) rfl qAx0 qAx1 (by omega) qBx0
    · first | (exfalso; omega) | exact (by first | exact nwr_same hrel20 rfl qAx0 qBx0 | exact nwr_set (n := (J 26 2).toInt) (v := x270) hrel20 hrel19 (by have h8 := tcl x268; omega) rfl qAx0 qAx1 (by omega) qBx0)
    · first | (exfalso; omega) | exact (by first | exact nwr_same hrel20 rfl qAx0 qBx0 | exact nwr_set (n := (J 26 2).toInt) (v := x270) hrel20 hrel19 (by have h8 := tcl x268; omega) rfl qAx0 qAx1 (by omega) qBx0)
    · first | (exfalso; omega) | exact (by first | exact nwr_same hrel20 rfl qAx0 qBx0 | exact nwr_set (n := (J 26 2).toInt) (v := x270) hrel20 hrel19 (by have h8 := tcl x268; omega) rfl qAx0 qAx1 (by omega) qBx0)
  · rcases hc274 with ⟨qBa, qBb, qBx0⟩ | ⟨qBa, qBb, qBx0⟩ | ⟨qBa, qBb, qBx0⟩ | ⟨qBa, qBb, qBx0⟩ | ⟨qBa, qBb, qBx0⟩
    · first | (exfalso; omega) | exact (by first | exact nwr_same hrel20 rfl qAx0 qBx0 | exact nwr_set (n := (J 26 2).toInt) (v := x270) hrel20 hrel19 (by have h8 := tcl x268; omega) rfl qAx0 qAx1 (by omega) qBx0)
    · first | (exfalso; omega) | exact (by first | exact nwr_same hrel20 rfl qAx0 qBx0 | exact nwr_set (n := (J 26 2).toInt) (v := x270) hrel20 hrel19 (by have h8 := tcl x268; omega) rfl qAx0 qAx1 (by omega) qBx0)
    · first | exact nwr_same hrel20 rfl qAx0 qBx0 | exact nwr_set (n := (J 26 2).toInt) (v := x270) hrel20 hrel19 (by have h8 := tcl x268; omega) rfl qAx0 qAx1 (by omega) qBx0
    · first | (exfalso; omega) | exact (by first | exact nwr_same hrel20 rfl qAx0 qBx0 | exact nwr_set (n := (J 26 2).toInt) (v := x270) hrel20 hrel19 (by have h8 := tcl x268; omega) rfl qAx0 qAx1 (by omega) qBx0)
    · first | (exfalso; omega) | exact (by first | exact nwr_same hrel20 rfl qAx0 qBx0 | exact nwr_set (n := (J 26 2).toInt) (v := x270) hrel20 hrel19 (by have h8 := tcl x268; omega) rfl qAx0 qAx1 (by omega) qBx0)
  · rcases hc274 with ⟨qBa, qBb, qBx0⟩ | ⟨qBa, qBb, qBx0⟩ | ⟨qBa, qBb, qBx0⟩ | ⟨qBa, qBb, qBx0⟩ | ⟨qBa, qBb, qBx0⟩
    · first | (exfalso; omega) | exact (by first | exact nwr_same hrel20 rfl qAx0 qBx0 | exact nwr_set (n := (J 26 2).toInt) (v := x270) hrel20 hrel19 (by have h8 := tcl x268; omega) rfl qAx0 qAx1 (by omega) qBx0)
    · first | (exfalso; omega) | exact (by first | exact nwr_same hrel20 rfl qAx0 qBx0 | exact nwr_set (n := (J 26 2).toInt) (v := x270) hrel20 hrel19 (by have h8 := tcl x268; omega) rfl qAx0 qAx1 (by omega) qBx0)
    · first | (exfalso; omega) | exact (by first | exact nwr_same hrel20 rfl qAx0 qBx0 | exact nwr_set (n := (J 26 2).toInt) (v := x270) hrel20 hrel19 (by have h8 := tcl x268; omega) rfl qAx0 qAx1 (by omega) qBx0)
    · first | exact nwr_same hrel20 rfl qAx0 qBx0 | exact nwr_set (n := (J 26 2).toInt) (v := x270) hrel20 hrel19 (by have h8 := tcl x268; omega) rfl qAx0 qAx1 (by omega) qBx0
    · first | (exfalso; omega) | exact (by first | exact nwr_same hrel20 rfl qAx0 qBx0 | exact nwr_set (n := (J 26 2).toInt) (v := x270) hrel20 hrel19 (by have h8 := tcl x268; omega) rfl qAx0 qAx1 (by omega) qBx0)
  · rcases hc274 with ⟨qBa, qBb, qBx0⟩ | ⟨qBa, qBb, qBx0⟩ | ⟨qBa, qBb, qBx0⟩ | ⟨qBa, qBb, qBx0⟩ | ⟨qBa, qBb, qBx0⟩
    · first | (exfalso; omega) | exact (by first | exact nwr_same hrel20 rfl qAx0 qBx0 | exact nwr_set (n := (J 26 2).toInt) (v := x270) hrel20 hrel19 (by have h8 := tcl x268; omega) rfl qAx0 qAx1 (by omega) qBx0)
    · first | (exfalso; omega) | exact (by first | exact nwr_same hrel20 rfl qAx0 qBx0 | exact nwr_set (n := (J 26 2).toInt) (v := x270) hrel20 hrel19 (by have h8 := tcl x268; omega) rfl qAx0 qAx1 (by omega) qBx0)
    · first | (exfalso; omega) | exact (by first | exact nwr_same hrel20 rfl qAx0 qBx0 | exact nwr_set (n := (J 26 2).toInt) (v := x270) hrel20 hrel19 (by have h8 := tcl x268; omega) rfl qAx0 qAx1 (by omega) qBx0)
    · first | (exfalso; omega) | exact (by first | exact nwr_same hrel20 rfl qAx0 qBx0 | exact nwr_set (n := (J 26 2).toInt) (v := x270) hrel20 hrel19 (by have h8 := tcl x268; omega) rfl qAx0 qAx1 (by omega) qBx0)
    · first | exact nwr_same hrel20 rfl qAx0 qBx0 | exact nwr_set (n := (J 26 2).toInt) (v := x270) hrel20 hrel19 (by have h8 := tcl x268; omega) rfl qAx0 qAx1 (by omega) qBx0

set_option maxHeartbeats 4000000 in
set_option maxRecDepth 100000 in
theorem cmp_printed (k : Nat) (g : gG) (J : Nat → Nat → Int32) (I : Nat → Nat → Nat → Int32) (P : Nat → Nat → Nat → Option Nat) (E : Nat → Option Nat) (N : Nat → Nat) (dy : List (Nat × Nat)) (r271 : Int32) (x268 : Int32) (u271 : (Nat → Nat → Int32) × (Nat → Nat → Nat → Int32)) (x270 : Int32) (r274 : Int32) (u274 : (Nat → Nat → Int32)) (hk64 : k ≤ 64) (hwf0 : WXF g J P E N dy) (hwm0 : WM J) (hnow0 : 0 ≤ (J 3 1).toInt ∧ (J 3 1).toInt ≤ 9999 ∧ (J 27 2).toInt ≤ (J 3 1).toInt) (hrl0 : 0 ≤ (J 12 11).toInt) (hac0 : 0 ≤ (J 12 10).toInt) (hrel0 : (J 3 1).toInt = (J 13 31).toInt) (hrel1 : J 4 4 = J 13 33) (hrel2 : J 12 12 = J 13 38) (hrel3 : J 12 13 = J 13 39) (hrel4 : 1 ≤ (J 12 12).toInt ∧ 0 ≤ (J 12 13).toInt ∧ (J 12 13).toInt ≤ 240) (hrel5 : (J 24 2).toInt = (J 13 37).toInt) (hrel6 : RDR I E P (J 113) (J 114) (J 115) (J 24 2).toInt) (hrel7 : ZR (J 115) (J 24 2).toInt) (hrel8 : INJ E P 24 (J 24 2).toInt) (hrel9 : SPR I E P (J 27 2).toInt (J 3 1).toInt (J 116) (J 117) (J 118) (J 119) (J 120)) (hrel10 : (J 26 2).toInt = (J 13 42).toInt) (hrel11 : (J 20 2).toInt = (J 13 32).toInt) (hrel12 : (J 22 2).toInt = (J 13 35).toInt) (hrel13 : (J 11 2).toInt = (J 13 55).toInt) (hrel14 : ∀ k : Nat, (k : Int) < (J 11 2).toInt → J 43 k = J 153 k) (hrel15 : (J 25 2).toInt = (J 13 40).toInt) (hrel16 : TMR I P E N (J 25 2).toInt (J 121) (J 122) (J 123) (J 124)) (hrel17 : (J 12 11).toInt = (J 13 44).toInt) (hrel18 : ∀ k : Nat, (k : Int) < (J 12 11).toInt → J 41 k = J 130 k) (hrel19 : INJ E P 26 (J 26 2).toInt) (hrel20 : NWR I E P (J 127) (J 128) (J 26 2).toInt) (hrel21 : OFB (J 116) (J 119) (J 3 1).toInt (J 26 2).toInt) (hrel22 : FRR I E P (J 116) (J 119) (J 26 2).toInt (J 3 1).toInt) (hc271 : ((r271.toInt = (-1) ∧ (¬ (0 ≤ x268.toInt ∧ x268.toInt < (J 26 2).toInt)) ∧ u271.2 5 1 = I 5 1) ∨ (r271.toInt = (-3) ∧ (0 ≤ x268.toInt ∧ x268.toInt < (J 26 2).toInt ∧ ¬ (I 5 1 (elt E P 26 x268.toNatClampNeg)).toInt = -1) ∧ u271.2 5 1 = I 5 1) ∨ (r271.toInt = (-4) ∧ (0 ≤ x268.toInt ∧ x268.toInt < (J 26 2).toInt ∧ (I 5 1 (elt E P 26 x268.toNatClampNeg)).toInt = -1 ∧ x270.toInt < (J 3 1).toInt) ∧ u271.2 5 1 = I 5 1) ∨ (r271.toInt = (-6) ∧ (0 ≤ x268.toInt ∧ x268.toInt < (J 26 2).toInt ∧ (I 5 1 (elt E P 26 x268.toNatClampNeg)).toInt = -1 ∧ (J 3 1).toInt ≤ x270.toInt ∧ 9999 < x270.toInt) ∧ u271.2 5 1 = I 5 1) ∨ (r271.toInt = 1 ∧ (0 ≤ x268.toInt ∧ x268.toInt < (J 26 2).toInt ∧ (I 5 1 (elt E P 26 x268.toNatClampNeg)).toInt = -1 ∧ (J 3 1).toInt ≤ x270.toInt ∧ x270.toInt ≤ 9999) ∧ (∀ b : Nat, b ≠ elt E P 26 x268.toNatClampNeg → u271.2 5 1 b = I 5 1 b) ∧ u271.2 5 1 (elt E P 26 x268.toNatClampNeg) = x270))) (hc274 : ((r274.toInt = (-1) ∧ (¬ (0 ≤ x268.toInt ∧ x268.toInt < (J 13 42).toInt)) ∧ u274 128 = J 128) ∨ (r274.toInt = (-3) ∧ (0 ≤ x268.toInt ∧ x268.toInt < (J 13 42).toInt ∧ 0 ≤ (J 128 x268.toNatClampNeg).toInt) ∧ u274 128 = J 128) ∨ (r274.toInt = (-4) ∧ (0 ≤ x268.toInt ∧ x268.toInt < (J 13 42).toInt ∧ (J 128 x268.toNatClampNeg).toInt < 0 ∧ x270.toInt < (J 13 31).toInt) ∧ u274 128 = J 128) ∨ (r274.toInt = (-6) ∧ (0 ≤ x268.toInt ∧ x268.toInt < (J 13 42).toInt ∧ (J 128 x268.toNatClampNeg).toInt < 0 ∧ (J 13 31).toInt ≤ x270.toInt ∧ 9999 < x270.toInt) ∧ u274 128 = J 128) ∨ (r274.toInt = 1 ∧ (0 ≤ x268.toInt ∧ x268.toInt < (J 13 42).toInt ∧ (J 128 x268.toNatClampNeg).toInt < 0 ∧ (J 13 31).toInt ≤ x270.toInt ∧ x270.toInt ≤ 9999) ∧ u274 128 = up2 J 128 x268.toNatClampNeg x270 128))) (cmpc : ¬ r271.toInt = r274.toInt) : False := by
  have hwf := hwf0
  have hwm := hwm0
  have hnow := hnow0
  have hlo20 : 0 ≤ (J 20 2).toInt := hwf.1.1.1
  have hlo22 : 0 ≤ (J 22 2).toInt := hwf.1.2.2.1.1
  have htp0 := hwm.2.2.2.2.2.2.2.2
  have hrw9 := hwm.2.2.2.2.2.2
  have hlo26 : 0 ≤ (J 26 2).toInt := hwf.2.1.2.2.1.1
  have hnw9 := nwr_at (a := x268) hrel20
  rcases hc271 with ⟨qAa, qAb, qAx0⟩ | ⟨qAa, qAb, qAx0⟩ | ⟨qAa, qAb, qAx0⟩ | ⟨qAa, qAb, qAx0⟩ | ⟨qAa, qAb, qAx0, qAx1⟩
  · rcases hc274 with ⟨qBa, qBb, qBx0⟩ | ⟨qBa, qBb, qBx0⟩ | ⟨qBa, qBb, qBx0⟩ | ⟨qBa, qBb, qBx0⟩ | ⟨qBa, qBb, qBx0⟩
    · first | omega
    · first | omega | omega
    · first | omega | omega
    · first | omega | omega
    · first | omega | omega
  · rcases hc274 with ⟨qBa, qBb, qBx0⟩ | ⟨qBa, qBb, qBx0⟩ | ⟨qBa, qBb, qBx0⟩ | ⟨qBa, qBb, qBx0⟩ | ⟨qBa, qBb, qBx0⟩
    · first | omega | omega
    · first | omega
    · first | omega | omega
    · first | omega | omega
    · first | omega | omega
  · rcases hc274 with ⟨qBa, qBb, qBx0⟩ | ⟨qBa, qBb, qBx0⟩ | ⟨qBa, qBb, qBx0⟩ | ⟨qBa, qBb, qBx0⟩ | ⟨qBa, qBb, qBx0⟩
    · first | omega | omega
    · first | omega | omega
    · first | omega
    · first | omega | omega
    · first | omega | omega
  · rcases hc274 with ⟨qBa, qBb, qBx0⟩ | ⟨qBa, qBb, qBx0⟩ | ⟨qBa, qBb, qBx0⟩ | ⟨qBa, qBb, qBx0⟩ | ⟨qBa, qBb, qBx0⟩
    · first | omega | omega
    · first | omega | omega
    · first | omega | omega
    · first | omega
    · first | omega | omega
  · rcases hc274 with ⟨qBa, qBb, qBx0⟩ | ⟨qBa, qBb, qBx0⟩ | ⟨qBa, qBb, qBx0⟩ | ⟨qBa, qBb, qBx0⟩ | ⟨qBa, qBb, qBx0⟩
    · first | omega | omega
    · first | omega | omega
    · first | omega | omega
    · first | omega | omega
    · first | omega

set_option maxHeartbeats 4000000 in
set_option maxRecDepth 100000 in
theorem rel_put (k : Nat) (g : gG) (J : Nat → Nat → Int32) (I : Nat → Nat → Nat → Int32) (P : Nat → Nat → Nat → Option Nat) (E : Nat → Option Nat) (N : Nat → Nat) (dy : List (Nat × Nat)) (r306 : Int32) (x305 : Int32) (u306 : (Nat → Nat → Int32)) (r308 : Int32) (u308 : (Nat → Nat → Int32)) (hk64 : k ≤ 64) (hwf0 : WXF g J P E N dy) (hwm0 : WM J) (hnow0 : 0 ≤ (J 3 1).toInt ∧ (J 3 1).toInt ≤ 9999 ∧ (J 27 2).toInt ≤ (J 3 1).toInt) (hrl0 : 0 ≤ (J 12 11).toInt) (hac0 : 0 ≤ (J 12 10).toInt) (hrel0 : (J 3 1).toInt = (J 13 31).toInt) (hrel1 : J 4 4 = J 13 33) (hrel2 : J 12 12 = J 13 38) (hrel3 : J 12 13 = J 13 39) (hrel4 : 1 ≤ (J 12 12).toInt ∧ 0 ≤ (J 12 13).toInt ∧ (J 12 13).toInt ≤ 240) (hrel5 : (J 24 2).toInt = (J 13 37).toInt) (hrel6 : RDR I E P (J 113) (J 114) (J 115) (J 24 2).toInt) (hrel7 : ZR (J 115) (J 24 2).toInt) (hrel8 : INJ E P 24 (J 24 2).toInt) (hrel9 : SPR I E P (J 27 2).toInt (J 3 1).toInt (J 116) (J 117) (J 118) (J 119) (J 120)) (hrel10 : (J 26 2).toInt = (J 13 42).toInt) (hrel11 : (J 20 2).toInt = (J 13 32).toInt) (hrel12 : (J 22 2).toInt = (J 13 35).toInt) (hrel13 : (J 11 2).toInt = (J 13 55).toInt) (hrel14 : ∀ k : Nat, (k : Int) < (J 11 2).toInt → J 43 k = J 153 k) (hrel15 : (J 25 2).toInt = (J 13 40).toInt) (hrel16 : TMR I P E N (J 25 2).toInt (J 121) (J 122) (J 123) (J 124)) (hrel17 : (J 12 11).toInt = (J 13 44).toInt) (hrel18 : ∀ k : Nat, (k : Int) < (J 12 11).toInt → J 41 k = J 130 k) (hrel19 : INJ E P 26 (J 26 2).toInt) (hrel20 : NWR I E P (J 127) (J 128) (J 26 2).toInt) (hrel21 : OFB (J 116) (J 119) (J 3 1).toInt (J 26 2).toInt) (hrel22 : FRR I E P (J 116) (J 119) (J 26 2).toInt (J 3 1).toInt) (hc306 : ((r306.toInt = (-4) ∧ (x305.toInt < -32768) ∧ u306 12 11 = J 12 11 ∧ u306 41 = J 41) ∨ (r306.toInt = (-6) ∧ (-32768 ≤ x305.toInt ∧ (32767 < x305.toInt ∨ 60 ≤ (J 12 11).toInt)) ∧ u306 12 11 = J 12 11 ∧ u306 41 = J 41) ∨ (r306.toInt = (J 12 11).toInt + 1 ∧ (-32768 ≤ x305.toInt ∧ x305.toInt ≤ 32767 ∧ (J 12 11).toInt ≤ 59) ∧ (u306 12 11).toInt = (J 12 11).toInt + 1 ∧ u306 41 = up2 J 41 (J 12 11).toNatClampNeg x305 41))) (hf306_0 : (0 ≤ (u306 12 11).toInt)) (hc308 : ((r308.toInt = (-4) ∧ (x305.toInt < -32768) ∧ u308 13 44 = J 13 44 ∧ u308 130 = J 130) ∨ (r308.toInt = (-6) ∧ (-32768 ≤ x305.toInt ∧ (32767 < x305.toInt ∨ (J 13 44).toInt = 60)) ∧ u308 13 44 = J 13 44 ∧ u308 130 = J 130) ∨ (r308.toInt = (J 13 44).toInt + 1 ∧ (-32768 ≤ x305.toInt ∧ x305.toInt ≤ 32767 ∧ (J 13 44).toInt ≤ 59) ∧ (u308 13 44).toInt = (J 13 44).toInt + 1 ∧ u308 130 = up2 J 130 (J 13 44).toNatClampNeg x305 130))) : (((hv (hv J [41, 42] [(12, 11)] u306) [100, 130] [(13, 44)] u308) 12 11).toInt = ((hv (hv J [41, 42] [(12, 11)] u306) [100, 130] [(13, 44)] u308) 13 44).toInt) ∧ (∀ k : Nat, (k : Int) < ((hv (hv J [41, 42] [(12, 11)] u306) [100, 130] [(13, 44)] u308) 12 11).toInt → (hv (hv J [41, 42] [(12, 11)] u306) [100, 130] [(13, 44)] u308) 41 k = (hv (hv J [41, 42] [(12, 11)] u306) [100, 130] [(13, 44)] u308) 130 k) := by
  have hwf := hwf0
  have hwm := hwm0
  have hnow := hnow0
  have hlo20 : 0 ≤ (J 20 2).toInt := hwf.1.1.1
  have hlo22 : 0 ≤ (J 22 2).toInt := hwf.1.2.2.1.1
  have htp0 := hwm.2.2.2.2.2.2.2.2
  have hrw9 := hwm.2.2.2.2.2.2
  have hlo26 : 0 ≤ (J 26 2).toInt := hwf.2.1.2.2.1.1
  rcases hc306 with ⟨qAa, qAb, qAx0, qAx1⟩ | ⟨qAa, qAb, qAx0, qAx1⟩ | ⟨qAa, qAb, qAx0, qAx1⟩
  · rcases hc308 with ⟨qBa, qBb, qBx0, qBx1⟩ | ⟨qBa, qBb, qBx0, qBx1⟩ | ⟨qBa, qBb, qBx0, qBx1⟩
    · refine ⟨?_, ?_⟩
      · first | exact (congrArg Int32.toInt qAx0).trans (hrel17.trans (congrArg Int32.toInt qBx0).symm) | exact qAx0.trans (Eq.trans (by omega) qBx0.symm)
      · first | exact tp_keep hrel18 (congrArg Int32.toInt qAx0) qAx1 qBx1 | exact rw_add hrel18 hrel17 qAx1 qBx1 qAx0 (by omega)
    · first | (exfalso; omega) | exact ⟨(by first | exact (congrArg Int32.toInt qAx0).trans (hrel17.trans (congrArg Int32.toInt qBx0).symm) | exact qAx0.trans (Eq.trans (by omega) qBx0.symm)), (by first | exact tp_keep hrel18 (congrArg Int32.toInt qAx0) qAx1 qBx1 | exact rw_add hrel18 hrel17 qAx1 qBx1 qAx0 (by omega))⟩
    · first | (exfalso; omega) | exact ⟨(by first | exact (congrArg Int32.toInt qAx0).trans (hrel17.trans (congrArg Int32.toInt qBx0).symm) | exact qAx0.trans (Eq.trans (by omega) qBx0.symm)), (by first | exact tp_keep hrel18 (congrArg Int32.toInt qAx0) qAx1 qBx1 | exact rw_add hrel18 hrel17 qAx1 qBx1 qAx0 (by omega))⟩
  · rcases hc308 with ⟨qBa, qBb, qBx0, qBx1⟩ | ⟨qBa, qBb, qBx0, qBx1⟩ | ⟨qBa, qBb, qBx0, qBx1⟩
    · first | (exfalso; omega) | exact ⟨(by first | exact (congrArg Int32.toInt qAx0).trans (hrel17.trans (congrArg Int32.toInt qBx0).symm) | exact qAx0.trans (Eq.trans (by omega) qBx0.symm)), (by first | exact tp_keep hrel18 (congrArg Int32.toInt qAx0) qAx1 qBx1 | exact rw_add hrel18 hrel17 qAx1 qBx1 qAx0 (by omega))⟩
    · refine ⟨?_, ?_⟩
      · first | exact (congrArg Int32.toInt qAx0).trans (hrel17.trans (congrArg Int32.toInt qBx0).symm) | exact qAx0.trans (Eq.trans (by omega) qBx0.symm)
      · first | exact tp_keep hrel18 (congrArg Int32.toInt qAx0) qAx1 qBx1 | exact rw_add hrel18 hrel17 qAx1 qBx1 qAx0 (by omega)
    · first | (exfalso; omega) | exact ⟨(by first | exact (congrArg Int32.toInt qAx0).trans (hrel17.trans (congrArg Int32.toInt qBx0).symm) | exact qAx0.trans (Eq.trans (by omega) qBx0.symm)), (by first | exact tp_keep hrel18 (congrArg Int32.toInt qAx0) qAx1 qBx1 | exact rw_add hrel18 hrel17 qAx1 qBx1 qAx0 (by omega))⟩
  · rcases hc308 with ⟨qBa, qBb, qBx0, qBx1⟩ | ⟨qBa, qBb, qBx0, qBx1⟩ | ⟨qBa, qBb, qBx0, qBx1⟩
    · first | (exfalso; omega) | exact ⟨(by first | exact (congrArg Int32.toInt qAx0).trans (hrel17.trans (congrArg Int32.toInt qBx0).symm) | exact qAx0.trans (Eq.trans (by omega) qBx0.symm)), (by first | exact tp_keep hrel18 (congrArg Int32.toInt qAx0) qAx1 qBx1 | exact rw_add hrel18 hrel17 qAx1 qBx1 qAx0 (by omega))⟩
    · first | (exfalso; omega) | exact ⟨(by first | exact (congrArg Int32.toInt qAx0).trans (hrel17.trans (congrArg Int32.toInt qBx0).symm) | exact qAx0.trans (Eq.trans (by omega) qBx0.symm)), (by first | exact tp_keep hrel18 (congrArg Int32.toInt qAx0) qAx1 qBx1 | exact rw_add hrel18 hrel17 qAx1 qBx1 qAx0 (by omega))⟩
    · refine ⟨?_, ?_⟩
      · first | exact (congrArg Int32.toInt qAx0).trans (hrel17.trans (congrArg Int32.toInt qBx0).symm) | exact qAx0.trans (Eq.trans (by omega) qBx0.symm)
      · first | exact tp_keep hrel18 (congrArg Int32.toInt qAx0) qAx1 qBx1 | exact rw_add hrel18 hrel17 qAx1 qBx1 qAx0 (by omega)

set_option maxHeartbeats 4000000 in
set_option maxRecDepth 100000 in
theorem rel_judge (k : Nat) (g : gG) (J : Nat → Nat → Int32) (I : Nat → Nat → Nat → Int32) (P : Nat → Nat → Nat → Option Nat) (E : Nat → Option Nat) (N : Nat → Nat) (dy : List (Nat × Nat)) (u310 : (Nat → Nat → Int32)) (r310 : Int32) (u311 : (Nat → Nat → Int32)) (r311 : Int32) (hk64 : k ≤ 64) (hwf0 : WXF g J P E N dy) (hwm0 : WM J) (hnow0 : 0 ≤ (J 3 1).toInt ∧ (J 3 1).toInt ≤ 9999 ∧ (J 27 2).toInt ≤ (J 3 1).toInt) (hrl0 : 0 ≤ (J 12 11).toInt) (hac0 : 0 ≤ (J 12 10).toInt) (hrel0 : (J 3 1).toInt = (J 13 31).toInt) (hrel1 : J 4 4 = J 13 33) (hrel2 : J 12 12 = J 13 38) (hrel3 : J 12 13 = J 13 39) (hrel4 : 1 ≤ (J 12 12).toInt ∧ 0 ≤ (J 12 13).toInt ∧ (J 12 13).toInt ≤ 240) (hrel5 : (J 24 2).toInt = (J 13 37).toInt) (hrel6 : RDR I E P (J 113) (J 114) (J 115) (J 24 2).toInt) (hrel7 : ZR (J 115) (J 24 2).toInt) (hrel8 : INJ E P 24 (J 24 2).toInt) (hrel9 : SPR I E P (J 27 2).toInt (J 3 1).toInt (J 116) (J 117) (J 118) (J 119) (J 120)) (hrel10 : (J 26 2).toInt = (J 13 42).toInt) (hrel11 : (J 20 2).toInt = (J 13 32).toInt) (hrel12 : (J 22 2).toInt = (J 13 35).toInt) (hrel13 : (J 11 2).toInt = (J 13 55).toInt) (hrel14 : ∀ k : Nat, (k : Int) < (J 11 2).toInt → J 43 k = J 153 k) (hrel15 : (J 25 2).toInt = (J 13 40).toInt) (hrel16 : TMR I P E N (J 25 2).toInt (J 121) (J 122) (J 123) (J 124)) (hrel17 : (J 12 11).toInt = (J 13 44).toInt) (hrel18 : ∀ k : Nat, (k : Int) < (J 12 11).toInt → J 41 k = J 130 k) (hrel19 : INJ E P 26 (J 26 2).toInt) (hrel20 : NWR I E P (J 127) (J 128) (J 26 2).toInt) (hrel21 : OFB (J 116) (J 119) (J 3 1).toInt (J 26 2).toInt) (hrel22 : FRR I E P (J 116) (J 119) (J 26 2).toInt (J 3 1).toInt) (hf310_0 : (0 ≤ (u310 12 11).toInt)) (hf310_1 : ((u310 12 11).toInt = 0)) (hf310_2 : (JDG (J 41) (J 12 11).toInt r310.toInt)) (hf311_0 : ((u311 13 44).toInt = 0)) (hf311_1 : (JDG (J 130) (J 13 44).toInt r311.toInt)) : (((hv (hv J [] [(12, 11)] u310) [] [(13, 44)] u311) 12 11).toInt = ((hv (hv J [] [(12, 11)] u310) [] [(13, 44)] u311) 13 44).toInt) ∧ (∀ k : Nat, (k : Int) < ((hv (hv J [] [(12, 11)] u310) [] [(13, 44)] u311) 12 11).toInt → (hv (hv J [] [(12, 11)] u310) [] [(13, 44)] u311) 41 k = (hv (hv J [] [(12, 11)] u310) [] [(13, 44)] u311) 130 k) := by
  have hwf := hwf0
  have hwm := hwm0
  have hnow := hnow0
  have hlo20 : 0 ≤ (J 20 2).toInt := hwf.1.1.1
  have hlo22 : 0 ≤ (J 22 2).toInt := hwf.1.2.2.1.1
  have htp0 := hwm.2.2.2.2.2.2.2.2
  have hrw9 := hwm.2.2.2.2.2.2
  have hlo26 : 0 ≤ (J 26 2).toInt := hwf.2.1.2.2.1.1
  exact ⟨hf310_1.trans hf311_0.symm, tp_0 hf310_1⟩

set_option maxHeartbeats 4000000 in
set_option maxRecDepth 100000 in
theorem rel_check (k : Nat) (g : gG) (J : Nat → Nat → Int32) (I : Nat → Nat → Nat → Int32) (P : Nat → Nat → Nat → Option Nat) (E : Nat → Option Nat) (N : Nat → Nat) (dy : List (Nat × Nat)) (r330 : Int32) (x329 : Int32) (u330 : (Nat → Nat → Int32)) (r332 : Int32) (u332 : (Nat → Nat → Int32)) (hk64 : k ≤ 64) (hwf0 : WXF g J P E N dy) (hwm0 : WM J) (hnow0 : 0 ≤ (J 3 1).toInt ∧ (J 3 1).toInt ≤ 9999 ∧ (J 27 2).toInt ≤ (J 3 1).toInt) (hrl0 : 0 ≤ (J 12 11).toInt) (hac0 : 0 ≤ (J 12 10).toInt) (hrel0 : (J 3 1).toInt = (J 13 31).toInt) (hrel1 : J 4 4 = J 13 33) (hrel2 : J 12 12 = J 13 38) (hrel3 : J 12 13 = J 13 39) (hrel4 : 1 ≤ (J 12 12).toInt ∧ 0 ≤ (J 12 13).toInt ∧ (J 12 13).toInt ≤ 240) (hrel5 : (J 24 2).toInt = (J 13 37).toInt) (hrel6 : RDR I E P (J 113) (J 114) (J 115) (J 24 2).toInt) (hrel7 : ZR (J 115) (J 24 2).toInt) (hrel8 : INJ E P 24 (J 24 2).toInt) (hrel9 : SPR I E P (J 27 2).toInt (J 3 1).toInt (J 116) (J 117) (J 118) (J 119) (J 120)) (hrel10 : (J 26 2).toInt = (J 13 42).toInt) (hrel11 : (J 20 2).toInt = (J 13 32).toInt) (hrel12 : (J 22 2).toInt = (J 13 35).toInt) (hrel13 : (J 11 2).toInt = (J 13 55).toInt) (hrel14 : ∀ k : Nat, (k : Int) < (J 11 2).toInt → J 43 k = J 153 k) (hrel15 : (J 25 2).toInt = (J 13 40).toInt) (hrel16 : TMR I P E N (J 25 2).toInt (J 121) (J 122) (J 123) (J 124)) (hrel17 : (J 12 11).toInt = (J 13 44).toInt) (hrel18 : ∀ k : Nat, (k : Int) < (J 12 11).toInt → J 41 k = J 130 k) (hrel19 : INJ E P 26 (J 26 2).toInt) (hrel20 : NWR I E P (J 127) (J 128) (J 26 2).toInt) (hrel21 : OFB (J 116) (J 119) (J 3 1).toInt (J 26 2).toInt) (hrel22 : FRR I E P (J 116) (J 119) (J 26 2).toInt (J 3 1).toInt) (hc330 : ((r330.toInt = (-1) ∧ (¬ (0 ≤ x329.toInt ∧ x329.toInt < (J 3 1).toInt ∧ (J 12 11).toInt ≤ (J 3 1).toInt - x329.toInt)) ∧ u330 12 11 = J 12 11 ∧ u330 41 = J 41) ∨ (r330 = r330 ∧ (0 ≤ x329.toInt ∧ x329.toInt < (J 3 1).toInt ∧ (J 12 11).toInt ≤ (J 3 1).toInt - x329.toInt) ∧ (u330 12 11).toInt = 0 ∧ u330 41 = J 41 ∧ CHK (J 41) (J 116) x329.toInt (J 12 11).toInt r330.toInt))) (hf330_0 : (0 ≤ (u330 12 11).toInt)) (hc332 : ((r332.toInt = (-1) ∧ (¬ (0 ≤ x329.toInt ∧ x329.toInt < (J 13 31).toInt ∧ (J 13 44).toInt ≤ (J 13 31).toInt - x329.toInt)) ∧ u332 13 44 = J 13 44 ∧ u332 130 = J 130) ∨ (r332 = r332 ∧ (0 ≤ x329.toInt ∧ x329.toInt < (J 13 31).toInt ∧ (J 13 44).toInt ≤ (J 13 31).toInt - x329.toInt) ∧ (u332 13 44).toInt = 0 ∧ u332 130 = J 130 ∧ CHK (J 130) (J 116) x329.toInt (J 13 44).toInt r332.toInt))) : (((hv (hv J [42] [(12, 11)] u330) [100] [(13, 44)] u332) 12 11).toInt = ((hv (hv J [42] [(12, 11)] u330) [100] [(13, 44)] u332) 13 44).toInt) ∧ (∀ k : Nat, (k : Int) < ((hv (hv J [42] [(12, 11)] u330) [100] [(13, 44)] u332) 12 11).toInt → (hv (hv J [42] [(12, 11)] u330) [100] [(13, 44)] u332) 41 k = (hv (hv J [42] [(12, 11)] u330) [100] [(13, 44)] u332) 130 k) := by
  have hwf := hwf0
  have hwm := hwm0
  have hnow := hnow0
  have hlo20 : 0 ≤ (J 20 2).toInt := hwf.1.1.1
  have hlo22 : 0 ≤ (J 22 2).toInt := hwf.1.2.2.1.1
  have htp0 := hwm.2.2.2.2.2.2.2.2
  have hrw9 := hwm.2.2.2.2.2.2
  have hlo26 : 0 ≤ (J 26 2).toInt := hwf.2.1.2.2.1.1
  rcases hc330 with ⟨qAa, qAb, qAx0, qAx1⟩ | ⟨qAa, qAb, qAx0, qAx1, qAx2⟩
  · rcases hc332 with ⟨qBa, qBb, qBx0, qBx1⟩ | ⟨qBa, qBb, qBx0, qBx1, qBx2⟩
    · refine ⟨?_, ?_⟩
      · first | exact (congrArg Int32.toInt qAx0).trans (hrel17.trans (congrArg Int32.toInt qBx0).symm) | exact qAx0.trans qBx0.symm
      · first | exact tp_keep hrel18 (congrArg Int32.toInt qAx0) rfl rfl | exact tp_0 qAx0
    · first | (exfalso; omega) | exact ⟨(by first | exact (congrArg Int32.toInt qAx0).trans (hrel17.trans (congrArg Int32.toInt qBx0).symm) | exact qAx0.trans qBx0.symm), (by first | exact tp_keep hrel18 (congrArg Int32.toInt qAx0) rfl rfl | exact tp_0 qAx0)⟩
  · rcases hc332 with ⟨qBa, qBb, qBx0, qBx1⟩ | ⟨qBa, qBb, qBx0, qBx1, qBx2⟩
    · first | (exfalso; omega) | exact ⟨(by first | exact (congrArg Int32.toInt qAx0).trans (hrel17.trans (congrArg Int32.toInt qBx0).symm) | exact qAx0.trans qBx0.symm), (by first | exact tp_keep hrel18 (congrArg Int32.toInt qAx0) rfl rfl | exact tp_0 qAx0)⟩
    · refine ⟨?_, ?_⟩
      · first | exact (congrArg Int32.toInt qAx0).trans (hrel17.trans (congrArg Int32.toInt qBx0).symm) | exact qAx0.trans qBx0.symm
      · first | exact tp_keep hrel18 (congrArg Int32.toInt qAx0) rfl rfl | exact tp_0 qAx0
