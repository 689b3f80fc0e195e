set_option maxHeartbeats 4000000 in
set_option maxRecDepth 100000 in
theorem rel_check (k : Nat) (g : gG) (J : Nat → Nat → Int32) (I : Nat → Nat → Nat → Int32) (P : Nat → Nat → Nat → Option Nat) (E : Nat → Option Nat) (N : Nat → Nat) (dy : List (Nat × Nat)) (r330 : Int32) (x329 : Int32) (u330 : (Nat → Nat → Int32)) (r332 : Int32) (u332 : (Nat → Nat → Int32)) (hk64 : k ≤ 64) (hwf0 : WXF g J P E N dy) (hwm0 : WM J) (hnow0 : 0 ≤ (J 3 1).toInt ∧ (J 3 1).toInt ≤ 9999 ∧ (J 27 2).toInt ≤ (J 3 1).toInt) (hrl0 : 0 ≤ (J 12 11).toInt) (hac0 : 0 ≤ (J 12 10).toInt) (hrel0 : (J 3 1).toInt = (J 13 31).toInt) (hrel1 : J 4 4 = J 13 33) (hrel2 : J 12 12 = J 13 38) (hrel3 : J 12 13 = J 13 39) (hrel4 : 1 ≤ (J 12 12).toInt ∧ 0 ≤ (J 12 13).toInt ∧ (J 12 13).toInt ≤ 240) (hrel5 : (J 24 2).toInt = (J 13 37).toInt) (hrel6 : RDR I E P (J 113) (J 114) (J 115) (J 24 2).toInt) (hrel7 : ZR (J 115) (J 24 2).toInt) (hrel8 : INJ E P 24 (J 24 2).toInt) (hrel9 : SPR I E P (J 27 2).toInt (J 3 1).toInt (J 116) (J 117) (J 118) (J 119) (J 120)) (hrel10 : (J 26 2).toInt = (J 13 42).toInt) (hrel11 : (J 20 2).toInt = (J 13 32).toInt) (hrel12 : (J 22 2).toInt = (J 13 35).toInt) (hrel13 : (J 11 2).toInt = (J 13 55).toInt) (hrel14 : ∀ k : Nat, (k : Int) < (J 11 2).toInt → J 43 k = J 153 k) (hrel15 : (J 25 2).toInt = (J 13 40).toInt) (hrel16 : TMR I P E N (J 25 2).toInt (J 121) (J 122) (J 123) (J 124)) (hrel17 : (J 12 11).toInt = (J 13 44).toInt) (hrel18 : ∀ k : Nat, (k : Int) < (J 12 11).toInt → J 41 k = J 130 k) (hc330 : ((r330.toInt = (-1) ∧ (¬ (0 ≤ x329.toInt ∧ x329.toInt < (J 3 1).toInt ∧ (J 12 11).toInt ≤ (J 3 1).toInt - x329.toInt)) ∧ u330 12 11 = J 12 11 ∧ u330 41 = J 41) ∨ (r330 = r330 ∧ (0 ≤ x329.toInt ∧ x329.toInt < (J 3 1).toInt ∧ (J 12 11).toInt ≤ (J 3 1).toInt - x329.toInt) ∧ (u330 12 11).toInt = 0 ∧ u330 41 = J 41 ∧ CHK (J 41) (J 116) x329.toInt (J 12 11).toInt r330.toInt))) (hf330_0 : (0 ≤ (u330 12 11).toInt)) (hc332 : ((r332.toInt = (-1) ∧ (¬ (0 ≤ x329.toInt ∧ x329.toInt < (J 13 31).toInt ∧ (J 13 44).toInt ≤ (J 13 31).toInt - x329.toInt)) ∧ u332 13 44 = J 13 44 ∧ u332 130 = J 130) ∨ (r332 = r332 ∧ (0 ≤ x329.toInt ∧ x329.toInt < (J 13 31).toInt ∧ (J 13 44).toInt ≤ (J 13 31).toInt - x329.toInt) ∧ (u332 13 44).toInt = 0 ∧ u332 130 = J 130 ∧ CHK (J 130) (J 116) x329.toInt (J 13 44).toInt r332.toInt))) : (((hv (hv J [42] [(12, 11)] u330) [100] [(13, 44)] u332) 12 11).toInt = ((hv (hv J [42] [(12, 11)] u330) [100] [(13, 44)] u332) 13 44).toInt) ∧ (∀ k : Nat, (k : Int) < ((hv (hv J [42] [(12, 11)] u330) [100] [(13, 44)] u332) 12 11).toInt → (hv (hv J [42] [(12, 11)] u330) [100] [(13, 44)] u332) 41 k = (hv (hv J [42] [(12, 11)] u330) [100] [(13, 44)] u332) 130 k) := by
  have hwf := hwf0
  have hwm := hwm0
  have hnow := hnow0
  have hlo20 : 0 ≤ (J 20 2).toInt := hwf.1.1.1
  have hlo22 : 0 ≤ (J 22 2).toInt := hwf.1.2.2.1.1
  have htp0 := hwm.2.2.2.2.2.2.2.2
  have hrw9 := hwm.2.2.2.2.2.2
  rcases hc330 with ⟨qAa, qAb, qAx0, qAx1⟩ | ⟨qAa, qAb, qAx0, qAx1, qAx2⟩
  · rcases hc332 with ⟨qBa, qBb, qBx0, qBx1⟩ | ⟨qBa, qBb, qBx0, qBx1, qBx2⟩
    · refine ⟨?_, ?_⟩
      · first | exact (congrArg Int32.toInt qAx0).trans (hrel17.trans (congrArg Int32.toInt qBx0).symm) | exact qAx0.trans qBx0.symm
      · first | exact tp_keep hrel18 (congrArg Int32.toInt qAx0) rfl rfl | exact tp_0 qAx0
    · first | (exfalso; omega) | exact ⟨(by first | exact (congrArg Int32.toInt qAx0).trans (hrel17.trans (congrArg Int32.toInt qBx0).symm) | exact qAx0.trans qBx0.symm), (by first | exact tp_keep hrel18 (congrArg Int32.toInt qAx0) rfl rfl | exact tp_0 qAx0)⟩
  · rcases hc332 with ⟨qBa, qBb, qBx0, qBx1⟩ | ⟨qBa, qBb, qBx0, qBx1, qBx2⟩
    · first | (exfalso; omega) | exact ⟨(by first | exact (congrArg Int32.toInt qAx0).trans (hrel17.trans (congrArg Int32.toInt qBx0).symm) | exact qAx0.trans qBx0.symm), (by first | exact tp_keep hrel18 (congrArg Int32.toInt qAx0) rfl rfl | exact tp_0 qAx0)⟩
    · refine ⟨?_, ?_⟩
      · first | exact (congrArg Int32.toInt qAx0).trans (hrel17.trans (congrArg Int32.toInt qBx0).symm) | exact qAx0.trans qBx0.symm
      · first | exact tp_keep hrel18 (congrArg Int32.toInt qAx0) rfl rfl | exact tp_0 qAx0
