/-! the store: roles, cells by role, the world of a list of (role, address) -/
abbrev gG : Type := va_G × (Nat → ClassId) × (Nat → Nat) × Nat
abbrev sS : Type := (Nat → Nat → Int32) × (Nat → Nat → Int64) × (Nat → Nat → Nat → Int32) × (Nat → Nat → Nat → Option Nat) × (Nat → Option Nat) × (Nat → Nat)
abbrev sT : Type := sS × List (Nat × Nat)
def up1 {α : Type} (G : Nat → α) (k : Nat) (v : α) : Nat → α := fun k' => bif Nat.beq k' k then v else G k'
def up2 {α : Type} (J : Nat → Nat → α) (r f : Nat) (v : α) : Nat → Nat → α := fun r' => bif Nat.beq r' r then (fun f' => bif Nat.beq f' f then v else J r f') else J r'
def up3 {α : Type} (I : Nat → Nat → Nat → α) (r f a : Nat) (v : α) : Nat → Nat → Nat → α := fun r' f' => bif Nat.beq r' r then (bif Nat.beq f' f then (fun a' => bif Nat.beq a' a then v else I r' f' a') else I r' f') else I r' f'
theorem beq_no {a b : Nat} (h : a ≠ b) : Nat.beq a b = false := by
  cases q : Nat.beq a b with
  | false => rfl
  | true => exact absurd (Nat.eq_of_beq_eq_true q) h
theorem beq_yes (a : Nat) : Nat.beq a a = true := Nat.beq_refl a
theorem up2_s {α : Type} (J : Nat → Nat → α) (r f : Nat) (v : α) : up2 J r f v r f = v := by simp [up2, beq_yes]
theorem up2_f {α : Type} (J : Nat → Nat → α) (r : Nat) {f f' : Nat} (v : α) (h : f' ≠ f) : up2 J r f v r f' = J r f' := by simp [up2, beq_yes, beq_no h]
theorem up2_r {α : Type} (J : Nat → Nat → α) {r r' : Nat} (f : Nat) (v : α) (h : r' ≠ r) : up2 J r f v r' = J r' := by simp [up2, beq_no h]
theorem up1_n {α : Type} (J : Nat → α) {r r' : Nat} (v : α) (h : r' ≠ r) : up1 J r v r' = J r' := by simp [up1, beq_no h]
theorem up1_s {α : Type} (J : Nat → α) (r : Nat) (v : α) : up1 J r v r = v := by simp [up1, beq_yes]
theorem up3_a {α : Type} (I : Nat → Nat → Nat → α) (r f : Nat) {a b : Nat} (v : α) (h : b ≠ a) (r' f' : Nat) : up3 I r f a v r' f' b = I r' f' b := by
  unfold up3
  cases Nat.beq r' r <;> cases Nat.beq f' f <;> simp [beq_no h]
theorem up3_s {α : Type} (I : Nat → Nat → Nat → α) (r f a : Nat) (v : α) : up3 I r f a v r f a = v := by simp [up3, beq_yes]

/-- a cell of role r, by what its own functions hold: j, l (single objects), i, p (objects of a pool), e (a list's row), n (a length) -/
def celc (g : gG) (j : Nat → Int32) (l : Nat → Int64) (i : Nat → Int32) (p : Nat → Option Nat) (e : Option Nat) (n : Nat) (r : Nat) : va_E := match r with
  | 1 => .inr (1, [va_rf (p 0), .int (i 1), .int (i 2)])
  | 2 => .inr (2, [va_rf (p 0), .int (i 1), .int (i 2), .int (i 3), .int (i 4)])
  | 3 => .inr (3, [.ref (g.2.2.1 27), .int (j 1), .int (j 2), .int (j 3)])
  | 4 => .inr (4, [.ref (g.2.2.1 20), .ref (g.2.2.1 21), .ref (g.2.2.1 22), .ref (g.2.2.1 23), .int (j 4), .int (j 5), .int (j 6), .int (j 7), .ref (g.2.2.1 47)])
  | 5 => .inr (5, [.int (i 0), .int (i 1), .int (i 2)])
  | 6 => .inr (6, [va_rf (p 0), .int (i 1), .int (i 2), .int (i 3), .int (i 4), .int (i 5), .int (i 6), .int (i 7)])
  | 7 => .inr (7, [.int (i 0), .int (i 1), .int (i 2)])
  | 8 => .inr (8, [.ref (g.2.2.1 45), .int (j 1), .int (j 2), .int (j 3), .int (j 4), .int (j 5), .int (j 6), .int (j 7), .int (j 8), .int (j 9)])
  | 9 => .inr (9, [.int (i 0), .int (i 1), .int (i 2), .int (i 3), .int (i 4), .int (i 5), .int (i 6)])
  | 10 => .inr (10, [.int (i 0), .int (i 1), va_rf (p 2), .int (i 3), .int (i 4)])
  | 11 => .inr (11, [.ref (g.2.2.1 43), .ref (g.2.2.1 44), .int (j 2), .int (j 3), .int (j 4)])
  | 12 => .inr (12, [.ref (g.2.2.1 4), .ref (g.2.2.1 3), .ref (g.2.2.1 24), .ref (g.2.2.1 25), .ref (g.2.2.1 26), .ref (g.2.2.1 11), .ref (g.2.2.1 8), .ref (g.2.2.1 40), .ref (g.2.2.1 41), .ref (g.2.2.1 42), .int (j 10), .int (j 11), .int (j 12), .int (j 13)])
  | 13 => .inr (13, [.ref (g.2.2.1 100), .ref (g.2.2.1 101), .ref (g.2.2.1 102), .ref (g.2.2.1 103), .ref (g.2.2.1 104), .ref (g.2.2.1 105), .ref (g.2.2.1 106), .ref (g.2.2.1 107), .ref (g.2.2.1 108), .ref (g.2.2.1 109), .ref (g.2.2.1 110), .ref (g.2.2.1 111), .ref (g.2.2.1 112), .ref (g.2.2.1 113), .ref (g.2.2.1 114), .ref (g.2.2.1 115), .ref (g.2.2.1 116), .ref (g.2.2.1 117), .ref (g.2.2.1 118), .ref (g.2.2.1 119), .ref (g.2.2.1 120), .ref (g.2.2.1 121), .ref (g.2.2.1 122), .ref (g.2.2.1 123), .ref (g.2.2.1 124), .ref (g.2.2.1 125), .ref (g.2.2.1 126), .ref (g.2.2.1 127), .ref (g.2.2.1 128), .ref (g.2.2.1 129), .ref (g.2.2.1 130), .int (j 31), .int (j 32), .int (j 33), .int (j 34), .int (j 35), .int (j 36), .int (j 37), .int (j 38), .int (j 39), .int (j 40), .int (j 41), .int (j 42), .int (j 43), .int (j 44), .int (j 45), .ref (g.2.2.1 146), .int (j 47), .int (j 48), .int (j 49), .ref (g.2.2.1 150), .ref (g.2.2.1 151), .ref (g.2.2.1 152), .ref (g.2.2.1 153), .ref (g.2.2.1 154), .int (j 55), .int (j 56), .int (j 57), .int (j 58), .int (j 59), .int (j 60), .ref (g.2.2.1 161), .ref (g.2.2.1 162), .ref (g.2.2.1 163), .ref (g.2.2.1 164), .ref (g.2.2.1 165), .ref (g.2.2.1 166), .ref (g.2.2.1 167), .int (j 68), .ref (g.2.2.1 169)])
  | 20 => .inr (0, [.int (j 0), va_rf e, .int (j 2)])
  | 21 => .inr (0, [.int (j 0), va_rf e, .int (j 2)])
  | 22 => .inr (0, [.int (j 0), va_rf e, .int (j 2)])
  | 23 => .inr (0, [.int (j 0), va_rf e, .int (j 2)])
  | 24 => .inr (0, [.int (j 0), va_rf e, .int (j 2)])
  | 25 => .inr (0, [.int (j 0), va_rf e, .int (j 2)])
  | 26 => .inr (0, [.int (j 0), va_rf e, .int (j 2)])
  | 27 => .inr (0, [.int (j 0), va_rf e, .int (j 2)])
  | 30 => .inl (g.2.1 3, n, .inr (.inr (.inr (.inr p))))
  | 31 => .inl (g.2.1 3, n, .inr (.inr (.inr (.inr p))))
  | 32 => .inl (g.2.1 3, n, .inr (.inr (.inr (.inr p))))
  | 33 => .inl (g.2.1 3, n, .inr (.inr (.inr (.inr p))))
  | 34 => .inl (g.2.1 3, n, .inr (.inr (.inr (.inr p))))
  | 35 => .inl (g.2.1 3, n, .inr (.inr (.inr (.inr p))))
  | 36 => .inl (g.2.1 3, n, .inr (.inr (.inr (.inr p))))
  | 37 => .inl (g.2.1 3, n, .inr (.inr (.inr (.inr p))))
  | 40 => .inl (g.2.1 0, 200, .inl j)
  | 41 => .inl (g.2.1 0, 60, .inl j)
  | 42 => .inl (g.2.1 0, 7, .inl j)
  | 43 => .inl (g.2.1 0, 60, .inl j)
  | 44 => .inl (g.2.1 0, 60, .inl j)
  | 45 => .inl (g.2.1 0, 60, .inl j)
  | 46 => .inl (g.2.1 0, n, .inl i)
  | 47 => .inl (g.2.1 1, 24, .inr (.inl l))
  | 100 => .inl (g.2.1 0, 7, .inl j)
  | 101 => .inl (g.2.1 0, 20, .inl j)
  | 102 => .inl (g.2.1 0, 20, .inl j)
  | 103 => .inl (g.2.1 0, 20, .inl j)
  | 104 => .inl (g.2.1 0, 20, .inl j)
  | 105 => .inl (g.2.1 0, 40, .inl j)
  | 106 => .inl (g.2.1 0, 40, .inl j)
  | 107 => .inl (g.2.1 0, 40, .inl j)
  | 108 => .inl (g.2.1 0, 40, .inl j)
  | 109 => .inl (g.2.1 0, 40, .inl j)
  | 110 => .inl (g.2.1 0, 40, .inl j)
  | 111 => .inl (g.2.1 0, 40, .inl j)
  | 112 => .inl (g.2.1 2, 40, .inl j)
  | 113 => .inl (g.2.1 0, 8, .inl j)
  | 114 => .inl (g.2.1 0, 8, .inl j)
  | 115 => .inl (g.2.1 0, 8, .inl j)
  | 116 => .inl (g.2.1 0, 10000, .inl j)
  | 117 => .inl (g.2.1 0, 10000, .inl j)
  | 118 => .inl (g.2.1 0, 10000, .inl j)
  | 119 => .inl (g.2.1 0, 10000, .inl j)
  | 120 => .inl (g.2.1 0, 10000, .inl j)
  | 121 => .inl (g.2.1 0, 30, .inl j)
  | 122 => .inl (g.2.1 0, 30, .inl j)
  | 123 => .inl (g.2.1 0, 30, .inl j)
  | 124 => .inl (g.2.1 0, 1800, .inl j)
  | 125 => .inl (g.2.1 0, 9, .inl j)
  | 126 => .inl (g.2.1 0, 9, .inl j)
  | 127 => .inl (g.2.1 0, 40, .inl j)
  | 128 => .inl (g.2.1 0, 40, .inl j)
  | 129 => .inl (g.2.1 0, 200, .inl j)
  | 130 => .inl (g.2.1 0, 60, .inl j)
  | 146 => .inl (g.2.1 0, 20, .inl j)
  | 150 => .inl (g.2.1 0, 10000, .inl j)
  | 151 => .inl (g.2.1 0, 10000, .inl j)
  | 152 => .inl (g.2.1 0, 10000, .inl j)
  | 153 => .inl (g.2.1 0, 60, .inl j)
  | 154 => .inl (g.2.1 0, 128, .inl j)
  | 161 => .inl (g.2.1 0, 2, .inl j)
  | 162 => .inl (g.2.1 0, 2, .inl j)
  | 163 => .inl (g.2.1 0, 2, .inl j)
  | 164 => .inl (g.2.1 0, 14, .inl j)
  | 165 => .inl (g.2.1 2, 40, .inl j)
  | 166 => .inl (g.2.1 2, 40, .inl j)
  | 167 => .inl (g.2.1 0, 40, .inl j)
  | 169 => .inl (g.2.1 0, 10, .inl j)
  | _ => .inr (0, [])
abbrev cel (g : gG) (S : sS) (r a : Nat) : va_E := celc g (S.1 r) (S.2.1 r) (fun f => S.2.2.1 r f a) (fun f => S.2.2.2.1 r f a) (S.2.2.2.2.1 r) (S.2.2.2.2.2 a) r
def wdl (g : gG) (S : sS) (ds : List (Nat × Nat)) : va_W := ds.map fun q => (q.2, cel g S q.1 q.2)
/-- roles with one object each -/
def sgl (r : Nat) : Bool := !(List.elem r [1, 2, 5, 6, 7, 9, 10, 30, 31, 32, 33, 34, 35, 36, 37, 46])
def okd (g : gG) (ds : List (Nat × Nat)) : Prop := ∀ q ∈ ds, sgl q.1 = true → q.2 = g.2.2.1 q.1
abbrev tyL (g : gG) : List (ClassId × FieldType) := [(g.2.1 0, .int), (g.2.1 1, .long), (g.2.1 2, .boolean), (g.2.1 3, .object "java/lang/Object")]
def nbM : List (String × Nat × MethodName × String) := [(RX11, 18, yX2_init, RX11), (RX11, 38, yX10_init, RX11), (RX11, 45, yX7_init, RX11), (RX7, 23, yX10_isLetter, RX11), (RX3, 83, yX11_hourOf, RX11)]
def nbC : List (String × String) := [("[I", RJx8e188), (RX11, "java/lang/Object"), (RX3, "java/lang/Object"), (RJx4a65c, "java/lang/Object"), (RX5, "java/lang/Object"), (RX2, "java/lang/Object"), (RX10, "java/lang/Object"), (RX7, "java/lang/Object"), (RX12, "java/lang/Object"), (RX8, "java/lang/Object"), (RX0, "java/lang/Object"), (RX1, "java/lang/Object"), (RX6, "java/lang/Object"), (RX9, "java/lang/Object"), (RX4, "java/lang/Object"), ("[J", "java/lang/Object"), ("[Ljava/lang/Object;", "java/lang/Object"), ("[I", "java/lang/Object"), ("[Z", "java/lang/Object")]
/-- what of the start's tables is kept as facts of the state: links among nest mates, casts, the class Object[] -/
def NB (U : State) : Prop := (∀ q ∈ nbM, va_Nw (.methodLinkNest q.1 q.2.1 q.2.2.1 q.2.2.2) U) ∧ (∀ q ∈ nbC, va_Nw (.castable q.1 q.2) U) ∧ va_AO "java/lang/Object" U ∧ va_Dc U ∧ ∃ mi : Nat, va_Mi "[Ljava/lang/Object;" mi U
theorem NB.warm {s U : State} (hW : s.WarmedH U.vm) (h : NB s) : NB U := ⟨fun q hq => (h.1 q hq).warmM hW, fun q hq => (h.2.1 q hq).warmC hW, h.2.2.1.moved hW.alike, h.2.2.2.1.moved hW.alike, h.2.2.2.2.imp fun mi hm => hm.moved hW.alike⟩
theorem NB.same {s U : State} (e : s.vm = U.vm) (h : NB s) : NB U := ⟨fun q hq => (h.1 q hq).same rfl e, fun q hq => (h.2.1 q hq).same rfl e, h.2.2.1.moved (e ▸ Vm.Alike.refl _), h.2.2.2.1.moved (e ▸ Vm.Alike.refl _), h.2.2.2.2.imp fun mi hm => hm.moved (e ▸ Vm.Alike.refl _)⟩
/-- ArrayList's empty row, a static of its class: outside the world -/
def Zs (g : gG) (A : Nat → Prop) (U : State) (H : Heap) : Prop := va_Z "java/util/ArrayList" "DEFAULTCAPACITY_EMPTY_ELEMENTDATA" "[Ljava/lang/Object;" (.ref g.2.2.2) A U H ∧ va_T (.object "java/lang/Object") g.2.2.2 0 (fun _ => .null) A U H ∧ NB U
theorem wdl_at {g : gG} {S : sS} {ds : List (Nat × Nat)} {k : Nat} {r a : Nat} (h : ds[k]? = some (r, a)) : (wdl g S ds)[k]? = some (a, cel g S r a) := by simp [wdl, h]
/-- a cell changes, the others stay -/
theorem wdl_set {g : gG} {A : Nat → Prop} {S S' : sS} {ds : List (Nat × Nat)} {k r a : Nat} (hD : va_D A (wdl g S ds)) (h : ds[k]? = some (r, a)) (ho : ∀ q ∈ ds, q.2 ≠ a → cel g S' q.1 q.2 = cel g S q.1 q.2) : (wdl g S ds).set k (a, cel g S' r a) = wdl g S' ds := by
  apply List.ext_getElem?
  intro i
  by_cases hi : k = i
  · subst hi
    have hl : k < (wdl g S ds).length := (List.getElem?_eq_some_iff.mp (wdl_at (g := g) (S := S) h)).1
    rw [List.getElem?_set_self hl, wdl_at h]
  · rw [List.getElem?_set_ne hi]
    cases hq : ds[i]? with
    | none => simp [wdl, hq]
    | some q =>
      obtain ⟨r', b⟩ := q
      rw [wdl_at hq, wdl_at hq]
      have hb : b ≠ a := fun e => hi (hD.1 k i _ _ (wdl_at (g := g) (S := S) h) (wdl_at (g := g) (S := S) hq) e.symm)
      rw [ho (r', b) (List.mem_of_getElem? hq) hb]
theorem oth_J {g : gG} {ds : List (Nat × Nat)} (hO : okd g ds) {J : Nat → Nat → Int32} {X} {r f : Nat} {v : Int32} (hs : sgl r = true) : ∀ q ∈ ds, q.2 ≠ g.2.2.1 r → cel g (up2 J r f v, X) q.1 q.2 = cel g (J, X) q.1 q.2 := by
  intro q hq hn
  have hr : q.1 ≠ r := fun e => hn (by rw [hO q hq (by rw [e]; exact hs), e])
  simp only [cel, up2_r J f v hr]
theorem oth_L {g : gG} {ds : List (Nat × Nat)} (hO : okd g ds) {J : Nat → Nat → Int32} {G : Nat → Nat → Int64} {X} {r f : Nat} {v : Int64} (hs : sgl r = true) : ∀ q ∈ ds, q.2 ≠ g.2.2.1 r → cel g (J, up2 G r f v, X) q.1 q.2 = cel g (J, G, X) q.1 q.2 := by
  intro q hq hn
  have hr : q.1 ≠ r := fun e => hn (by rw [hO q hq (by rw [e]; exact hs), e])
  simp only [cel, up2_r G f v hr]
theorem oth_I {g : gG} {ds : List (Nat × Nat)} {J : Nat → Nat → Int32} {L : Nat → Nat → Int64} {I : Nat → Nat → Nat → Int32} {X} {r f a : Nat} {v : Int32} : ∀ q ∈ ds, q.2 ≠ a → cel g (J, L, up3 I r f a v, X) q.1 q.2 = cel g (J, L, I, X) q.1 q.2 := by
  intro q _ hn
  simp only [cel, up3_a I r f v hn]
theorem oth_P {g : gG} {ds : List (Nat × Nat)} {J : Nat → Nat → Int32} {L : Nat → Nat → Int64} {I : Nat → Nat → Nat → Int32} {P : Nat → Nat → Nat → Option Nat} {X} {r f a : Nat} {v : Option Nat} : ∀ q ∈ ds, q.2 ≠ a → cel g (J, L, I, up3 P r f a v, X) q.1 q.2 = cel g (J, L, I, P, X) q.1 q.2 := by
  intro q _ hn
  simp only [cel, up3_a P r f v hn]
theorem oth_E {g : gG} {ds : List (Nat × Nat)} (hO : okd g ds) {J : Nat → Nat → Int32} {L : Nat → Nat → Int64} {I : Nat → Nat → Nat → Int32} {P : Nat → Nat → Nat → Option Nat} {E : Nat → Option Nat} {X} {r : Nat} {v : Option Nat} (hs : sgl r = true) : ∀ q ∈ ds, q.2 ≠ g.2.2.1 r → cel g (J, L, I, P, up1 E r v, X) q.1 q.2 = cel g (J, L, I, P, E, X) q.1 q.2 := by
  intro q hq hn
  have hr : q.1 ≠ r := fun e => hn (by rw [hO q hq (by rw [e]; exact hs), e])
  simp only [cel, up1_n E v hr]
/-- the world at a heap, its addresses apart and free, nothing else changed since H0 -/
def WB (g : gG) (A : Nat → Prop) (H0 H : Heap) (locs : List Loc) (S : sS) (ds : List (Nat × Nat)) : Prop := va_P g.1 vwCl (wdl g S ds) H ∧ va_D A (wdl g S ds) ∧ va_S A H0 H locs ∧ okd g ds
/-- what a method's walk keeps all along -/
def CC (g : gG) (A : Nat → Prop) (p : Program) (m : MethodId) (c : Code) (cc : ByteArray) (nL : Nat) (s : State) (args : Array Value) (own : String) : Prop :=
  CallFix p m c cc nL s args lw_t2 own ∧ va_K g.1 vwCl (tyL g) s ∧ (∀ q : Nat, s.heap.size ≤ q → A q) ∧ Zs g A s s.heap
/-- the world behind a method -/
def at_ (g : gG) (A : Nat → Prop) (T : sT) (t : State) : Prop := va_P g.1 vwCl (wdl g T.1 T.2) t.heap ∧ va_K g.1 vwCl (tyL g) t ∧ va_D A (wdl g T.1 T.2) ∧ okd g T.2
def FR (g : gG) (T : sT) (sz : Nat) : Nat → Prop := va_A (wdl g T.1 T.2) sz
def PC (g : gG) (av : List Value) (T : sT) (sz : Nat) : Array Value → State → Prop := va_Pc av (fun U => U.heap.size = sz ∧ at_ g (fun _ => True) T U ∧ Zs g (FR g T sz) U U.heap)
abbrev WS (y : MethodName) (cc : ByteArray) (n : Nat) (ret : Option FieldType) : List Cond := .code y cc n ret :: lw_t2

def upf {α : Type} (I : Nat → Nat → Nat → α) (r f : Nat) (h : Nat → α) : Nat → Nat → Nat → α := fun r' f' => bif Nat.beq r' r then (bif Nat.beq f' f then h else I r' f') else I r' f'
def nel : Nat → List Nat → Bool
  | _, [] => false
  | x, y :: t => bif Nat.beq x y then true else nel x t
def nel2 : Nat → Nat → List (Nat × Nat) → Bool
  | _, _, [] => false
  | x, z, y :: t => bif Nat.beq x y.1 then (bif Nat.beq z y.2 then true else nel2 x z t) else nel2 x z t
/-- all that a method may have changed: whole roles, single places -/
def hv {α : Type} (J : Nat → Nat → α) (R : List Nat) (F : List (Nat × Nat)) (G : Nat → Nat → α) : Nat → Nat → α := fun r' => bif nel r' R then G r' else (fun f' => bif nel2 r' f' F then G r' f' else J r' f')
def ag {α : Type} (J : Nat → Nat → α) (R : List Nat) (F : List (Nat × Nat)) (J' : Nat → Nat → α) : Prop := ∀ r' f', nel r' R = false → nel2 r' f' F = false → J' r' f' = J r' f'
theorem ag_rf {α : Type} {J : Nat → Nat → α} {R : List Nat} {F : List (Nat × Nat)} : ag J R F J := fun _ _ _ _ => rfl
theorem ag_hvE {α : Type} {J J' : Nat → Nat → α} {R : List Nat} {F : List (Nat × Nat)} (h : ag J R F J') : J' = hv J R F J' := by
  funext r' f'
  unfold hv
  cases h1 : nel r' R with
  | true => rfl
  | false =>
    cases h2 : nel2 r' f' F with
    | true => simp [h2]
    | false => simp [h2, h r' f' h1 h2]
theorem ag_up {α : Type} {J J' : Nat → Nat → α} {R : List Nat} {F : List (Nat × Nat)} {r f : Nat} {v : α} (hr : nel r R = true ∨ nel2 r f F = true) (h : ag J R F J') : ag J R F (up2 J' r f v) := by
  intro r' f' h1 h2
  by_cases e : r' = r
  · subst e
    by_cases e2 : f' = f
    · subst e2
      rcases hr with q | q
      · rw [q] at h1; cases h1
      · rw [q] at h2; cases h2
    · rw [up2_f _ _ _ e2]; exact h _ _ h1 h2
  · rw [up2_r _ _ _ e]; exact h _ _ h1 h2
def sub1 (R1 R : List Nat) : Bool := R1.all (fun x => nel x R)
def sub2 (F1 : List (Nat × Nat)) (R : List Nat) (F : List (Nat × Nat)) : Bool := F1.all (fun x => nel x.1 R || nel2 x.1 x.2 F)
theorem nel_mem {x : Nat} : ∀ {R : List Nat}, nel x R = true → x ∈ R
  | y :: t, h => by
    unfold nel at h
    cases q : Nat.beq x y with
    | true => exact List.mem_cons.mpr (Or.inl (Nat.eq_of_beq_eq_true q))
    | false => rw [q] at h; exact List.mem_cons_of_mem _ (nel_mem h)
theorem nel2_mem {x z : Nat} : ∀ {R : List (Nat × Nat)}, nel2 x z R = true → (x, z) ∈ R
  | y :: t, h => by
    unfold nel2 at h
    cases q : Nat.beq x y.1 with
    | true =>
      rw [q] at h
      cases q2 : Nat.beq z y.2 with
      | true => exact List.mem_cons.mpr (Or.inl (Prod.ext (Nat.eq_of_beq_eq_true q) (Nat.eq_of_beq_eq_true q2)))
      | false => rw [q2] at h; exact List.mem_cons_of_mem _ (nel2_mem h)
    | false => rw [q] at h; exact List.mem_cons_of_mem _ (nel2_mem h)
theorem ag_hv {α : Type} {J J' G : Nat → Nat → α} {R R1 : List Nat} {F F1 : List (Nat × Nat)} (h1 : sub1 R1 R = true) (h2 : sub2 F1 R F = true) (h : ag J R F J') : ag J R F (hv J' R1 F1 G) := by
  intro r' f' k1 k2
  unfold hv
  cases q1 : nel r' R1 with
  | true =>
    have := List.all_eq_true.mp h1 r' (nel_mem q1)
    rw [k1] at this; cases this
  | false =>
    cases q2 : nel2 r' f' F1 with
    | true =>
      have := List.all_eq_true.mp h2 (r', f') (nel2_mem q2)
      simp [k1, k2] at this
    | false => simp [q2]; exact h _ _ k1 k2
abbrev RM (d mc ms : Nat) : Room := { frames := d, cells := mc, slots := ms, locals := 40 * d }
def mroles : List Nat := [13, 100, 101, 102, 103, 104, 105, 106, 107, 108, 109, 110, 111, 112, 113, 114, 115, 116, 117, 118, 119, 120, 121, 122, 123, 124, 125, 126, 127, 128, 129, 130, 146, 150, 151, 152, 153, 154, 161, 162, 163, 164, 165, 166, 167, 169]
def xroles : List Nat := [3, 4, 8, 11, 12, 20, 21, 22, 23, 24, 25, 26, 27, 40, 41, 42, 43, 44, 45, 47]
def sgM (g : gG) : List (Nat × Nat) := mroles.map fun r => (r, g.2.2.1 r)
def sgX (g : gG) : List (Nat × Nat) := xroles.map fun r => (r, g.2.2.1 r)
theorem mm_ {g : gG} {r : Nat} (h : nel r mroles = true) : (r, g.2.2.1 r) ∈ sgM g := List.mem_map.mpr ⟨r, nel_mem h, rfl⟩
theorem mx_ {g : gG} {dy : List (Nat × Nat)} {r : Nat} (h : nel r xroles = true) : (r, g.2.2.1 r) ∈ sgX g ++ dy := List.mem_append_left _ (List.mem_map.mpr ⟨r, nel_mem h, rfl⟩)
theorem tlt {x y : Int32} {a b : Int} (hx : x.toInt = a) (hy : y.toInt = b) (h : x < y) : a < b := by rw [← hx, ← hy]; exact Int32.lt_iff_toInt_lt.mp h
theorem tle {x y : Int32} {a b : Int} (hx : x.toInt = a) (hy : y.toInt = b) (h : x ≤ y) : a ≤ b := by rw [← hx, ← hy]; exact Int32.le_iff_toInt_le.mp h
theorem tnlt {x y : Int32} {a b : Int} (hx : x.toInt = a) (hy : y.toInt = b) (h : ¬ x < y) : b ≤ a := Int.not_lt.mp fun q => h (Int32.lt_iff_toInt_lt.mpr (by rw [hx, hy]; exact q))
theorem tnle {x y : Int32} {a b : Int} (hx : x.toInt = a) (hy : y.toInt = b) (h : ¬ x ≤ y) : b < a := Int.not_le.mp fun q => h (Int32.le_iff_toInt_le.mpr (by rw [hx, hy]; exact q))
theorem teq {x y : Int32} {a b : Int} (hx : x.toInt = a) (hy : y.toInt = b) (h : x = y) : a = b := by rw [← hx, ← hy, h]
theorem tne {x y : Int32} {a b : Int} (hx : x.toInt = a) (hy : y.toInt = b) (h : ¬ x = y) : ¬ a = b := fun q => h (Int32.toInt_inj.mp (by rw [hx, hy, q]))
theorem i32r (x : Int32) : -2147483648 ≤ x.toInt ∧ x.toInt < 2147483648 := ⟨by have := Int32.minValue_le_toInt x; exact this, by have := Int32.toInt_lt x; exact this⟩
theorem tbm {z : Int} (h1 : -2147483648 ≤ z) (h2 : z < 2147483648) : z.bmod (2 ^ 32) = z := by
  rw [Int.bmod_def]; omega
theorem tadd {x y z : Int32} {a b : Int} (e : z = x + y) (hx : x.toInt = a) (hy : y.toInt = b) (h : -2147483648 ≤ a + b ∧ a + b < 2147483648) : z.toInt = a + b := by
  subst hx hy e; rw [Int32.toInt_add, tbm h.1 h.2]
theorem tsub {x y z : Int32} {a b : Int} (e : z = x - y) (hx : x.toInt = a) (hy : y.toInt = b) (h : -2147483648 ≤ a - b ∧ a - b < 2147483648) : z.toInt = a - b := by
  subst hx hy e; rw [Int32.toInt_sub, tbm h.1 h.2]
theorem tmul {x y z : Int32} {a b : Int} (e : z = x * y) (hx : x.toInt = a) (hy : y.toInt = b) (h : -2147483648 ≤ a * b ∧ a * b < 2147483648) : z.toInt = a * b := by
  subst hx hy e; rw [Int32.toInt_mul, tbm h.1 h.2]
theorem tneg {x z : Int32} {a : Int} (e : z = -x) (hx : x.toInt = a) (h : -2147483648 ≤ -a ∧ -a < 2147483648) : z.toInt = -a := by
  subst hx e; rw [Int32.toInt_neg, tbm h.1 h.2]
theorem tin {x : Int32} {a : Int} {n : Nat} (hx : x.toInt = a) (h : 0 ≤ a ∧ a < n) : vp_in x n := by
  rw [vp_in_iff, hx]; exact h
theorem tcl (x : Int32) : x.toNatClampNeg = x.toInt.toNat := rfl
theorem ext_i {x y : Int32} (h : x.toInt = y.toInt) : x = y := Int32.toInt_inj.mp h
