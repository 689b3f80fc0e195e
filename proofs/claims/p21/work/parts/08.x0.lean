
def lroles : List Nat := [20, 21, 22, 23, 24, 25, 26, 27]
theorem lr_cases {r : Nat} (h : nel r lroles = true) : r = 20 ∨ r = 21 ∨ r = 22 ∨ r = 23 ∨ r = 24 ∨ r = 25 ∨ r = 26 ∨ r = 27 := by
  have := nel_mem h
  simpa [lroles] using this
theorem cel_list {g : gG} {j : Nat → Int32} {l : Nat → Int64} {i : Nat → Int32} {p : Nat → Option Nat} {e : Option Nat} {n r : Nat} (h : nel r lroles = true) : celc g j l i p e n r = .inr (0, [.int (j 0), va_rf e, .int (j 2)]) := by
  rcases lr_cases h with q | q | q | q | q | q | q | q <;> subst q <;> rfl
theorem cel_back {g : gG} {j : Nat → Int32} {l : Nat → Int64} {i : Nat → Int32} {p : Nat → Option Nat} {e : Option Nat} {n r : Nat} (h : nel r lroles = true) : celc g j l i p e n (r + 10) = .inl (g.2.1 3, n, .inr (.inr (.inr (.inr p)))) := by
  rcases lr_cases h with q | q | q | q | q | q | q | q <;> subst q <;> rfl
theorem sgl_list {r : Nat} (h : nel r lroles = true) : sgl r = true := by
  rcases lr_cases h with q | q | q | q | q | q | q | q <;> subst q <;> rfl
theorem sgl_back {r : Nat} (h : nel r lroles = true) : sgl (r + 10) = false := by
  rcases lr_cases h with q | q | q | q | q | q | q | q <;> subst q <;> rfl
/-- the place k of the list r -/
def elt (E : Nat → Option Nat) (P : Nat → Nat → Nat → Option Nat) (r k : Nat) : Nat := (P (r + 10) k ((E r).getD 0)).getD 0
/-- a list of role r, its elements of role er -/
def LWF (g : gG) (J : Nat → Nat → Int32) (P : Nat → Nat → Nat → Option Nat) (E : Nat → Option Nat) (N : Nat → Nat) (dy : List (Nat × Nat)) (r er : Nat) : Prop :=
  0 ≤ (J r 2).toInt ∧ (J r 2).toInt ≤ 10000 ∧ ((E r = some g.2.2.2 ∧ (J r 2).toInt = 0) ∨ ∃ b, E r = some b ∧ (r + 10, b) ∈ dy ∧ (J r 2).toInt ≤ (N b : Int) ∧ N b ≤ 20000 ∧ 10 ≤ N b ∧ ∀ k : Nat, (k : Int) < (J r 2).toInt → ∃ q, P (r + 10) k b = some q ∧ (er, q) ∈ dy)
theorem lw_mem {g : gG} {J : Nat → Nat → Int32} {P : Nat → Nat → Nat → Option Nat} {E : Nat → Option Nat} {N : Nat → Nat} {dy : List (Nat × Nat)} {r er : Nat} (h : LWF g J P E N dy r er) {k : Nat} (hk : (k : Int) < (J r 2).toInt) : (er, elt E P r k) ∈ dy := by
  obtain ⟨h1, h2, ⟨-, h4⟩ | ⟨b, h3, h4, h5, h6, h7, h8⟩⟩ := h
  · omega
  · obtain ⟨q, q1, q2⟩ := h8 k hk
    have e : elt E P r k = q := by unfold elt; rw [h3]; simp [q1]
    rw [e]; exact q2
section LISTS
variable {p : Program} {l : Launch} {e : Env} {R : Room} {s : State} {m : MethodId} {args : Array Value} {below : List Frame} {meth : Method} {c : Code} {H : Heap} {locs : List Loc} {cells slots : Nat} {Q : State → Prop}
variable {pc : Nat} {ls : Array Slot} {rest : List Value} {cc : ByteArray} {nL : Nat} {own : String} {g : gG} {A : Nat → Prop} {ds : List (Nat × Nat)} {index : Nat} {a r : Nat}
variable {J : Nat → Nat → Int32} {L : Nat → Nat → Int64} {I : Nat → Nat → Nat → Int32} {P : Nat → Nat → Nat → Option Nat} {E : Nat → Option Nat} {N : Nat → Nat}
theorem lg_size (C : CC g A p m c cc nL s args own) (hW : WB g A s.heap H locs (J, L, I, P, E, N) ds) (hr : nel r lroles = true) (hm : (r, g.2.2.1 r) ∈ ds) (hl : Cond.fieldLink own index "java/util/ArrayList" "size" "I" ∈ lw_t2) (hdg : decode cc pc = .ok (.getfield index, 3)) (kk : W p l e R s m args below meth c H locs cells slots Q (F0 m (pc + 3) ls (.int (J r 2) :: rest))) : W p l e R s m args below meth c H locs cells slots Q (F0 m pc ls (.ref (g.2.2.1 r) :: rest)) := g_get C hW hm (cel_list hr) rfl in_Jx4a65c 2 (by decide) hl (fun _ h => h) rfl hdg kk
theorem lg_elem (C : CC g A p m c cc nL s args own) (hW : WB g A s.heap H locs (J, L, I, P, E, N) ds) (hr : nel r lroles = true) (hm : (r, g.2.2.1 r) ∈ ds) (hl : Cond.fieldLink own index "java/util/ArrayList" "elementData" "[Ljava/lang/Object;" ∈ lw_t2) (hdg : decode cc pc = .ok (.getfield index, 3)) (kk : W p l e R s m args below meth c H locs cells slots Q (F0 m (pc + 3) ls (va_rf (E r) :: rest))) : W p l e R s m args below meth c H locs cells slots Q (F0 m pc ls (.ref (g.2.2.1 r) :: rest)) := g_get C hW hm (cel_list hr) rfl in_Jx4a65c 1 (by decide) hl (fun _ h => h) rfl hdg kk
theorem lg_mod (C : CC g A p m c cc nL s args own) (hW : WB g A s.heap H locs (J, L, I, P, E, N) ds) (hr : nel r lroles = true) (hm : (r, g.2.2.1 r) ∈ ds) (hl : Cond.fieldLink own index "java/util/ArrayList" "modCount" "I" ∈ lw_t2) (hdg : decode cc pc = .ok (.getfield index, 3)) (kk : W p l e R s m args below meth c H locs cells slots Q (F0 m (pc + 3) ls (.int (J r 0) :: rest))) : W p l e R s m args below meth c H locs cells slots Q (F0 m pc ls (.ref (g.2.2.1 r) :: rest)) := g_get C hW hm (cel_list hr) rfl in_Jx4a65c 0 (by decide) hl (fun x h => u_same (C.1.2.2.2.2 _ tw_123) x h) rfl hdg kk
theorem lp_size {v : Int32} (C : CC g A p m c cc nL s args own) (hW : WB g A s.heap H locs (J, L, I, P, E, N) ds) (hr : nel r lroles = true) (hm : (r, g.2.2.1 r) ∈ ds) (hl : Cond.fieldLink own index "java/util/ArrayList" "size" "I" ∈ lw_t2) (hdg : decode cc pc = .ok (.putfield index, 3)) (kk : ∀ (H1 : Heap) (locs1 : List Loc), WB g A s.heap H1 locs1 (up2 J r 2 v, L, I, P, E, N) ds → W p l e R s m args below meth c H1 locs1 cells slots Q (F0 m (pc + 3) ls rest)) : W p l e R s m args below meth c H locs cells slots Q (F0 m pc ls (.int v :: .ref (g.2.2.1 r) :: rest)) := g_put C hW hm (cel_list hr) rfl in_Jx4a65c tyJx4a65c tyJx4a65c_ok nmJx4a65c 2 (by decide) hl (fun _ h => h) rfl rfl rfl (show (2 : Nat) < 3 by decide) ((cel_list hr).trans (by simp [up2_s, up2_f])) (oth_J hW.2.2.2 (sgl_list hr)) hdg kk
theorem lp_mod {v : Int32} (C : CC g A p m c cc nL s args own) (hW : WB g A s.heap H locs (J, L, I, P, E, N) ds) (hr : nel r lroles = true) (hm : (r, g.2.2.1 r) ∈ ds) (hl : Cond.fieldLink own index "java/util/ArrayList" "modCount" "I" ∈ lw_t2) (hdg : decode cc pc = .ok (.putfield index, 3)) (kk : ∀ (H1 : Heap) (locs1 : List Loc), WB g A s.heap H1 locs1 (up2 J r 0 v, L, I, P, E, N) ds → W p l e R s m args below meth c H1 locs1 cells slots Q (F0 m (pc + 3) ls rest)) : W p l e R s m args below meth c H locs cells slots Q (F0 m pc ls (.int v :: .ref (g.2.2.1 r) :: rest)) := g_put C hW hm (cel_list hr) rfl in_Jx4a65c tyJx4a65c tyJx4a65c_ok nmJx4a65c 0 (by decide) hl (fun x h => u_same (C.1.2.2.2.2 _ tw_123) x h) rfl rfl rfl (show (0 : Nat) < 3 by decide) ((cel_list hr).trans (by simp [up2_s, up2_f])) (oth_J hW.2.2.2 (sgl_list hr)) hdg kk
theorem lp_elem {v : Option Nat} (C : CC g A p m c cc nL s args own) (hW : WB g A s.heap H locs (J, L, I, P, E, N) ds) (hr : nel r lroles = true) (hm : (r, g.2.2.1 r) ∈ ds) (hl : Cond.fieldLink own index "java/util/ArrayList" "elementData" "[Ljava/lang/Object;" ∈ lw_t2) (hdg : decode cc pc = .ok (.putfield index, 3)) (kk : ∀ (H1 : Heap) (locs1 : List Loc), WB g A s.heap H1 locs1 (J, L, I, P, up1 E r v, N) ds → W p l e R s m args below meth c H1 locs1 cells slots Q (F0 m (pc + 3) ls rest)) : W p l e R s m args below meth c H locs cells slots Q (F0 m pc ls (va_rf v :: .ref (g.2.2.1 r) :: rest)) := g_put C hW hm (cel_list hr) rfl in_Jx4a65c tyJx4a65c tyJx4a65c_ok nmJx4a65c 1 (by decide) hl (fun _ h => h) rfl (by cases v <;> rfl) (by cases v <;> rfl) (show (1 : Nat) < 3 by decide) ((cel_list hr).trans (by simp [up1_s])) (oth_E hW.2.2.2 (sgl_list hr)) hdg kk
/-- a cast to the class that the object has -/
theorem g_cast {b : Nat} {S : sS} (C : CC g A p m c cc nL s args own) (hW : WB g A s.heap H locs S ds) (hm : (r, b) ∈ ds) {ci Nf : Nat} {fs : List Value} {Cn : String} {T : u_T} (hcel : cel g S r b = .inr (ci, fs)) (hc : vwCl[ci]? = some (Cn, T, Nf)) (hl : Cond.classLink own index Cn ∈ lw_t2) (hdg : decode cc pc = .ok (.checkcast index, 3)) (kk : W p l e R s m args below meth c H locs cells slots Q (F0 m (pc + 3) ls (.ref b :: rest))) : W p l e R s m args below meth c H locs cells slots Q (F0 m pc ls (.ref b :: rest)) := by
  obtain ⟨i, hi⟩ := List.getElem?_of_mem hm
  have hq := wdl_at (g := g) (S := S) hi
  rw [hcel] at hq
  exact va_castS C.1.1 C.1.2.1 C.1.2.2.2.1 (C.1.2.2.2.2 _ hl) (C.2.1.1 ci _ hc).2 (va_recv C.2.1 hW.1 hc hq) hdg kk
end LISTS

def TYP (P : Nat → Nat → Nat → Option Nat) (N : Nat → Nat) (dy : List (Nat × Nat)) : Prop :=
  (∀ a, (6, a) ∈ dy → P 6 0 a = none ∨ ∃ b, P 6 0 a = some b ∧ (6, b) ∈ dy) ∧ (∀ a, (1, a) ∈ dy → ∃ b, P 1 0 a = some b ∧ (6, b) ∈ dy) ∧ (∀ a, (2, a) ∈ dy → ∃ b, P 2 0 a = some b ∧ (6, b) ∈ dy) ∧ (∀ a, (10, a) ∈ dy → ∃ b, P 10 2 a = some b ∧ (46, b) ∈ dy ∧ N b ≤ 60)
/-- what is well formed in the class -/
def WXF (g : gG) (J : Nat → Nat → Int32) (P : Nat → Nat → Nat → Option Nat) (E : Nat → Option Nat) (N : Nat → Nat) (dy : List (Nat × Nat)) : Prop :=
  (LWF g J P E N dy 20 6 ∧ LWF g J P E N dy 21 1 ∧ LWF g J P E N dy 22 2 ∧ LWF g J P E N dy 23 6) ∧ (LWF g J P E N dy 24 7 ∧ LWF g J P E N dy 25 10 ∧ LWF g J P E N dy 26 5 ∧ LWF g J P E N dy 27 9) ∧ TYP P N dy
theorem LWF.mono {g : gG} {J : Nat → Nat → Int32} {P : Nat → Nat → Nat → Option Nat} {E : Nat → Option Nat} {N N' : Nat → Nat} {dy dy' : List (Nat × Nat)} {r er : Nat} (hd : ∀ q ∈ dy, q ∈ dy') (hN : ∀ q ∈ dy, N' q.2 = N q.2) (h : LWF g J P E N dy r er) : LWF g J P E N' dy' r er := by
  refine ⟨h.1, h.2.1, h.2.2.imp id fun ⟨b, h3, h4, h5, h6, h7, h8⟩ => ⟨b, h3, hd _ h4, ?_, ?_, ?_, fun k hk => ?_⟩⟩
  · rw [hN _ h4]; exact h5
  · rw [hN _ h4]; exact h6
  · rw [hN _ h4]; exact h7
  · obtain ⟨q, q1, q2⟩ := h8 k hk; exact ⟨q, q1, hd _ q2⟩
theorem ag_up3 {α : Type} {I I' : Nat → Nat → Nat → α} {R : List Nat} {F : List (Nat × Nat)} {r f a : Nat} {v : α} (hr : nel r R = true ∨ nel2 r f F = true) (h : ag I R F I') : ag I R F (up3 I' r f a v) := by
  intro r' f' h1 h2
  have hh := h r' f' h1 h2
  rw [← hh]
  unfold up3
  cases q1 : Nat.beq r' r with
  | false => rfl
  | true =>
    cases q2 : Nat.beq f' f with
    | false => rfl
    | true =>
      have e1 := Nat.eq_of_beq_eq_true q1
      have e2 := Nat.eq_of_beq_eq_true q2
      subst e1 e2
      rcases hr with q | q
      · rw [q] at h1; cases h1
      · rw [q] at h2; cases h2
theorem lv_asv {p : Program} {l : Launch} {e : Env} {R : Room} {s : State} {m : MethodId} {args : Array Value} {below : List Frame} {meth : Method} {c : Code} {H : Heap} {locs : List Loc} {cells slots : Nat} {Q : State → Prop} {pc : Nat} {ls : Array Slot} {rest : List Value} {v : Value} (v' : Value) (h : v = v') (k : W p l e R s m args below meth c H locs cells slots Q (F0 m pc ls (v' :: rest))) : W p l e R s m args below meth c H locs cells slots Q (F0 m pc ls (v :: rest)) := by
  subst h; exact k
