
/-- all that a role has at an address is cleared -/
def clr {α : Type} (I : Nat → Nat → Nat → α) (r q : Nat) (v : α) : Nat → Nat → Nat → α := fun r' => bif Nat.beq r' r then (fun f a => bif Nat.beq a q then v else I r' f a) else I r'
theorem clr_o {α : Type} (I : Nat → Nat → Nat → α) {q a : Nat} (r : Nat) (v : α) (h : a ≠ q) (r' f : Nat) : clr I r q v r' f a = I r' f a := by
  unfold clr
  cases Nat.beq r' r <;> simp [beq_no h]
theorem clr_s {α : Type} (I : Nat → Nat → Nat → α) (q : Nat) (v : α) (r f : Nat) : clr I r q v r f q = v := by simp [clr, beq_yes]
theorem nel_self (r : Nat) : nel r [r] = true := by simp [nel, beq_yes]
theorem ag_clr {α : Type} {P P' : Nat → Nat → Nat → α} {R : List Nat} {F : List (Nat × Nat)} {r q : Nat} {v : α} (hr : nel r R = true) (h : ag P R F P') : ag P R F (clr P' r q v) := by
  intro r' f' h1 h2
  have e : r' ≠ r := fun e => by rw [e, hr] at h1; cases h1
  rw [← h r' f' h1 h2]
  simp [clr, beq_no e]
/-- a row of references at an address -/
def prow (P : Nat → Nat → Nat → Option Nat) (r b : Nat) (h : Nat → Option Nat) : Nat → Nat → Nat → Option Nat := fun r' => bif Nat.beq r' r then (fun f a => bif Nat.beq a b then h f else P r' f a) else P r'
theorem prow_o (P : Nat → Nat → Nat → Option Nat) (r : Nat) {b a : Nat} (h : Nat → Option Nat) (hn : a ≠ b) (r' f : Nat) : prow P r b h r' f a = P r' f a := by
  unfold prow
  cases Nat.beq r' r <;> simp [beq_no hn]
theorem prow_s (P : Nat → Nat → Nat → Option Nat) (r b : Nat) (h : Nat → Option Nat) (f : Nat) : prow P r b h r f b = h f := by simp [prow, beq_yes]
theorem ag_prow {P P' : Nat → Nat → Nat → Option Nat} {R : List Nat} {F : List (Nat × Nat)} {r b : Nat} {v : Nat → Option Nat} (hr : nel r R = true) (h : ag P R F P') : ag P R F (prow P' r b v) := by
  intro r' f' h1 h2
  have e : r' ≠ r := fun e => by rw [e, hr] at h1; cases h1
  rw [← h r' f' h1 h2]
  simp [prow, beq_no e]
theorem oth_row {g : gG} {ds : List (Nat × Nat)} {J : Nat → Nat → Int32} {L : Nat → Nat → Int64} {I : Nat → Nat → Nat → Int32} {P : Nat → Nat → Nat → Option Nat} {X} {r a : Nat} {v : Nat → Option Nat} : ∀ q ∈ ds, q.2 ≠ a → cel g (J, L, I, prow P r a v, X) q.1 q.2 = cel g (J, L, I, P, X) q.1 q.2 := by
  intro q _ hn
  simp only [cel, prow_o P r v hn]
def eroles : List Nat := [1, 2, 5, 6, 7, 9, 10]
theorem er_cls {er : Nat} (h : nel er eroles = true) : ∃ (Cn : String) (T : u_T) (Nf : Nat), vwCl[er]? = some (Cn, T, Nf) ∧ (Cn, "java/lang/Object") ∈ nbC ∧ ∀ (g : gG) (S : sS) (v : Nat), ∃ fs, cel g S er v = .inr (er, fs) := by
  have := nel_mem h
  have : er = 1 ∨ er = 2 ∨ er = 5 ∨ er = 6 ∨ er = 7 ∨ er = 9 ∨ er = 10 := by simpa [eroles] using this
  rcases this with q | q | q | q | q | q | q <;> subst q <;> exact ⟨_, _, _, rfl, by decide, fun g S v => ⟨_, rfl⟩⟩
theorem fresh_of {g : gG} {A : Nat → Prop} {S : sS} {ds : List (Nat × Nat)} {q : Nat} {e : va_E} (hD : va_D A (wdl g S ds ++ [(q, e)])) : ∀ x ∈ ds, x.2 ≠ q := by
  intro x hx hq
  obtain ⟨i, hi⟩ := List.getElem?_of_mem hx
  have hl := (List.getElem?_eq_some_iff.mp (wdl_at (g := g) (S := S) hi)).1
  have h1 : (wdl g S ds ++ [(q, e)])[i]? = some (x.2, cel g S x.1 x.2) := by
    rw [List.getElem?_append_left hl]; exact wdl_at hi
  have h2 : (wdl g S ds ++ [(q, e)])[(wdl g S ds).length]? = some (q, e) := by simp
  have := hD.1 _ _ _ _ h1 h2 hq
  omega
theorem wdl_push {g : gG} {S S' : sS} {ds : List (Nat × Nat)} {r q : Nat} {e : va_E} (ho : ∀ x ∈ ds, x.2 ≠ q) (hc : ∀ r' a : Nat, a ≠ q → cel g S' r' a = cel g S r' a) (he : cel g S' r q = e) : wdl g S' (ds ++ [(r, q)]) = wdl g S ds ++ [(q, e)] := by
  unfold wdl
  rw [List.map_append]
  congr 1
  · exact List.map_congr_left fun x hx => by rw [hc _ _ (ho x hx)]
  · simp [he]
theorem okd_push {g : gG} {ds : List (Nat × Nat)} {r q : Nat} (h : okd g ds) (hs : sgl r = false) : okd g (ds ++ [(r, q)]) := by
  intro x hx h1
  rcases List.mem_append.mp hx with h2 | h2
  · exact h x h2 h1
  · have e : x = (r, q) := by simpa using h2
    subst e
    rw [hs] at h1; cases h1
theorem cel_clr (r0 : Nat) {g : gG} {J : Nat → Nat → Int32} {L : Nat → Nat → Int64} {I : Nat → Nat → Nat → Int32} {P : Nat → Nat → Nat → Option Nat} {E : Nat → Option Nat} {N : Nat → Nat} (q r a : Nat) (h : a ≠ q) : cel g (J, L, clr I r0 q 0, clr P r0 q none, E, N) r a = cel g (J, L, I, P, E, N) r a := by
  simp only [cel, clr_o _ _ _ h]
theorem cel_clrN {g : gG} {J : Nat → Nat → Int32} {L : Nat → Nat → Int64} {I : Nat → Nat → Nat → Int32} {P : Nat → Nat → Nat → Option Nat} {E : Nat → Option Nat} {N : Nat → Nat} (n q r r' a : Nat) (h : a ≠ q) : cel g (J, L, I, clr P (r + 10) q none, E, up1 N q n) r' a = cel g (J, L, I, P, E, N) r' a := by
  simp only [cel, clr_o _ _ _ h, up1_n _ _ h]
theorem cel_clrI {g : gG} {J : Nat → Nat → Int32} {L : Nat → Nat → Int64} {I : Nat → Nat → Nat → Int32} {P : Nat → Nat → Nat → Option Nat} {E : Nat → Option Nat} {N : Nat → Nat} (n q r a : Nat) (h : a ≠ q) : cel g (J, L, clr I 46 q 0, P, E, up1 N q n) r a = cel g (J, L, I, P, E, N) r a := by
  simp only [cel, clr_o _ _ _ h, up1_n _ _ h]
theorem cA_obj {D : va_G} {cl : List vw_C} {tys : List (ClassId × FieldType)} {s : State} {c1 c2 : ClassId} {C : String} {k1 k2 : Nat} (hK : va_K D cl tys s) (h1 : tys[k1]? = some (c1, .object C)) (h2 : tys[k2]? = some (c2, .object C)) : c1 = c2 :=
  Option.some.inj ((va_nmO (hK.2 _ _ h1).2 rfl).symm.trans (va_nmO (hK.2 _ _ h2).2 rfl))
theorem cA_int {D : va_G} {cl : List vw_C} {tys : List (ClassId × FieldType)} {s : State} {c1 c2 : ClassId} {k1 k2 : Nat} (hK : va_K D cl tys s) (h1 : tys[k1]? = some (c1, .int)) (h2 : tys[k2]? = some (c2, .int)) : c1 = c2 :=
  Option.some.inj ((show s.vm.findClass _ = some c1 from (hK.2 _ _ h1).2).symm.trans (show s.vm.findClass _ = some c2 from (hK.2 _ _ h2).2))
section ALLOC
variable {p : Program} {l : Launch} {e : Env} {R : Room} {s : State} {m : MethodId} {args : Array Value} {below : List Frame} {meth : Method} {c : Code} {H : Heap} {locs : List Loc} {cells slots : Nat} {Q : State → Prop}
variable {pc : Nat} {ls : Array Slot} {rest : List Value} {cc : ByteArray} {nL : Nat} {own : String} {g : gG} {A : Nat → Prop} {ds : List (Nat × Nat)} {index : Nat} {a : Nat}
variable {J : Nat → Nat → Int32} {L : Nat → Nat → Int64} {I : Nat → Nat → Nat → Int32} {P : Nat → Nat → Nat → Option Nat} {E : Nat → Option Nat} {N : Nat → Nat} {S : sS}

theorem g_new {S' : Nat → sS} {r : Nat} (C : CC g A p m c cc nL s args own) (hW : WB g A s.heap H locs S ds) (hsg : sgl r = false) {ci Nf : Nat} {fs : List Value} {Cn : String} {T : u_T} (hc : vwCl[ci]? = some (Cn, T, Nf)) (hin : ∀ w ∈ u_ws Cn T Nf, w ∈ lw_t2) (ty0 : Nat → FieldType) (hty : ∀ k, k < Nf → parseFieldDescriptor (T k).2.2.1 = some (ty0 k)) (hcl : Cond.classLink own index Cn ∈ lw_t2) (hinst : Cond.instantiable Cn Nf ∈ lw_t2) (hini : Cond.initialized Cn ∈ lw_t2) (hfs : ∀ j, j < Nf → defaultValue (ty0 j) = vp_V fs j) (hce : ∀ q, cel g (S' q) r q = .inr (ci, fs)) (hoth : ∀ q r' a : Nat, a ≠ q → cel g (S' q) r' a = cel g S r' a) (hf : cells + 1 ≤ R.cells ∧ slots + Nf ≤ R.slots) (hdg : decode cc pc = .ok (.new index, 3))
    (kk : ∀ (q : Nat) (H1 : Heap), (∀ x ∈ ds, x.2 ≠ q) → WB g A s.heap H1 locs (S' q) (ds ++ [(r, q)]) → W p l e R s m args below meth c H1 locs (cells + 1) (slots + Nf) Q (F0 m (pc + 3) ls (.ref q :: rest))) : W p l e R s m args below meth c H locs cells slots Q (F0 m pc ls rest) :=
  va_new C.1.1 C.1.2.1 C.1.2.2.2.2 hin ty0 hty C.1.2.2.2.1 (C.1.2.2.2.2 _ hcl) (C.1.2.2.2.2 _ hinst) (C.1.2.2.2.2 _ hini) C.2.1 hW.1 hW.2.1 hW.2.2.1 C.2.2.1 hc hfs hf.1 hf.2 hdg (fun q H1 hP hD hS => by
    have hfr := fresh_of hD
    have e := wdl_push (g := g) (S' := S' q) (e := .inr (ci, fs)) hfr (hoth q) (hce q)
    exact kk q H1 hfr ⟨e ▸ hP, e ▸ hD, hS, okd_push hW.2.2.2 hsg⟩)
theorem g_newq {r : Nat} (C : CC g A p m c cc nL s args own) (hW : WB g A s.heap H locs (J, L, I, P, E, N) ds) (hr : nel r lroles = true) (hcl : Cond.classLink own index "java/lang/Object" ∈ lw_t2) {n : Int32} {N' : Nat} (hn : n.toInt = (N' : Int)) (hN : N' ≤ 20000) (hf : cells + 1 ≤ R.cells ∧ slots + N' ≤ R.slots) (hdg : decode cc pc = .ok (.anewarray index, 3))
    (kk : ∀ (q : Nat) (H1 : Heap), (∀ x ∈ ds, x.2 ≠ q) → WB g A s.heap H1 locs (J, L, I, clr P (r + 10) q none, E, up1 N q N') (ds ++ [(r + 10, q)]) → W p l e R s m args below meth c H1 locs (cells + 1) (slots + N') Q (F0 m (pc + 3) ls (.ref q :: rest))) : W p l e R s m args below meth c H locs cells slots Q (F0 m pc ls (.int n :: rest)) :=
  va_newq C.1.1 C.1.2.1 C.1.2.2.2.1 (C.1.2.2.2.2 _ hcl) C.2.2.2.2.2.2.2.1 C.2.1 hW.1 hW.2.1 hW.2.2.1 C.2.2.1 (fun q => by have := tlt hn kp0 q; omega) (show n.toNatClampNeg = N' by rw [tcl, hn]; rfl) (by omega) hf.1 hf.2 hdg (fun q cA H1 hK hP hD hS => by
    have ec : cA = g.2.1 3 := cA_obj (k1 := 4) (k2 := 3) hK rfl rfl
    subst ec
    have hfr := fresh_of hD
    have e := wdl_push (g := g) (r := r + 10) (S' := (J, L, I, clr P (r + 10) q none, E, up1 N q N')) (e := .inl (g.2.1 3, N', .inr (.inr (.inr (.inr (fun _ => none)))))) hfr (fun r' a h => cel_clrN N' q r r' a h) (by
      show celc _ _ _ _ _ _ _ _ = _
      rw [cel_back (g := g) hr]
      have e1 : (up1 N q N' q) = N' := up1_s N q N'
      have e2 : (fun f => clr P (r + 10) q none (r + 10) f q) = (fun _ => none) := funext fun f => clr_s P q none _ f
      simp only [e1, e2])
    exact kk q H1 hfr ⟨e ▸ hP, e ▸ hD, hS, okd_push hW.2.2.2 (sgl_back hr)⟩)
theorem g_newi (C : CC g A p m c cc nL s args own) (hW : WB g A s.heap H locs (J, L, I, P, E, N) ds) (harr : Cond.arrayClass .int ∈ lw_t2) {n : Int32} {N' : Nat} (hn : n.toInt = (N' : Int)) (hN : N' ≤ 20000) (hf : cells + 1 ≤ R.cells ∧ slots + N' ≤ R.slots) (hdg : decode cc pc = .ok (.newarray .int, 2))
    (kk : ∀ (q : Nat) (H1 : Heap), (∀ x ∈ ds, x.2 ≠ q) → WB g A s.heap H1 locs (J, L, clr I 46 q 0, P, E, up1 N q N') (ds ++ [(46, q)]) → W p l e R s m args below meth c H1 locs (cells + 1) (slots + N') Q (F0 m (pc + 2) ls (.ref q :: rest))) : W p l e R s m args below meth c H locs cells slots Q (F0 m pc ls (.int n :: rest)) :=
  va_newa (atype := .int) (ty := .int) (a0 := (N', .inl (fun _ => 0))) C.1.1 C.1.2.1 (C.1.2.2.2.2 _ harr) rfl C.2.1 hW.1 hW.2.1 hW.2.2.1 C.2.2.1 (fun _ => rfl) (fun q => by have := tlt hn kp0 q; omega) (show n.toNatClampNeg = N' by rw [tcl, hn]; rfl) (by show N' * 4 ≤ _; omega) hf.1 hf.2 hdg (fun q cA H1 hK hP hD hS => by
    have ec : cA = g.2.1 0 := cA_int (k1 := 4) (k2 := 0) hK rfl rfl
    subst ec
    have hfr := fresh_of hD
    have e := wdl_push (g := g) (r := 46) (S' := (J, L, clr I 46 q 0, P, E, up1 N q N')) (e := .inl (g.2.1 0, N', .inl (fun _ => 0))) hfr (fun r' a h => cel_clrI N' q r' a h) (by
      have e1 : (up1 N q N' q) = N' := up1_s N q N'
      have e2 : (fun f => clr I 46 q 0 46 f q) = (fun _ => 0) := funext fun f => clr_s I q 0 _ f
      show (Sum.inl (g.2.1 0, up1 N q N' q, Sum.inl (fun f => clr I 46 q 0 46 f q)) : va_E) = _
      simp only [e1, e2])
    exact kk q H1 hfr ⟨e ▸ hP, e ▸ hD, hS, okd_push hW.2.2.2 rfl⟩)
/-- a reference goes into a list's row -/
theorem g_qast {r b v : Nat} (C : CC g A p m c cc nL s args own) (hW : WB g A s.heap H locs (J, L, I, P, E, N) ds) (hr : nel r lroles = true) (hm : (r + 10, b) ∈ ds) {er ci Nf : Nat} {fs : List Value} {Cn : String} {T : u_T} (hv : (er, v) ∈ ds) (hcel : cel g (J, L, I, P, E, N) er v = .inr (ci, fs)) (hc : vwCl[ci]? = some (Cn, T, Nf)) (hca : (Cn, "java/lang/Object") ∈ nbC) {i : Int32} (hin : vp_in i (N b)) (hdg : decode cc pc = .ok (.aastore, 1))
    (kk : ∀ (H1 : Heap) (locs1 : List Loc), WB g A s.heap H1 locs1 (J, L, I, up3 P (r + 10) i.toNatClampNeg b (some v), E, N) ds → W p l e R s m args below meth c H1 locs1 cells slots Q (F0 m (pc + 1) ls rest)) : W p l e R s m args below meth c H locs cells slots Q (F0 m pc ls (.ref v :: .int i :: .ref b :: rest)) := by
  obtain ⟨k, hi⟩ := List.getElem?_of_mem hm
  have hq := wdl_at (g := g) (S := (J, L, I, P, E, N)) hi
  have hcb : cel g (J, L, I, P, E, N) (r + 10) b = .inl (g.2.1 3, N b, .inr (.inr (.inr (.inr (fun f => P (r + 10) f b))))) := cel_back hr
  rw [hcb] at hq
  have hcb' : cel g (J, L, I, up3 P (r + 10) i.toNatClampNeg b (some v), E, N) (r + 10) b = .inl (g.2.1 3, N b, .inr (.inr (.inr (.inr (va_up (fun f => P (r + 10) f b) i.toNatClampNeg (some v)))))) := by
    show celc _ _ _ _ _ _ _ _ = _
    rw [cel_back (g := g) hr]
    have e2 : (fun f => up3 P (r + 10) i.toNatClampNeg b (some v) (r + 10) f b) = va_up (fun f => P (r + 10) f b) i.toNatClampNeg (some v) := by
      funext f
      by_cases h : f = i.toNatClampNeg
      · subst h; simp [up3_s, va_up]
      · simp [up3, va_up, beq_no h, h, beq_yes]
    simp only [e2]
  have hs := wdl_set (g := g) (S' := (J, L, I, up3 P (r + 10) i.toNatClampNeg b (some v), E, N)) hW.2.1 hi oth_P
  rw [hcb'] at hs
  exact vb_astq (E := "java/lang/Object") (C := Cn) C.1.1 C.1.2.1 C.2.1 hW.1 hW.2.1 hW.2.2.1 k 3 hq rfl (recv_ (T := ((J, L, I, P, E, N), ds)) C hW hv hcel hc) (vb_asgC (C.2.2.2.2.2.2.1 _ hca)) hin hdg (fun H1 locs1 hP hD hS => kk H1 locs1 ⟨hs ▸ hP, hs ▸ hD, hS, hW.2.2.2⟩)
/-- System.arraycopy between two rows of a list, from their starts -/
theorem g_copyq {r b0 b1 er : Nat} (C : CC g A p m c cc nL s args own) (hml : c.maxLocals = ls.size) (hW : WB g A s.heap H locs (J, L, I, P, E, N) ds) (hr : nel r lroles = true) (hm0 : (r + 10, b0) ∈ ds) (hm1 : (r + 10, b1) ∈ ds) (her : nel er eroles = true) {n : Int32} (hn : 0 ≤ n.toInt) (h0 : n.toInt ≤ (N b0 : Int)) (h1 : n.toInt ≤ (N b1 : Int)) (hel : ∀ k : Nat, k < n.toNatClampNeg → ∀ y : Nat, P (r + 10) k b0 = some y → (er, y) ∈ ds)
    (hlink : Cond.methodLink own index arraycopyName ∈ lw_t2) (hnat : Cond.native arraycopyName ∈ lw_t2) (hstat : Cond.static arraycopyName ∈ lw_t2) (hini : Cond.initialized "java/lang/System" ∈ lw_t2) (hframes : 1 ≤ R.frames) (hlocals : (rest.map fun v => v.category).sum + (nativeFrameWords "java/lang/System" "arraycopy" 5 + 11) ≤ R.locals) (hdg : decode cc pc = .ok (.invokestatic index, 3))
    (kk : ∀ (H1 : Heap) (locs1 : List Loc), WB g A s.heap H1 locs1 (J, L, I, prow P (r + 10) b1 (va_cpy (fun f => P (r + 10) f b0) (fun f => P (r + 10) f b1) 0 0 n.toNatClampNeg), E, N) ds → W p l e R s m args below meth c H1 locs1 cells slots Q (F0 m (pc + 3) ls rest)) : W p l e R s m args below meth c H locs cells slots Q (F0 m pc ls (.int n :: .int 0 :: .ref b1 :: .int 0 :: .ref b0 :: rest)) := by
  obtain ⟨k0, hk0⟩ := List.getElem?_of_mem hm0
  obtain ⟨k1, hk1⟩ := List.getElem?_of_mem hm1
  have hq0 := wdl_at (g := g) (S := (J, L, I, P, E, N)) hk0
  have hq1 := wdl_at (g := g) (S := (J, L, I, P, E, N)) hk1
  have hc0 : ∀ b : Nat, cel g (J, L, I, P, E, N) (r + 10) b = .inl (g.2.1 3, N b, .inr (.inr (.inr (.inr (fun f => P (r + 10) f b))))) := fun b => cel_back hr
  rw [hc0] at hq0 hq1
  have e0 : (0 : Int32).toNatClampNeg = 0 := by decide
  have hcb' : cel g (J, L, I, prow P (r + 10) b1 (va_cpy (fun f => P (r + 10) f b0) (fun f => P (r + 10) f b1) 0 0 n.toNatClampNeg), E, N) (r + 10) b1 = .inl (g.2.1 3, N b1, .inr (.inr (.inr (.inr (va_cpy (fun f => P (r + 10) f b0) (fun f => P (r + 10) f b1) 0 0 n.toNatClampNeg))))) := by
    show celc _ _ _ _ _ _ _ _ = _
    rw [cel_back (g := g) hr]
    simp only [prow_s]
  have hs := wdl_set (g := g) (S' := (J, L, I, prow P (r + 10) b1 (va_cpy (fun f => P (r + 10) f b0) (fun f => P (r + 10) f b1) 0 0 n.toNatClampNeg), E, N)) hW.2.1 hk1 oth_row
  rw [hcb'] at hs
  obtain ⟨Cn, T, Nf, hc, hca, hfs⟩ := er_cls her
  have hnn : (n.toNatClampNeg : Int) = n.toInt := by have := tcl n; omega
  refine va_copyq (E0 := "java/lang/Object") (E1 := "java/lang/Object") (C := Cn) C.1.1 C.1.2.1 hml C.1.2.2.2.1 (C.1.2.2.2.2 _ hlink) (C.1.2.2.2.2 _ hnat) (C.1.2.2.2.2 _ hstat) (C.1.2.2.2.2 _ hini) C.2.1 hW.1 hW.2.1 hW.2.2.1 k0 k1 3 3 hq0 hq1 rfl rfl (by decide) (by decide) (fun q => by have := tlt rfl kp0 q; omega) (by rw [e0]; omega) (by rw [e0]; omega) (fun i hi y hy => ?_) (vb_asgC (C.2.2.2.2.2.2.1 _ hca)) hframes hlocals hdg (fun H1 locs1 hP hD hS => kk H1 locs1 ?_)
  · rw [e0, Nat.zero_add] at hy
    obtain ⟨fs, hf⟩ := hfs g (J, L, I, P, E, N) y
    exact recv_ (T := ((J, L, I, P, E, N), ds)) C hW (hel i hi y hy) hf hc
  · rw [e0] at hP hD
    exact ⟨hs ▸ hP, hs ▸ hD, hS, hW.2.2.2⟩
end ALLOC
/-- a list keeps its form when others grow -/
theorem LWF.mono3 {g : gG} {J : Nat → Nat → Int32} {P P' : Nat → Nat → Nat → Option Nat} {E : Nat → Option Nat} {N N' : Nat → Nat} {dy dy' : List (Nat × Nat)} {r er : Nat} (hd : ∀ q ∈ dy, q ∈ dy') (hN : ∀ q ∈ dy, N' q.2 = N q.2) (hP : ∀ (k : Nat), ∀ q ∈ dy, P' (r + 10) k q.2 = P (r + 10) k q.2) (h : LWF g J P E N dy r er) : LWF g J P' E N' dy' r er := by
  refine ⟨h.1, h.2.1, h.2.2.imp id fun ⟨b, h3, h4, h5, h6, h7, h8⟩ => ⟨b, h3, hd _ h4, ?_, ?_, ?_, fun k hk => ?_⟩⟩
  · rw [hN _ h4]; exact h5
  · rw [hN _ h4]; exact h6
  · rw [hN _ h4]; exact h7
  · obtain ⟨q, q1, q2⟩ := h8 k hk
    exact ⟨q, by rw [hP k _ h4]; exact q1, hd _ q2⟩
/-- what is asked of the references of an object that is new -/
def TY1 (P : Nat → Nat → Nat → Option Nat) (N : Nat → Nat) (dy : List (Nat × Nat)) (r a : Nat) : Prop :=
  (r = 6 → P 6 0 a = none ∨ ∃ b, P 6 0 a = some b ∧ (6, b) ∈ dy) ∧ (r = 1 → ∃ b, P 1 0 a = some b ∧ (6, b) ∈ dy) ∧ (r = 2 → ∃ b, P 2 0 a = some b ∧ (6, b) ∈ dy) ∧ (r = 10 → ∃ b, P 10 2 a = some b ∧ (46, b) ∈ dy ∧ N b ≤ 60)
theorem wxf_new {g : gG} {J : Nat → Nat → Int32} {P P' : Nat → Nat → Nat → Option Nat} {E : Nat → Option Nat} {N N' : Nat → Nat} {dy : List (Nat × Nat)} {r q : Nat} (h : WXF g J P E N dy) (hf : ∀ x ∈ dy, x.2 ≠ q) (hP : ∀ r f a : Nat, a ≠ q → P' r f a = P r f a) (hN : ∀ a : Nat, a ≠ q → N' a = N a) (ht : TY1 P' N' dy r q) : WXF g J P' E N' (dy ++ [(r, q)]) := by
  have hd : ∀ x ∈ dy, x ∈ dy ++ [(r, q)] := fun x hx => List.mem_append_left _ hx
  have hN' : ∀ x ∈ dy, N' x.2 = N x.2 := fun x hx => hN _ (hf x hx)
  have hP' : ∀ (r k : Nat), ∀ x ∈ dy, P' r k x.2 = P r k x.2 := fun r k x hx => hP r k _ (hf x hx)
  have L : ∀ {r er : Nat}, LWF g J P E N dy r er → LWF g J P' E N' (dy ++ [(r, q)]) r er := fun h => h.mono3 (fun x hx => List.mem_append_left _ hx) hN' (fun k x hx => hP' _ k x hx)
  have M : ∀ {r1 er : Nat}, LWF g J P E N dy r1 er → LWF g J P' E N' (dy ++ [(r, q)]) r1 er := fun h => h.mono3 hd hN' (fun k x hx => hP' _ k x hx)
  have sp : ∀ {r1 a : Nat}, (r1, a) ∈ dy ++ [(r, q)] → (r1, a) ∈ dy ∨ (r = r1 ∧ a = q) := by
    intro r1 a hx
    rcases List.mem_append.mp hx with h1 | h1
    · exact Or.inl h1
    · have e : (r1, a) = (r, q) := by simpa using h1
      cases e; exact Or.inr ⟨rfl, rfl⟩
  obtain ⟨⟨h1, h2, h3, h4⟩, ⟨h5, h6, h7, h8⟩, ⟨t1, t2, t3, t4⟩⟩ := h
  obtain ⟨u1, u2, u3, u4⟩ := ht
  refine ⟨⟨M h1, M h2, M h3, M h4⟩, ⟨M h5, M h6, M h7, M h8⟩, fun a ha => ?_, fun a ha => ?_, fun a ha => ?_, fun a ha => ?_⟩
  · rcases sp ha with k | ⟨k, rfl⟩
    · rw [hP' 6 0 _ k]; exact (t1 a k).imp id fun ⟨b, x, y⟩ => ⟨b, x, hd _ y⟩
    · exact (u1 k).imp id fun ⟨b, x, y⟩ => ⟨b, x, hd _ y⟩
  · rcases sp ha with k | ⟨k, rfl⟩
    · rw [hP' 1 0 _ k]; exact (t2 a k).imp fun b ⟨x, y⟩ => ⟨x, hd _ y⟩
    · exact (u2 k).imp fun b ⟨x, y⟩ => ⟨x, hd _ y⟩
  · rcases sp ha with k | ⟨k, rfl⟩
    · rw [hP' 2 0 _ k]; exact (t3 a k).imp fun b ⟨x, y⟩ => ⟨x, hd _ y⟩
    · exact (u3 k).imp fun b ⟨x, y⟩ => ⟨x, hd _ y⟩
  · rcases sp ha with k | ⟨k, rfl⟩
    · rw [hP' 10 2 _ k]; exact (t4 a k).imp fun b ⟨x, y, z⟩ => ⟨x, hd _ y, by rw [hN' _ y]; exact z⟩
    · exact (u4 k).imp fun b ⟨x, y, z⟩ => ⟨x, hd _ y, z⟩
/-- what an add leaves: the world grows by rows of that list alone -/
def GR (dy dy' : List (Nat × Nat)) (N N' : Nat → Nat) (r : Nat) : Prop := (∀ x ∈ dy, x ∈ dy') ∧ (∀ x ∈ dy', x ∈ dy ∨ x.1 = r + 10) ∧ ∀ x ∈ dy, N' x.2 = N x.2
theorem wxf_add20 {g : gG} {J : Nat → Nat → Int32} {P : Nat → Nat → Nat → Option Nat} {E : Nat → Option Nat} {N N' : Nat → Nat} {dy dy' : List (Nat × Nat)} {x n : Int32} {v : Option Nat} {G : Nat → Nat → Nat → Option Nat} (h : WXF g J P E N dy) (hG : GR dy dy' N N' 20) (hL : LWF g (up2 (up2 J 20 0 x) 20 2 n) (hv P [30] [] G) (up1 E 20 v) N' dy' 20 6) : WXF g (up2 (up2 J 20 0 x) 20 2 n) (hv P [30] [] G) (up1 E 20 v) N' dy' := by
  refine ⟨⟨hL, LWF.mono3 (P' := P) (N' := N') (dy' := dy') hG.1 hG.2.2 (fun _ _ _ => rfl) (h.1.2.1), LWF.mono3 (P' := P) (N' := N') (dy' := dy') hG.1 hG.2.2 (fun _ _ _ => rfl) (h.1.2.2.1), LWF.mono3 (P' := P) (N' := N') (dy' := dy') hG.1 hG.2.2 (fun _ _ _ => rfl) (h.1.2.2.2)⟩, ⟨LWF.mono3 (P' := P) (N' := N') (dy' := dy') hG.1 hG.2.2 (fun _ _ _ => rfl) (h.2.1.1), LWF.mono3 (P' := P) (N' := N') (dy' := dy') hG.1 hG.2.2 (fun _ _ _ => rfl) (h.2.1.2.1), LWF.mono3 (P' := P) (N' := N') (dy' := dy') hG.1 hG.2.2 (fun _ _ _ => rfl) (h.2.1.2.2.1), LWF.mono3 (P' := P) (N' := N') (dy' := dy') hG.1 hG.2.2 (fun _ _ _ => rfl) (h.2.1.2.2.2)⟩, fun a ha => ?_, fun a ha => ?_, fun a ha => ?_, fun a ha => ?_⟩
  · have k := (hG.2.1 _ ha).resolve_right (by simp); exact (h.2.2.1 a k).imp id fun ⟨b, x, y⟩ => ⟨b, x, hG.1 _ y⟩
  · have k := (hG.2.1 _ ha).resolve_right (by simp); exact (h.2.2.2.1 a k).imp fun b ⟨x, y⟩ => ⟨x, hG.1 _ y⟩
  · have k := (hG.2.1 _ ha).resolve_right (by simp); exact (h.2.2.2.2.1 a k).imp fun b ⟨x, y⟩ => ⟨x, hG.1 _ y⟩
  · have k := (hG.2.1 _ ha).resolve_right (by simp); exact (h.2.2.2.2.2 a k).imp fun b ⟨x, y, z⟩ => ⟨x, hG.1 _ y, by rw [hG.2.2 _ y]; exact z⟩
theorem wxf_add21 {g : gG} {J : Nat → Nat → Int32} {P : Nat → Nat → Nat → Option Nat} {E : Nat → Option Nat} {N N' : Nat → Nat} {dy dy' : List (Nat × Nat)} {x n : Int32} {v : Option Nat} {G : Nat → Nat → Nat → Option Nat} (h : WXF g J P E N dy) (hG : GR dy dy' N N' 21) (hL : LWF g (up2 (up2 J 21 0 x) 21 2 n) (hv P [31] [] G) (up1 E 21 v) N' dy' 21 1) : WXF g (up2 (up2 J 21 0 x) 21 2 n) (hv P [31] [] G) (up1 E 21 v) N' dy' := by
  refine ⟨⟨LWF.mono3 (P' := P) (N' := N') (dy' := dy') hG.1 hG.2.2 (fun _ _ _ => rfl) (h.1.1), hL, LWF.mono3 (P' := P) (N' := N') (dy' := dy') hG.1 hG.2.2 (fun _ _ _ => rfl) (h.1.2.2.1), LWF.mono3 (P' := P) (N' := N') (dy' := dy') hG.1 hG.2.2 (fun _ _ _ => rfl) (h.1.2.2.2)⟩, ⟨LWF.mono3 (P' := P) (N' := N') (dy' := dy') hG.1 hG.2.2 (fun _ _ _ => rfl) (h.2.1.1), LWF.mono3 (P' := P) (N' := N') (dy' := dy') hG.1 hG.2.2 (fun _ _ _ => rfl) (h.2.1.2.1), LWF.mono3 (P' := P) (N' := N') (dy' := dy') hG.1 hG.2.2 (fun _ _ _ => rfl) (h.2.1.2.2.1), LWF.mono3 (P' := P) (N' := N') (dy' := dy') hG.1 hG.2.2 (fun _ _ _ => rfl) (h.2.1.2.2.2)⟩, fun a ha => ?_, fun a ha => ?_, fun a ha => ?_, fun a ha => ?_⟩
  · have k := (hG.2.1 _ ha).resolve_right (by simp); exact (h.2.2.1 a k).imp id fun ⟨b, x, y⟩ => ⟨b, x, hG.1 _ y⟩
  · have k := (hG.2.1 _ ha).resolve_right (by simp); exact (h.2.2.2.1 a k).imp fun b ⟨x, y⟩ => ⟨x, hG.1 _ y⟩
  · have k := (hG.2.1 _ ha).resolve_right (by simp); exact (h.2.2.2.2.1 a k).imp fun b ⟨x, y⟩ => ⟨x, hG.1 _ y⟩
  · have k := (hG.2.1 _ ha).resolve_right (by simp); exact (h.2.2.2.2.2 a k).imp fun b ⟨x, y, z⟩ => ⟨x, hG.1 _ y, by rw [hG.2.2 _ y]; exact z⟩
theorem wxf_add22 {g : gG} {J : Nat → Nat → Int32} {P : Nat → Nat → Nat → Option Nat} {E : Nat → Option Nat} {N N' : Nat → Nat} {dy dy' : List (Nat × Nat)} {x n : Int32} {v : Option Nat} {G : Nat → Nat → Nat → Option Nat} (h : WXF g J P E N dy) (hG : GR dy dy' N N' 22) (hL : LWF g (up2 (up2 J 22 0 x) 22 2 n) (hv P [32] [] G) (up1 E 22 v) N' dy' 22 2) : WXF g (up2 (up2 J 22 0 x) 22 2 n) (hv P [32] [] G) (up1 E 22 v) N' dy' := by
  refine ⟨⟨LWF.mono3 (P' := P) (N' := N') (dy' := dy') hG.1 hG.2.2 (fun _ _ _ => rfl) (h.1.1), LWF.mono3 (P' := P) (N' := N') (dy' := dy') hG.1 hG.2.2 (fun _ _ _ => rfl) (h.1.2.1), hL, LWF.mono3 (P' := P) (N' := N') (dy' := dy') hG.1 hG.2.2 (fun _ _ _ => rfl) (h.1.2.2.2)⟩, ⟨LWF.mono3 (P' := P) (N' := N') (dy' := dy') hG.1 hG.2.2 (fun _ _ _ => rfl) (h.2.1.1), LWF.mono3 (P' := P) (N' := N') (dy' := dy') hG.1 hG.2.2 (fun _ _ _ => rfl) (h.2.1.2.1), LWF.mono3 (P' := P) (N' := N') (dy' := dy') hG.1 hG.2.2 (fun _ _ _ => rfl) (h.2.1.2.2.1), LWF.mono3 (P' := P) (N' := N') (dy' := dy') hG.1 hG.2.2 (fun _ _ _ => rfl) (h.2.1.2.2.2)⟩, fun a ha => ?_, fun a ha => ?_, fun a ha => ?_, fun a ha => ?_⟩
  · have k := (hG.2.1 _ ha).resolve_right (by simp); exact (h.2.2.1 a k).imp id fun ⟨b, x, y⟩ => ⟨b, x, hG.1 _ y⟩
  · have k := (hG.2.1 _ ha).resolve_right (by simp); exact (h.2.2.2.1 a k).imp fun b ⟨x, y⟩ => ⟨x, hG.1 _ y⟩
  · have k := (hG.2.1 _ ha).resolve_right (by simp); exact (h.2.2.2.2.1 a k).imp fun b ⟨x, y⟩ => ⟨x, hG.1 _ y⟩
  · have k := (hG.2.1 _ ha).resolve_right (by simp); exact (h.2.2.2.2.2 a k).imp fun b ⟨x, y, z⟩ => ⟨x, hG.1 _ y, by rw [hG.2.2 _ y]; exact z⟩
theorem wxf_add23 {g : gG} {J : Nat → Nat → Int32} {P : Nat → Nat → Nat → Option Nat} {E : Nat → Option Nat} {N N' : Nat → Nat} {dy dy' : List (Nat × Nat)} {x n : Int32} {v : Option Nat} {G : Nat → Nat → Nat → Option Nat} (h : WXF g J P E N dy) (hG : GR dy dy' N N' 23) (hL : LWF g (up2 (up2 J 23 0 x) 23 2 n) (hv P [33] [] G) (up1 E 23 v) N' dy' 23 6) : WXF g (up2 (up2 J 23 0 x) 23 2 n) (hv P [33] [] G) (up1 E 23 v) N' dy' := by
  refine ⟨⟨LWF.mono3 (P' := P) (N' := N') (dy' := dy') hG.1 hG.2.2 (fun _ _ _ => rfl) (h.1.1), LWF.mono3 (P' := P) (N' := N') (dy' := dy') hG.1 hG.2.2 (fun _ _ _ => rfl) (h.1.2.1), LWF.mono3 (P' := P) (N' := N') (dy' := dy') hG.1 hG.2.2 (fun _ _ _ => rfl) (h.1.2.2.1), hL⟩, ⟨LWF.mono3 (P' := P) (N' := N') (dy' := dy') hG.1 hG.2.2 (fun _ _ _ => rfl) (h.2.1.1), LWF.mono3 (P' := P) (N' := N') (dy' := dy') hG.1 hG.2.2 (fun _ _ _ => rfl) (h.2.1.2.1), LWF.mono3 (P' := P) (N' := N') (dy' := dy') hG.1 hG.2.2 (fun _ _ _ => rfl) (h.2.1.2.2.1), LWF.mono3 (P' := P) (N' := N') (dy' := dy') hG.1 hG.2.2 (fun _ _ _ => rfl) (h.2.1.2.2.2)⟩, fun a ha => ?_, fun a ha => ?_, fun a ha => ?_, fun a ha => ?_⟩
  · have k := (hG.2.1 _ ha).resolve_right (by simp); exact (h.2.2.1 a k).imp id fun ⟨b, x, y⟩ => ⟨b, x, hG.1 _ y⟩
  · have k := (hG.2.1 _ ha).resolve_right (by simp); exact (h.2.2.2.1 a k).imp fun b ⟨x, y⟩ => ⟨x, hG.1 _ y⟩
  · have k := (hG.2.1 _ ha).resolve_right (by simp); exact (h.2.2.2.2.1 a k).imp fun b ⟨x, y⟩ => ⟨x, hG.1 _ y⟩
  · have k := (hG.2.1 _ ha).resolve_right (by simp); exact (h.2.2.2.2.2 a k).imp fun b ⟨x, y, z⟩ => ⟨x, hG.1 _ y, by rw [hG.2.2 _ y]; exact z⟩
theorem wxf_add24 {g : gG} {J : Nat → Nat → Int32} {P : Nat → Nat → Nat → Option Nat} {E : Nat → Option Nat} {N N' : Nat → Nat} {dy dy' : List (Nat × Nat)} {x n : Int32} {v : Option Nat} {G : Nat → Nat → Nat → Option Nat} (h : WXF g J P E N dy) (hG : GR dy dy' N N' 24) (hL : LWF g (up2 (up2 J 24 0 x) 24 2 n) (hv P [34] [] G) (up1 E 24 v) N' dy' 24 7) : WXF g (up2 (up2 J 24 0 x) 24 2 n) (hv P [34] [] G) (up1 E 24 v) N' dy' := by
  refine ⟨⟨LWF.mono3 (P' := P) (N' := N') (dy' := dy') hG.1 hG.2.2 (fun _ _ _ => rfl) (h.1.1), LWF.mono3 (P' := P) (N' := N') (dy' := dy') hG.1 hG.2.2 (fun _ _ _ => rfl) (h.1.2.1), LWF.mono3 (P' := P) (N' := N') (dy' := dy') hG.1 hG.2.2 (fun _ _ _ => rfl) (h.1.2.2.1), LWF.mono3 (P' := P) (N' := N') (dy' := dy') hG.1 hG.2.2 (fun _ _ _ => rfl) (h.1.2.2.2)⟩, ⟨hL, LWF.mono3 (P' := P) (N' := N') (dy' := dy') hG.1 hG.2.2 (fun _ _ _ => rfl) (h.2.1.2.1), LWF.mono3 (P' := P) (N' := N') (dy' := dy') hG.1 hG.2.2 (fun _ _ _ => rfl) (h.2.1.2.2.1), LWF.mono3 (P' := P) (N' := N') (dy' := dy') hG.1 hG.2.2 (fun _ _ _ => rfl) (h.2.1.2.2.2)⟩, fun a ha => ?_, fun a ha => ?_, fun a ha => ?_, fun a ha => ?_⟩
  · have k := (hG.2.1 _ ha).resolve_right (by simp); exact (h.2.2.1 a k).imp id fun ⟨b, x, y⟩ => ⟨b, x, hG.1 _ y⟩
  · have k := (hG.2.1 _ ha).resolve_right (by simp); exact (h.2.2.2.1 a k).imp fun b ⟨x, y⟩ => ⟨x, hG.1 _ y⟩
  · have k := (hG.2.1 _ ha).resolve_right (by simp); exact (h.2.2.2.2.1 a k).imp fun b ⟨x, y⟩ => ⟨x, hG.1 _ y⟩
  · have k := (hG.2.1 _ ha).resolve_right (by simp); exact (h.2.2.2.2.2 a k).imp fun b ⟨x, y, z⟩ => ⟨x, hG.1 _ y, by rw [hG.2.2 _ y]; exact z⟩
theorem wxf_add25 {g : gG} {J : Nat → Nat → Int32} {P : Nat → Nat → Nat → Option Nat} {E : Nat → Option Nat} {N N' : Nat → Nat} {dy dy' : List (Nat × Nat)} {x n : Int32} {v : Option Nat} {G : Nat → Nat → Nat → Option Nat} (h : WXF g J P E N dy) (hG : GR dy dy' N N' 25) (hL : LWF g (up2 (up2 J 25 0 x) 25 2 n) (hv P [35] [] G) (up1 E 25 v) N' dy' 25 10) : WXF g (up2 (up2 J 25 0 x) 25 2 n) (hv P [35] [] G) (up1 E 25 v) N' dy' := by
  refine ⟨⟨LWF.mono3 (P' := P) (N' := N') (dy' := dy') hG.1 hG.2.2 (fun _ _ _ => rfl) (h.1.1), LWF.mono3 (P' := P) (N' := N') (dy' := dy') hG.1 hG.2.2 (fun _ _ _ => rfl) (h.1.2.1), LWF.mono3 (P' := P) (N' := N') (dy' := dy') hG.1 hG.2.2 (fun _ _ _ => rfl) (h.1.2.2.1), LWF.mono3 (P' := P) (N' := N') (dy' := dy') hG.1 hG.2.2 (fun _ _ _ => rfl) (h.1.2.2.2)⟩, ⟨LWF.mono3 (P' := P) (N' := N') (dy' := dy') hG.1 hG.2.2 (fun _ _ _ => rfl) (h.2.1.1), hL, LWF.mono3 (P' := P) (N' := N') (dy' := dy') hG.1 hG.2.2 (fun _ _ _ => rfl) (h.2.1.2.2.1), LWF.mono3 (P' := P) (N' := N') (dy' := dy') hG.1 hG.2.2 (fun _ _ _ => rfl) (h.2.1.2.2.2)⟩, fun a ha => ?_, fun a ha => ?_, fun a ha => ?_, fun a ha => ?_⟩
  · have k := (hG.2.1 _ ha).resolve_right (by simp); exact (h.2.2.1 a k).imp id fun ⟨b, x, y⟩ => ⟨b, x, hG.1 _ y⟩
  · have k := (hG.2.1 _ ha).resolve_right (by simp); exact (h.2.2.2.1 a k).imp fun b ⟨x, y⟩ => ⟨x, hG.1 _ y⟩
  · have k := (hG.2.1 _ ha).resolve_right (by simp); exact (h.2.2.2.2.1 a k).imp fun b ⟨x, y⟩ => ⟨x, hG.1 _ y⟩
  · have k := (hG.2.1 _ ha).resolve_right (by simp); exact (h.2.2.2.2.2 a k).imp fun b ⟨x, y, z⟩ => ⟨x, hG.1 _ y, by rw [hG.2.2 _ y]; exact z⟩
theorem wxf_add26 {g : gG} {J : Nat → Nat → Int32} {P : Nat → Nat → Nat → Option Nat} {E : Nat → Option Nat} {N N' : Nat → Nat} {dy dy' : List (Nat × Nat)} {x n : Int32} {v : Option Nat} {G : Nat → Nat → Nat → Option Nat} (h : WXF g J P E N dy) (hG : GR dy dy' N N' 26) (hL : LWF g (up2 (up2 J 26 0 x) 26 2 n) (hv P [36] [] G) (up1 E 26 v) N' dy' 26 5) : WXF g (up2 (up2 J 26 0 x) 26 2 n) (hv P [36] [] G) (up1 E 26 v) N' dy' := by
  refine ⟨⟨LWF.mono3 (P' := P) (N' := N') (dy' := dy') hG.1 hG.2.2 (fun _ _ _ => rfl) (h.1.1), LWF.mono3 (P' := P) (N' := N') (dy' := dy') hG.1 hG.2.2 (fun _ _ _ => rfl) (h.1.2.1), LWF.mono3 (P' := P) (N' := N') (dy' := dy') hG.1 hG.2.2 (fun _ _ _ => rfl) (h.1.2.2.1), LWF.mono3 (P' := P) (N' := N') (dy' := dy') hG.1 hG.2.2 (fun _ _ _ => rfl) (h.1.2.2.2)⟩, ⟨LWF.mono3 (P' := P) (N' := N') (dy' := dy') hG.1 hG.2.2 (fun _ _ _ => rfl) (h.2.1.1), LWF.mono3 (P' := P) (N' := N') (dy' := dy') hG.1 hG.2.2 (fun _ _ _ => rfl) (h.2.1.2.1), hL, LWF.mono3 (P' := P) (N' := N') (dy' := dy') hG.1 hG.2.2 (fun _ _ _ => rfl) (h.2.1.2.2.2)⟩, fun a ha => ?_, fun a ha => ?_, fun a ha => ?_, fun a ha => ?_⟩
  · have k := (hG.2.1 _ ha).resolve_right (by simp); exact (h.2.2.1 a k).imp id fun ⟨b, x, y⟩ => ⟨b, x, hG.1 _ y⟩
  · have k := (hG.2.1 _ ha).resolve_right (by simp); exact (h.2.2.2.1 a k).imp fun b ⟨x, y⟩ => ⟨x, hG.1 _ y⟩
  · have k := (hG.2.1 _ ha).resolve_right (by simp); exact (h.2.2.2.2.1 a k).imp fun b ⟨x, y⟩ => ⟨x, hG.1 _ y⟩
  · have k := (hG.2.1 _ ha).resolve_right (by simp); exact (h.2.2.2.2.2 a k).imp fun b ⟨x, y, z⟩ => ⟨x, hG.1 _ y, by rw [hG.2.2 _ y]; exact z⟩
theorem wxf_add27 {g : gG} {J : Nat → Nat → Int32} {P : Nat → Nat → Nat → Option Nat} {E : Nat → Option Nat} {N N' : Nat → Nat} {dy dy' : List (Nat × Nat)} {x n : Int32} {v : Option Nat} {G : Nat → Nat → Nat → Option Nat} (h : WXF g J P E N dy) (hG : GR dy dy' N N' 27) (hL : LWF g (up2 (up2 J 27 0 x) 27 2 n) (hv P [37] [] G) (up1 E 27 v) N' dy' 27 9) : WXF g (up2 (up2 J 27 0 x) 27 2 n) (hv P [37] [] G) (up1 E 27 v) N' dy' := by
  refine ⟨⟨LWF.mono3 (P' := P) (N' := N') (dy' := dy') hG.1 hG.2.2 (fun _ _ _ => rfl) (h.1.1), LWF.mono3 (P' := P) (N' := N') (dy' := dy') hG.1 hG.2.2 (fun _ _ _ => rfl) (h.1.2.1), LWF.mono3 (P' := P) (N' := N') (dy' := dy') hG.1 hG.2.2 (fun _ _ _ => rfl) (h.1.2.2.1), LWF.mono3 (P' := P) (N' := N') (dy' := dy') hG.1 hG.2.2 (fun _ _ _ => rfl) (h.1.2.2.2)⟩, ⟨LWF.mono3 (P' := P) (N' := N') (dy' := dy') hG.1 hG.2.2 (fun _ _ _ => rfl) (h.2.1.1), LWF.mono3 (P' := P) (N' := N') (dy' := dy') hG.1 hG.2.2 (fun _ _ _ => rfl) (h.2.1.2.1), LWF.mono3 (P' := P) (N' := N') (dy' := dy') hG.1 hG.2.2 (fun _ _ _ => rfl) (h.2.1.2.2.1), hL⟩, fun a ha => ?_, fun a ha => ?_, fun a ha => ?_, fun a ha => ?_⟩
  · have k := (hG.2.1 _ ha).resolve_right (by simp); exact (h.2.2.1 a k).imp id fun ⟨b, x, y⟩ => ⟨b, x, hG.1 _ y⟩
  · have k := (hG.2.1 _ ha).resolve_right (by simp); exact (h.2.2.2.1 a k).imp fun b ⟨x, y⟩ => ⟨x, hG.1 _ y⟩
  · have k := (hG.2.1 _ ha).resolve_right (by simp); exact (h.2.2.2.2.1 a k).imp fun b ⟨x, y⟩ => ⟨x, hG.1 _ y⟩
  · have k := (hG.2.1 _ ha).resolve_right (by simp); exact (h.2.2.2.2.2 a k).imp fun b ⟨x, y, z⟩ => ⟨x, hG.1 _ y, by rw [hG.2.2 _ y]; exact z⟩
def PCm (g : gG) (av : List Value) (T : sT) (sz mi : Nat) : Array Value → State → Prop := va_Pc av (fun U => (U.heap.size = sz ∧ at_ g (fun _ => True) T U ∧ Zs g (FR g T sz) U U.heap) ∧ va_Mi "[Ljava/lang/Object;" mi U)
theorem pcm_blind {g : gG} {av : List Value} {T : sT} {sz mi : Nat} : FrameBlind (PCm g av T sz mi) := fun a U gf mk q => by
  obtain ⟨q0, q1, q2⟩ := q
  exact ⟨q0, (pc_blind (g := g) (av := av) (T := T) (sz := sz) a U gf mk ⟨q0, q1⟩).2, va_Mi.moved (u := U) (U := U.calling gf mk a) (Vm.Alike.refl U.vm) q2⟩
