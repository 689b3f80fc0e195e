/-- a row of ints at an address -/
def irow (I : Nat → Nat → Nat → Int32) (r b : Nat) (h : Nat → Int32) : Nat → Nat → Nat → Int32 := fun r' => bif Nat.beq r' r then (fun f a => bif Nat.beq a b then h f else I r' f a) else I r'
theorem irow_o (I : Nat → Nat → Nat → Int32) (r : Nat) {b a : Nat} (h : Nat → Int32) (hn : a ≠ b) (r' f : Nat) : irow I r b h r' f a = I r' f a := by
  unfold irow
  cases Nat.beq r' r <;> simp [beq_no hn]
theorem irow_s (I : Nat → Nat → Nat → Int32) (r b : Nat) (h : Nat → Int32) (f : Nat) : irow I r b h r f b = h f := by simp [irow, beq_yes]
theorem ag_irow {P P' : Nat → Nat → Nat → Int32} {R : List Nat} {F : List (Nat × Nat)} {r b : Nat} {v : Nat → Int32} (hr : nel r R = true) (h : ag P R F P') : ag P R F (irow P' r b v) := by
  intro r' f' h1 h2
  have e : r' ≠ r := fun e => by rw [e, hr] at h1; cases h1
  rw [← h r' f' h1 h2]
  simp [irow, beq_no e]
theorem fit_int (cA : ClassId) (n : Nat) (f : Nat → Int32) (i : Nat) (v : Value) (hv : (vp_cell cA (n, .inl f)).slots[i]? = some v) : fits .int v = true := by
  have hv : (arrV cA n (fun j => .int (f j))).slots[i]? = some v := hv
  have hi : i < n := by
    have h := (Array.getElem?_eq_some_iff.mp hv).1
    rw [arrV_size] at h; exact h
  rw [arrV_read _ _ hi] at hv; cases hv; rfl
section COPYI
variable {p : Program} {l : Launch} {e : Env} {R : Room} {s : State} {m : MethodId} {args : Array Value} {below : List Frame} {meth : Method} {c : Code} {H : Heap} {locs : List Loc} {cells slots : Nat} {Q : State → Prop}
variable {pc : Nat} {ls : Array Slot} {rest : List Value} {cc : ByteArray} {nL : Nat} {own : String} {g : gG} {A : Nat → Prop} {ds : List (Nat × Nat)} {index : Nat} {a : Nat}
variable {J : Nat → Nat → Int32} {L : Nat → Nat → Int64} {I : Nat → Nat → Nat → Int32} {P : Nat → Nat → Nat → Option Nat} {E : Nat → Option Nat} {N : Nat → Nat} {S : sS}
theorem g_clonei (C : CC g A p m c cc nL s args own) (hml : c.maxLocals = ls.size) (hW : WB g A s.heap H locs (J, L, I, P, E, N) ds) (hm : (44, g.2.2.1 44) ∈ ds)
    (hlink : Cond.methodLink own index ⟨"[I", "clone", "()Ljava/lang/Object;"⟩ ∈ lw_t2) (hsame : Cond.sameMethod "[I" "java/lang/Object" "clone" "()Ljava/lang/Object;" ∈ lw_t2) (hnat : Cond.native ⟨"java/lang/Object", "clone", "()Ljava/lang/Object;"⟩ ∈ lw_t2) (hinst : Cond.instanceMethod ⟨"java/lang/Object", "clone", "()Ljava/lang/Object;"⟩ ∈ lw_t2) (hsel : Cond.selects "[I" ⟨"[I", "clone", "()Ljava/lang/Object;"⟩ ⟨"java/lang/Object", "clone", "()Ljava/lang/Object;"⟩ ∈ lw_t2) (hca : ("[I", "java/lang/Cloneable") ∈ nbC)
    (hframes : 1 ≤ R.frames) (hlocals : (rest.map fun v => v.category).sum + 14 ≤ R.locals) (hf : cells + 1 ≤ R.cells ∧ slots + 60 ≤ R.slots) (hdg : decode cc pc = .ok (.invokevirtual index, 3))
    (kk : ∀ (q : Nat) (H1 : Heap), (∀ x ∈ ds, x.2 ≠ q) → WB g A s.heap H1 locs (J, L, irow I 46 q (J 44), P, E, up1 N q 60) (ds ++ [(46, q)]) → W p l e R s m args below meth c H1 locs (cells + 1) (slots + 60) Q (F0 m (pc + 3) ls (.ref q :: rest))) : W p l e R s m args below meth c H locs cells slots Q (F0 m pc ls (.ref (g.2.2.1 44) :: rest)) := by
  obtain ⟨k, hk⟩ := List.getElem?_of_mem hm
  have hq : (wdl g (J, L, I, P, E, N) ds)[k]? = some (g.2.2.1 44, .inl (g.2.1 0, 60, .inl (J 44))) := wdl_at hk
  refine va_clone C.1.1 C.1.2.1 hml C.1.2.2.2.1 (C.1.2.2.2.2 _ hlink) (C.1.2.2.2.2 _ hsame) (C.1.2.2.2.2 _ hnat) (C.1.2.2.2.2 _ hinst) (C.1.2.2.2.2 _ hsel) (C.2.2.2.2.2.2.1 _ hca) C.2.1 hW.1 hW.2.1 hW.2.2.1 C.2.2.1 k 0 hq rfl (show s.vm.findClass _ = some _ from (C.2.1.2 0 _ rfl).2) (fun i v hv => fit_int _ _ _ i v hv) hframes hlocals hf.1 hf.2 hdg (fun q H1 hK hP hD hS => ?_)
  · have hfr := fresh_of hD
    have e := wdl_push (g := g) (r := 46) (S := (J, L, I, P, E, N)) (S' := (J, L, irow I 46 q (J 44), P, E, up1 N q 60)) (e := .inl (g.2.1 0, 60, .inl (J 44))) hfr (fun r' a h => by simp only [cel, irow_o _ _ _ h, up1_n _ _ h]) (by
      have e1 : (up1 N q 60 q) = 60 := up1_s N q 60
      have e2 : (fun f => irow I 46 q (J 44) 46 f q) = J 44 := funext fun f => irow_s I 46 q _ f
      show (Sum.inl (g.2.1 0, up1 N q 60 q, Sum.inl (fun f => irow I 46 q (J 44) 46 f q)) : va_E) = _
      rw [e1, e2])
    exact kk q H1 hfr ⟨e ▸ hP, e ▸ hD, hS, okd_push hW.2.2.2 rfl⟩
theorem g_copyi {b : Nat} (C : CC g A p m c cc nL s args own) (hml : c.maxLocals = ls.size) (hW : WB g A s.heap H locs (J, L, I, P, E, N) ds) (hm : (44, g.2.2.1 44) ∈ ds) (hm1 : (46, b) ∈ ds) {n : Int32} (hn : 0 ≤ n.toInt) (h0 : n.toInt ≤ 60) (h1 : n.toInt ≤ (N b : Int))
    (hlink : Cond.methodLink own index arraycopyName ∈ lw_t2) (hnat : Cond.native arraycopyName ∈ lw_t2) (hstat : Cond.static arraycopyName ∈ lw_t2) (hini : Cond.initialized "java/lang/System" ∈ lw_t2) (hframes : 1 ≤ R.frames) (hlocals : (rest.map fun v => v.category).sum + (nativeFrameWords "java/lang/System" "arraycopy" 5 + 11) ≤ R.locals) (hdg : decode cc pc = .ok (.invokestatic index, 3))
    (kk : ∀ (H1 : Heap) (locs1 : List Loc), WB g A s.heap H1 locs1 (J, L, irow I 46 b (va_cpy (J 44) (fun f => I 46 f b) 0 0 n.toNatClampNeg), P, E, N) ds → W p l e R s m args below meth c H1 locs1 cells slots Q (F0 m (pc + 3) ls rest)) : W p l e R s m args below meth c H locs cells slots Q (F0 m pc ls (.int n :: .int 0 :: .ref b :: .int 0 :: .ref (g.2.2.1 44) :: rest)) := by
  obtain ⟨k0, hk0⟩ := List.getElem?_of_mem hm
  obtain ⟨k1, hk1⟩ := List.getElem?_of_mem hm1
  have hq0 : (wdl g (J, L, I, P, E, N) ds)[k0]? = some (g.2.2.1 44, .inl (g.2.1 0, 60, .inl (J 44))) := wdl_at hk0
  have hq1 : (wdl g (J, L, I, P, E, N) ds)[k1]? = some (b, .inl (g.2.1 0, N b, .inl (fun f => I 46 f b))) := wdl_at hk1
  have e0 : (0 : Int32).toNatClampNeg = 0 := by decide
  have hnn : (n.toNatClampNeg : Int) = n.toInt := by have := tcl n; omega
  have hs := wdl_set (g := g) (S' := (J, L, irow I 46 b (va_cpy (J 44) (fun f => I 46 f b) 0 0 n.toNatClampNeg), P, E, N)) hW.2.1 hk1 (fun q _ hne => by simp only [cel, irow_o _ _ _ hne])
  have hcb : cel g (J, L, irow I 46 b (va_cpy (J 44) (fun f => I 46 f b) 0 0 n.toNatClampNeg), P, E, N) 46 b = .inl (g.2.1 0, N b, .inl (va_cpy (J 44) (fun f => I 46 f b) 0 0 n.toNatClampNeg)) := by
    have e2 : (fun f => irow I 46 b (va_cpy (J 44) (fun f => I 46 f b) 0 0 n.toNatClampNeg) 46 f b) = va_cpy (J 44) (fun f => I 46 f b) 0 0 n.toNatClampNeg := funext fun f => irow_s I 46 b _ f
    show (Sum.inl (g.2.1 0, N b, Sum.inl (fun f => irow I 46 b (va_cpy (J 44) (fun f => I 46 f b) 0 0 n.toNatClampNeg) 46 f b)) : va_E) = _
    rw [e2]
  rw [hcb] at hs
  refine va_copyi C.1.1 C.1.2.1 hml C.1.2.2.2.1 (C.1.2.2.2.2 _ hlink) (C.1.2.2.2.2 _ hnat) (C.1.2.2.2.2 _ hstat) (C.1.2.2.2.2 _ hini) C.2.1 hW.1 hW.2.1 hW.2.2.1 k0 k1 0 0 hq0 hq1 rfl rfl rfl (by decide) (by decide) (fun q => by have := tlt rfl kp0 q; omega) (by rw [e0]; omega) (by rw [e0]; omega) (fun i hi => rfl) hframes hlocals hdg (fun H1 locs1 hP hD hS => kk H1 locs1 ?_)
  rw [e0] at hP hD
  exact ⟨hs ▸ hP, hs ▸ hD, hS, hW.2.2.2⟩
theorem g_casti {b : Nat} (C : CC g A p m c cc nL s args own) (hW : WB g A s.heap H locs S ds) (hm : (46, b) ∈ ds) (hl : Cond.classLink own index "[I" ∈ lw_t2) (hdg : decode cc pc = .ok (.checkcast index, 3)) (kk : W p l e R s m args below meth c H locs cells slots Q (F0 m (pc + 3) ls (.ref b :: rest))) : W p l e R s m args below meth c H locs cells slots Q (F0 m pc ls (.ref b :: rest)) := by
  obtain ⟨k, hk⟩ := List.getElem?_of_mem hm
  have hq : (wdl g S ds)[k]? = some (b, .inl (g.2.1 0, S.2.2.2.2.2 b, .inl (fun f => S.2.2.1 46 f b))) := wdl_at hk
  exact va_castA C.1.1 C.1.2.1 C.1.2.2.2.1 (C.1.2.2.2.2 _ hl) hW.1 k hq (show s.vm.findClass _ = some _ from (C.2.1.2 0 _ rfl).2) hdg kk
end COPYI
theorem dJ7_copyOf_59c91_0 : decode cJ7_copyOf_59c91 0 = .ok (.iload_n 1, 1) := dk_iload_n_1 (by decide +kernel)
theorem dJ7_copyOf_59c91_1 : decode cJ7_copyOf_59c91 1 = .ok (.aload_n 0, 1) := dk_aload_n_0 (by decide +kernel)
theorem dJ7_copyOf_59c91_2 : decode cJ7_copyOf_59c91 2 = .ok (.arraylength, 1) := dk_arraylength (by decide +kernel)
theorem dJ7_copyOf_59c91_3 : decode cJ7_copyOf_59c91 3 = .ok (.if_icmp .ne 11, 3) := dk_if_icmp_ne (by decide +kernel)
theorem dJ7_copyOf_59c91_6 : decode cJ7_copyOf_59c91 6 = .ok (.aload_n 0, 1) := dk_aload_n_0 (by decide +kernel)
theorem dJ7_copyOf_59c91_7 : decode cJ7_copyOf_59c91 7 = .ok (.invokevirtual 316, 3) := dk_invokevirtual (by decide +kernel)
theorem dJ7_copyOf_59c91_10 : decode cJ7_copyOf_59c91 10 = .ok (.checkcast 317, 3) := dk_checkcast (by decide +kernel)
theorem dJ7_copyOf_59c91_13 : decode cJ7_copyOf_59c91 13 = .ok (.areturn, 1) := dk_areturn (by decide +kernel)
theorem dJ7_copyOf_59c91_14 : decode cJ7_copyOf_59c91 14 = .ok (.iload_n 1, 1) := dk_iload_n_1 (by decide +kernel)
theorem dJ7_copyOf_59c91_15 : decode cJ7_copyOf_59c91 15 = .ok (.newarray .int, 2) := by decide +kernel
theorem dJ7_copyOf_59c91_17 : decode cJ7_copyOf_59c91 17 = .ok (.astore_n 2, 1) := dk_astore_n_2 (by decide +kernel)
theorem dJ7_copyOf_59c91_18 : decode cJ7_copyOf_59c91 18 = .ok (.aload_n 0, 1) := dk_aload_n_0 (by decide +kernel)
theorem dJ7_copyOf_59c91_19 : decode cJ7_copyOf_59c91 19 = .ok (.iconst 0, 1) := dk_iconst_0 (by decide +kernel)
theorem dJ7_copyOf_59c91_20 : decode cJ7_copyOf_59c91 20 = .ok (.aload_n 2, 1) := dk_aload_n_2 (by decide +kernel)
theorem dJ7_copyOf_59c91_21 : decode cJ7_copyOf_59c91 21 = .ok (.iconst 0, 1) := dk_iconst_0 (by decide +kernel)
theorem dJ7_copyOf_59c91_22 : decode cJ7_copyOf_59c91 22 = .ok (.aload_n 0, 1) := dk_aload_n_0 (by decide +kernel)
theorem dJ7_copyOf_59c91_23 : decode cJ7_copyOf_59c91 23 = .ok (.arraylength, 1) := dk_arraylength (by decide +kernel)
theorem dJ7_copyOf_59c91_24 : decode cJ7_copyOf_59c91 24 = .ok (.iload_n 1, 1) := dk_iload_n_1 (by decide +kernel)
theorem dJ7_copyOf_59c91_25 : decode cJ7_copyOf_59c91 25 = .ok (.invokestatic 304, 3) := dk_invokestatic (by decide +kernel)
theorem dJ7_copyOf_59c91_28 : decode cJ7_copyOf_59c91 28 = .ok (.invokestatic 150, 3) := dk_invokestatic (by decide +kernel)
theorem dJ7_copyOf_59c91_31 : decode cJ7_copyOf_59c91 31 = .ok (.aload_n 2, 1) := dk_aload_n_2 (by decide +kernel)
theorem dJ7_copyOf_59c91_32 : decode cJ7_copyOf_59c91 32 = .ok (.areturn, 1) := dk_areturn (by decide +kernel)
theorem dX10_madeCode_0 : decode cX10_madeCode 0 = .ok (.iconst 0, 1) := dk_iconst_0 (by decide +kernel)
theorem dX10_madeCode_1 : decode cX10_madeCode 1 = .ok (.aload_n 0, 1) := dk_aload_n_0 (by decide +kernel)
theorem dX10_madeCode_2 : decode cX10_madeCode 2 = .ok (.getfield 25, 3) := dk_getfield (by decide +kernel)
theorem dX10_madeCode_5 : decode cX10_madeCode 5 = .ok (.aload_n 0, 1) := dk_aload_n_0 (by decide +kernel)
theorem dX10_madeCode_6 : decode cX10_madeCode 6 = .ok (.getfield 15, 3) := dk_getfield (by decide +kernel)
theorem dX10_madeCode_9 : decode cX10_madeCode 9 = .ok (.arraylength, 1) := dk_arraylength (by decide +kernel)
theorem dX10_madeCode_10 : decode cX10_madeCode 10 = .ok (.invokestatic 32, 3) := dk_invokestatic (by decide +kernel)
theorem dX10_madeCode_13 : decode cX10_madeCode 13 = .ok (.invokestatic 38, 3) := dk_invokestatic (by decide +kernel)
theorem dX10_madeCode_16 : decode cX10_madeCode 16 = .ok (.istore_n 1, 1) := dk_istore_n_1 (by decide +kernel)
theorem dX10_madeCode_17 : decode cX10_madeCode 17 = .ok (.aload_n 0, 1) := dk_aload_n_0 (by decide +kernel)
theorem dX10_madeCode_18 : decode cX10_madeCode 18 = .ok (.getfield 15, 3) := dk_getfield (by decide +kernel)
theorem dX10_madeCode_21 : decode cX10_madeCode 21 = .ok (.iload_n 1, 1) := dk_iload_n_1 (by decide +kernel)
theorem dX10_madeCode_22 : decode cX10_madeCode 22 = .ok (.invokestatic 41, 3) := dk_invokestatic (by decide +kernel)
theorem dX10_madeCode_25 : decode cX10_madeCode 25 = .ok (.areturn, 1) := dk_areturn (by decide +kernel)
theorem dX9_init_0 : decode cX9_init 0 = .ok (.aload_n 0, 1) := dk_aload_n_0 (by decide +kernel)
theorem dX9_init_1 : decode cX9_init 1 = .ok (.invokespecial 1, 3) := dk_invokespecial (by decide +kernel)
theorem dX9_init_4 : decode cX9_init 4 = .ok (.aload_n 0, 1) := dk_aload_n_0 (by decide +kernel)
theorem dX9_init_5 : decode cX9_init 5 = .ok (.iload_n 1, 1) := dk_iload_n_1 (by decide +kernel)
theorem dX9_init_6 : decode cX9_init 6 = .ok (.putfield 7, 3) := dk_putfield (by decide +kernel)
theorem dX9_init_9 : decode cX9_init 9 = .ok (.aload_n 0, 1) := dk_aload_n_0 (by decide +kernel)
theorem dX9_init_10 : decode cX9_init 10 = .ok (.iload_n 2, 1) := dk_iload_n_2 (by decide +kernel)
theorem dX9_init_11 : decode cX9_init 11 = .ok (.putfield 13, 3) := dk_putfield (by decide +kernel)
theorem dX9_init_14 : decode cX9_init 14 = .ok (.aload_n 0, 1) := dk_aload_n_0 (by decide +kernel)
theorem dX9_init_15 : decode cX9_init 15 = .ok (.aload_n 3, 1) := dk_aload_n_3 (by decide +kernel)
theorem dX9_init_16 : decode cX9_init 16 = .ok (.putfield 16, 3) := dk_putfield (by decide +kernel)
theorem dX9_init_19 : decode cX9_init 19 = .ok (.aload_n 0, 1) := dk_aload_n_0 (by decide +kernel)
theorem dX9_init_20 : decode cX9_init 20 = .ok (.aload_n 3, 1) := dk_aload_n_3 (by decide +kernel)
theorem dX9_init_21 : decode cX9_init 21 = .ok (.bipush 115, 2) := dk_bipush (by decide +kernel)
theorem dX9_init_23 : decode cX9_init 23 = .ok (.invokestatic 20, 3) := dk_invokestatic (by decide +kernel)
theorem dX9_init_26 : decode cX9_init 26 = .ok (.ifCond .ne 12, 3) := dk_ifCond_ne (by decide +kernel)
theorem dX9_init_29 : decode cX9_init 29 = .ok (.aload_n 3, 1) := dk_aload_n_3 (by decide +kernel)
theorem dX9_init_30 : decode cX9_init 30 = .ok (.bipush 109, 2) := dk_bipush (by decide +kernel)
theorem dX9_init_32 : decode cX9_init 32 = .ok (.invokestatic 20, 3) := dk_invokestatic (by decide +kernel)
theorem dX9_init_35 : decode cX9_init 35 = .ok (.ifCond .eq 7, 3) := dk_ifCond_eq (by decide +kernel)
theorem dX9_init_38 : decode cX9_init 38 = .ok (.iconst 1, 1) := dk_iconst_1 (by decide +kernel)
theorem dX9_init_39 : decode cX9_init 39 = .ok (.goto 4, 3) := dk_goto (by decide +kernel)
theorem dX9_init_42 : decode cX9_init 42 = .ok (.iconst 0, 1) := dk_iconst_0 (by decide +kernel)
theorem dX9_init_43 : decode cX9_init 43 = .ok (.putfield 24, 3) := dk_putfield (by decide +kernel)
theorem dX9_init_46 : decode cX9_init 46 = .ok (.aload_n 0, 1) := dk_aload_n_0 (by decide +kernel)
theorem dX9_init_47 : decode cX9_init 47 = .ok (.aload_n 3, 1) := dk_aload_n_3 (by decide +kernel)
theorem dX9_init_48 : decode cX9_init 48 = .ok (.bipush 97, 2) := dk_bipush (by decide +kernel)
theorem dX9_init_50 : decode cX9_init 50 = .ok (.invokestatic 20, 3) := dk_invokestatic (by decide +kernel)
theorem dX9_init_53 : decode cX9_init 53 = .ok (.putfield 28, 3) := dk_putfield (by decide +kernel)
theorem dX9_init_56 : decode cX9_init 56 = .ok (.return_, 1) := dk_return_ (by decide +kernel)
theorem dX11_term_0 : decode cX11_term 0 = .ok (.iload_n 1, 1) := dk_iload_n_1 (by decide +kernel)
theorem dX11_term_1 : decode cX11_term 1 = .ok (.ifCond .lt 8, 3) := dk_ifCond_lt (by decide +kernel)
theorem dX11_term_4 : decode cX11_term 4 = .ok (.iload_n 1, 1) := dk_iload_n_1 (by decide +kernel)
theorem dX11_term_5 : decode cX11_term 5 = .ok (.iconst 3, 1) := dk_iconst_3 (by decide +kernel)
theorem dX11_term_6 : decode cX11_term 6 = .ok (.if_icmp .le 10, 3) := dk_if_icmp_le (by decide +kernel)
theorem dX11_term_9 : decode cX11_term 9 = .ok (.aload_n 0, 1) := dk_aload_n_0 (by decide +kernel)
theorem dX11_term_10 : decode cX11_term 10 = .ok (.bipush (-2), 2) := dk_bipush (by decide +kernel)
theorem dX11_term_12 : decode cX11_term 12 = .ok (.invokevirtual 67, 3) := dk_invokevirtual (by decide +kernel)
theorem dX11_term_15 : decode cX11_term 15 = .ok (.ireturn, 1) := dk_ireturn (by decide +kernel)
theorem dX11_term_16 : decode cX11_term 16 = .ok (.iload_n 2, 1) := dk_iload_n_2 (by decide +kernel)
theorem dX11_term_17 : decode cX11_term 17 = .ok (.aload_n 0, 1) := dk_aload_n_0 (by decide +kernel)
theorem dX11_term_18 : decode cX11_term 18 = .ok (.getfield 19, 3) := dk_getfield (by decide +kernel)
theorem dX11_term_21 : decode cX11_term 21 = .ok (.getfield 71, 3) := dk_getfield (by decide +kernel)
theorem dX11_term_24 : decode cX11_term 24 = .ok (.if_icmp .ge 10, 3) := dk_if_icmp_ge (by decide +kernel)
theorem dX11_term_27 : decode cX11_term 27 = .ok (.aload_n 0, 1) := dk_aload_n_0 (by decide +kernel)
theorem dX11_term_28 : decode cX11_term 28 = .ok (.bipush (-4), 2) := dk_bipush (by decide +kernel)
theorem dX11_term_30 : decode cX11_term 30 = .ok (.invokevirtual 67, 3) := dk_invokevirtual (by decide +kernel)
theorem dX11_term_33 : decode cX11_term 33 = .ok (.ireturn, 1) := dk_ireturn (by decide +kernel)
theorem dX11_term_34 : decode cX11_term 34 = .ok (.iload_n 2, 1) := dk_iload_n_2 (by decide +kernel)
theorem dX11_term_35 : decode cX11_term 35 = .ok (.sipush 9999, 3) := dk_sipush (by decide +kernel)
theorem dX11_term_38 : decode cX11_term 38 = .ok (.if_icmp .gt 15, 3) := dk_if_icmp_gt (by decide +kernel)
theorem dX11_term_41 : decode cX11_term 41 = .ok (.aload_n 0, 1) := dk_aload_n_0 (by decide +kernel)
theorem dX11_term_42 : decode cX11_term 42 = .ok (.getfield 30, 3) := dk_getfield (by decide +kernel)
theorem dX11_term_45 : decode cX11_term 45 = .ok (.invokevirtual 93, 3) := dk_invokevirtual (by decide +kernel)
theorem dX11_term_48 : decode cX11_term 48 = .ok (.bipush 30, 2) := dk_bipush (by decide +kernel)
theorem dX11_term_50 : decode cX11_term 50 = .ok (.if_icmp .lt 10, 3) := dk_if_icmp_lt (by decide +kernel)
theorem dX11_term_53 : decode cX11_term 53 = .ok (.aload_n 0, 1) := dk_aload_n_0 (by decide +kernel)
theorem dX11_term_54 : decode cX11_term 54 = .ok (.bipush (-6), 2) := dk_bipush (by decide +kernel)
theorem dX11_term_56 : decode cX11_term 56 = .ok (.invokevirtual 67, 3) := dk_invokevirtual (by decide +kernel)
theorem dX11_term_59 : decode cX11_term 59 = .ok (.ireturn, 1) := dk_ireturn (by decide +kernel)
theorem dX11_term_60 : decode cX11_term 60 = .ok (.aload_n 0, 1) := dk_aload_n_0 (by decide +kernel)
theorem dX11_term_61 : decode cX11_term 61 = .ok (.getfield 39, 3) := dk_getfield (by decide +kernel)
theorem dX11_term_64 : decode cX11_term 64 = .ok (.invokevirtual 220, 3) := dk_invokevirtual (by decide +kernel)
theorem dX11_term_67 : decode cX11_term 67 = .ok (.istore_n 3, 1) := dk_istore_n_3 (by decide +kernel)
theorem dX11_term_68 : decode cX11_term 68 = .ok (.aload_n 0, 1) := dk_aload_n_0 (by decide +kernel)
theorem dX11_term_69 : decode cX11_term 69 = .ok (.getfield 39, 3) := dk_getfield (by decide +kernel)
theorem dX11_term_72 : decode cX11_term 72 = .ok (.getfield 224, 3) := dk_getfield (by decide +kernel)
theorem dX11_term_75 : decode cX11_term 75 = .ok (.istore 4, 2) := dk_istore (by decide +kernel)
theorem dX11_term_77 : decode cX11_term 77 = .ok (.aload_n 0, 1) := dk_aload_n_0 (by decide +kernel)
theorem dX11_term_78 : decode cX11_term 78 = .ok (.getfield 39, 3) := dk_getfield (by decide +kernel)
theorem dX11_term_81 : decode cX11_term 81 = .ok (.iconst 0, 1) := dk_iconst_0 (by decide +kernel)
theorem dX11_term_82 : decode cX11_term 82 = .ok (.putfield 214, 3) := dk_putfield (by decide +kernel)
theorem dX11_term_85 : decode cX11_term 85 = .ok (.iload_n 3, 1) := dk_iload_n_3 (by decide +kernel)
theorem dX11_term_86 : decode cX11_term 86 = .ok (.ifCond .ne 9, 3) := dk_ifCond_ne (by decide +kernel)
theorem dX11_term_89 : decode cX11_term 89 = .ok (.bipush (-20), 2) := dk_bipush (by decide +kernel)
theorem dX11_term_91 : decode cX11_term 91 = .ok (.iload 4, 2) := dk_iload (by decide +kernel)
theorem dX11_term_93 : decode cX11_term 93 = .ok (.isub, 1) := dk_isub (by decide +kernel)
theorem dX11_term_94 : decode cX11_term 94 = .ok (.ireturn, 1) := dk_ireturn (by decide +kernel)
theorem dX11_term_95 : decode cX11_term 95 = .ok (.aload_n 0, 1) := dk_aload_n_0 (by decide +kernel)
theorem dX11_term_96 : decode cX11_term 96 = .ok (.getfield 30, 3) := dk_getfield (by decide +kernel)
theorem dX11_term_99 : decode cX11_term 99 = .ok (.new 227, 3) := dk_new (by decide +kernel)
theorem dX11_term_102 : decode cX11_term 102 = .ok (.dup, 1) := dk_dup (by decide +kernel)
theorem dX11_term_103 : decode cX11_term 103 = .ok (.iload_n 1, 1) := dk_iload_n_1 (by decide +kernel)
theorem dX11_term_104 : decode cX11_term 104 = .ok (.iload_n 2, 1) := dk_iload_n_2 (by decide +kernel)
theorem dX11_term_105 : decode cX11_term 105 = .ok (.aload_n 0, 1) := dk_aload_n_0 (by decide +kernel)
theorem dX11_term_106 : decode cX11_term 106 = .ok (.getfield 39, 3) := dk_getfield (by decide +kernel)
theorem dX11_term_109 : decode cX11_term 109 = .ok (.invokevirtual 229, 3) := dk_invokevirtual (by decide +kernel)
theorem dX11_term_112 : decode cX11_term 112 = .ok (.invokespecial 233, 3) := dk_invokespecial (by decide +kernel)
theorem dX11_term_115 : decode cX11_term 115 = .ok (.invokevirtual 102, 3) := dk_invokevirtual (by decide +kernel)
theorem dX11_term_118 : decode cX11_term 118 = .ok (.pop, 1) := dk_pop (by decide +kernel)
theorem dX11_term_119 : decode cX11_term 119 = .ok (.aload_n 0, 1) := dk_aload_n_0 (by decide +kernel)
theorem dX11_term_120 : decode cX11_term 120 = .ok (.getfield 30, 3) := dk_getfield (by decide +kernel)
theorem dX11_term_123 : decode cX11_term 123 = .ok (.invokevirtual 93, 3) := dk_invokevirtual (by decide +kernel)
theorem dX11_term_126 : decode cX11_term 126 = .ok (.ireturn, 1) := dk_ireturn (by decide +kernel)