section RUNSM
variable {p : Program} {l : Launch} {e : Env} {R : Room} {s : State} {m : MethodId} {args : Array Value} {below : List Frame} {meth : Method} {c : Code} {H : Heap} {locs : List Loc} {cells slots : Nat} {Q : State → Prop}
variable {pc : Nat} {ls : Array Slot} {rest : List Value} {cc : ByteArray} {nL : Nat} {own : String} {g : gG} {A : Nat → Prop} {ds : List (Nat × Nat)} {index : Nat} {a : Nat}
variable {y : MethodName} {b : ByteArray} {mL k mc ms mi0 : Nat} {ret : Option FieldType} {rm : Room} {Qc : Array Value → State → Outcome → State → Prop} {As : List Value} {T : sT} {st0 : List Value} {x : Nat}
theorem runSm (hmi : va_Mi "[Ljava/lang/Object;" mi0 s) (C : CC g A p m c cc nL s args own) (hW : WB g A s.heap H locs T.1 T.2) (hM : Met l y (WS y b mL ret) rm (PCm g As T H.size mi0) Qc mc ms (FR g T H.size)) (mi : MS y b mL ret k) (hl : Cond.methodLink own index y ∈ lw_t2) (hR : RMok R rm mL mc ms) (hn : As.length = k) (hls : ls.size = nL) (hst : st0 = As.reverse ++ rest) (hcat : (rest.map fun v => v.category).sum ≤ 8) (hdg : decode cc pc = .ok (.invokestatic index, 3)) (hf : cells + mc ≤ R.cells ∧ slots + ms ≤ R.slots) : va_Run p l e R s m args below meth c H locs cells slots mc ms (F0 m pc ls st0) rest (Qc As.toArray) (FR g T H.size) :=
  va_runS (As := As) (rest := rest) C.1 hM (va_cwS k C.1.2.2.2.2 (gi_mem hl (gi_mem mi.2 (gi_mem mi.1.2.1 (good_WS mi.1)))) rfl hR.1 hR.2.1 mi.1.2.2 hR.2.2) ⟨pcm_blind, fun U hU hw => ⟨rfl, (pc_to (av := As) C hW U hU hw).2, hmi.moved hw.alike⟩⟩ rfl hn hls hst (lv_room hcat) hdg hf
theorem entm {ret : Option FieldType} {maxL : Nat} {sz : Nat} {av : List Value} (hy : plainName y.cls = true) (hle : (lg_sl av).length ≤ maxL)
    (body : ∀ (p : Program) (e : Env) (s : State) (m : MethodId) (below : List Frame) (meth : Method) (c : Code) (ls : Array Slot), s.heap.size = sz → CC g (FR g T sz) p m c cc maxL s av.toArray y.cls → WB g (FR g T sz) s.heap s.heap [] T.1 T.2 → meth.sig.returnType = ret → meth.locks = false → meth.name = y.name → lv_has ls maxL (lv_args 0 av) → va_Mi "[Ljava/lang/Object;" mi0 s → W p l e rm s m av.toArray below meth c s.heap [] 0 0 (MQ below Qc av.toArray s mc ms (FR g T sz)) (F0 m 0 ls [])) :
    Met l y (WS y cc maxL ret) rm (PCm g av T sz mi0) Qc mc ms (FR g T sz) := by
  refine Met.ofW (cc := cc) (maxL := maxL) (ret := ret) hy rfl ?_
  intro p e s m args below meth c s₁ B hml hv
  obtain ⟨rfl, ⟨hsz, ⟨hP, hK, hD, hO⟩, hZ⟩, hmi⟩ := hv
  have hts0 := atoms_spec (ws := WS y cc maxL ret) B.pre
  have hts : ∀ w ∈ lw_t2, w.before av.toArray s = true := fun w h => hts0 w (List.mem_cons_of_mem _ h)
  rw [lg_entry_eq]
  exact body p e s m below meth c _ hsz ⟨⟨B.exec, B.bytes, hml, findClass_of_methodNamed B.named, hts⟩, hK, fun q h => Or.inr (hsz ▸ h), hZ⟩ ⟨hP, hD.self, va_S.rf, hO⟩ B.returns B.notSynchronized (name_of_methodNamed B.named B.method).1 (lv_entry av hle) hmi
end RUNSM
theorem up1_id (E : Nat → Option Nat) (r : Nat) : up1 E r (E r) = E := by
  funext k
  by_cases h : k = r
  · subst h; exact up1_s E k _
  · exact up1_n E _ h
theorem LWF.J {g : gG} {J J' : Nat → Nat → Int32} {P : Nat → Nat → Nat → Option Nat} {E : Nat → Option Nat} {N : Nat → Nat} {dy : List (Nat × Nat)} {r er : Nat} (e : J' r 2 = J r 2) (h : LWF g J P E N dy r er) : LWF g J' P E N dy r er := by
  unfold LWF at *
  rw [e]; exact h
/-- the four facts behind an add -/
def ADDED (g : gG) (J : Nat → Nat → Int32) (P : Nat → Nat → Nat → Option Nat) (E : Nat → Option Nat) (N : Nat → Nat) (dy : List (Nat × Nat)) (r er : Nat) (n : Int32) (v : Nat) (P' : Nat → Nat → Nat → Option Nat) (E' : Nat → Option Nat) (N' : Nat → Nat) (dy' : List (Nat × Nat)) : Prop :=
  GR dy dy' N N' r ∧ LWF g J P' E' N' dy' r er ∧ (∀ k : Nat, (k : Int) < n.toInt → elt E' P' r k = elt E P r k) ∧ elt E' P' r n.toNatClampNeg = v
theorem added_put {g : gG} {J J' : Nat → Nat → Int32} {P : Nat → Nat → Nat → Option Nat} {E : Nat → Option Nat} {N : Nat → Nat} {dy : List (Nat × Nat)} {r er b v : Nat} {n : Int32} (hE : E r = some b) (hb : (r + 10, b) ∈ dy) (hn : 0 ≤ n.toInt ∧ n.toInt < (N b : Int)) (h2 : N b ≤ 20000) (h3 : 10 ≤ N b) (hn9 : n.toInt ≤ 9999) (hel : ∀ k : Nat, (k : Int) < n.toInt → ∃ q, P (r + 10) k b = some q ∧ (er, q) ∈ dy) (hv : (er, v) ∈ dy) (hJ : (J' r 2).toInt = n.toInt + 1) : ADDED g J' P E N dy r er n v (up3 P (r + 10) n.toNatClampNeg b (some v)) E N dy := by
  have hc := tcl n
  have e1 : ∀ k : Nat, (k : Int) < n.toInt → up3 P (r + 10) n.toNatClampNeg b (some v) (r + 10) k b = P (r + 10) k b := fun k hk => by
    simp [up3, beq_yes, beq_no (show k ≠ n.toNatClampNeg by omega)]
  refine ⟨⟨fun _ h => h, fun _ h => Or.inl h, fun _ _ => rfl⟩, ⟨by omega, by omega, Or.inr ⟨b, hE, hb, by omega, h2, h3, fun k hk => ?_⟩⟩, fun k hk => ?_, ?_⟩
  · by_cases h : k = n.toNatClampNeg
    · subst h; exact ⟨v, up3_s _ _ _ _ _, hv⟩
    · rw [e1 k (by omega)]; exact hel k (by omega)
  · unfold elt; rw [hE]; simp only [Option.getD_some]; rw [e1 k hk]
  · unfold elt; rw [hE]; simp only [Option.getD_some]; rw [up3_s]; rfl
theorem added_grow {g : gG} {J J' : Nat → Nat → Int32} {P G : Nat → Nat → Nat → Option Nat} {E : Nat → Option Nat} {N : Nat → Nat} {dy : List (Nat × Nat)} {r er b n' v : Nat} {n : Int32} (hlw : LWF g J P E N dy r er) (hnn : J r 2 = n) (hfr : ∀ x ∈ dy, x.2 ≠ b) (h1 : n.toInt < (n' : Int)) (h2 : n' ≤ 20000) (h3 : 10 ≤ n') (hn9 : n.toInt ≤ 9999) (hG : ∀ k : Nat, (k : Int) < n.toInt → G (r + 10) k b = P (r + 10) k ((E r).getD 0)) (hv : (er, v) ∈ dy) (hJ : (J' r 2).toInt = n.toInt + 1) : ADDED g J' P E N dy r er n v (up3 G (r + 10) n.toNatClampNeg b (some v)) (up1 E r (some b)) (up1 N b n') (dy ++ [(r + 10, b)]) := by
  have hc := tcl n
  have h0 : 0 ≤ n.toInt := by rw [← hnn]; exact hlw.1
  have hmb : (r + 10, b) ∈ dy ++ [(r + 10, b)] := List.mem_append_right _ (List.mem_singleton.mpr rfl)
  have e1 : ∀ k : Nat, (k : Int) < n.toInt → up3 G (r + 10) n.toNatClampNeg b (some v) (r + 10) k b = P (r + 10) k ((E r).getD 0) := fun k hk => by
    rw [← hG k hk]
    simp [up3, beq_yes, beq_no (show k ≠ n.toNatClampNeg by omega)]
  have ee : (up1 E r (some b) r).getD 0 = b := by rw [up1_s]; rfl
  refine ⟨⟨fun _ h => List.mem_append_left _ h, fun x h => ?_, fun x h => up1_n _ _ (hfr x h)⟩, ⟨by omega, by omega, Or.inr ⟨b, up1_s _ _ _, hmb, by rw [up1_s]; omega, by rw [up1_s]; exact h2, by rw [up1_s]; exact h3, fun k hk => ?_⟩⟩, fun k hk => ?_, ?_⟩
  · rcases List.mem_append.mp h with k | k
    · exact Or.inl k
    · exact Or.inr (by rw [List.mem_singleton.mp k])
  · by_cases h : k = n.toNatClampNeg
    · subst h; exact ⟨v, up3_s _ _ _ _ _, List.mem_append_left _ hv⟩
    · rw [e1 k (by omega)]
      obtain ⟨-, -, ⟨-, q⟩ | ⟨b0, q1, q2, q3, q4, q5, q6⟩⟩ := hlw
      · rw [hnn] at q; omega
      · obtain ⟨z, z1, z2⟩ := q6 k (by rw [hnn]; omega)
        rw [q1]; exact ⟨z, z1, List.mem_append_left _ z2⟩
  · unfold elt; rw [ee, e1 k hk]
  · unfold elt; rw [ee, up3_s]; rfl
theorem ag_raw3 {P P' : Nat → Nat → Nat → Option Nat} {R : List Nat} {r f a : Nat} {v : Option Nat} (hr : nel r R = true) (h : ag P R [] P') : ag P R [] (up3 P' r f a v) := by
  intro r' f' h1 h2
  have e : r' ≠ r := fun e => by rw [e, hr] at h1; cases h1
  rw [← h r' f' h1 h2]
  simp [up3, beq_no e]
theorem ag_hvP {P P' G : Nat → Nat → Nat → Option Nat} {r : Nat} (h : ag P [r] [] P') : ag P [r] [] (hv P' [r] [] G) := by
  intro r' f' h1 h2
  rw [← h r' f' h1 h2]
  unfold hv
  rw [h1]; rfl
theorem g_rowcls {p : Program} {s : State} {m : MethodId} {args : Array Value} {c : Code} {H : Heap} {locs : List Loc} {cc : ByteArray} {nL : Nat} {own : String} {g : gG} {A : Nat → Prop} {ds : List (Nat × Nat)} {S : sS} {r b : Nat} (C : CC g A p m c cc nL s args own) (hW : WB g A s.heap H locs S ds) (hr : nel r lroles = true) (hm : (r + 10, b) ∈ ds) : ∃ cell : Cell, H[b]? = some cell ∧ cell.vm.isStatics = false ∧ s.vm.findClass "[Ljava/lang/Object;" = some cell.cls := by
  obtain ⟨k, hk⟩ := List.getElem?_of_mem hm
  have hq := wdl_at (g := g) (S := S) hk
  have hc : cel g S (r + 10) b = .inl (g.2.1 3, S.2.2.2.2.2 b, .inr (.inr (.inr (.inr (fun f => S.2.2.2.1 (r + 10) f b))))) := cel_back hr
  rw [hc] at hq
  exact ⟨_, hW.1 k _ hq, rfl, va_nmO (C := "java/lang/Object") (C.2.1.2 3 _ rfl).2 rfl⟩
theorem dJ8_newLength_cabcc_0 : decode cJ8_newLength_cabcc 0 = .ok (.iload_n 0, 1) := dk_iload_n_0 (by decide +kernel)
theorem dJ8_newLength_cabcc_1 : decode cJ8_newLength_cabcc 1 = .ok (.iload_n 1, 1) := dk_iload_n_1 (by decide +kernel)
theorem dJ8_newLength_cabcc_2 : decode cJ8_newLength_cabcc 2 = .ok (.iload_n 2, 1) := dk_iload_n_2 (by decide +kernel)
theorem dJ8_newLength_cabcc_3 : decode cJ8_newLength_cabcc 3 = .ok (.invokestatic 194, 3) := dk_invokestatic (by decide +kernel)
theorem dJ8_newLength_cabcc_6 : decode cJ8_newLength_cabcc 6 = .ok (.iadd, 1) := dk_iadd (by decide +kernel)
theorem dJ8_newLength_cabcc_7 : decode cJ8_newLength_cabcc 7 = .ok (.istore_n 3, 1) := dk_istore_n_3 (by decide +kernel)
theorem dJ8_newLength_cabcc_8 : decode cJ8_newLength_cabcc 8 = .ok (.iconst 0, 1) := dk_iconst_0 (by decide +kernel)
theorem dJ8_newLength_cabcc_9 : decode cJ8_newLength_cabcc 9 = .ok (.iload_n 3, 1) := dk_iload_n_3 (by decide +kernel)
theorem dJ8_newLength_cabcc_10 : decode cJ8_newLength_cabcc 10 = .ok (.if_icmp .ge 11, 3) := dk_if_icmp_ge (by decide +kernel)
theorem dJ8_newLength_cabcc_13 : decode cJ8_newLength_cabcc 13 = .ok (.iload_n 3, 1) := dk_iload_n_3 (by decide +kernel)
theorem dJ8_newLength_cabcc_14 : decode cJ8_newLength_cabcc 14 = .ok (.ldc 200, 2) := dk_ldc (by decide +kernel)
theorem dJ8_newLength_cabcc_16 : decode cJ8_newLength_cabcc 16 = .ok (.if_icmp .gt 5, 3) := dk_if_icmp_gt (by decide +kernel)
theorem dJ8_newLength_cabcc_19 : decode cJ8_newLength_cabcc 19 = .ok (.iload_n 3, 1) := dk_iload_n_3 (by decide +kernel)
theorem dJ8_newLength_cabcc_20 : decode cJ8_newLength_cabcc 20 = .ok (.ireturn, 1) := dk_ireturn (by decide +kernel)
theorem dJ7_copyOf_6403c_0 : decode cJ7_copyOf_6403c 0 = .ok (.aload_n 2, 1) := dk_aload_n_2 (by decide +kernel)
theorem dJ7_copyOf_6403c_1 : decode cJ7_copyOf_6403c 1 = .ok (.ldc 110, 2) := dk_ldc (by decide +kernel)
theorem dJ7_copyOf_6403c_3 : decode cJ7_copyOf_6403c 3 = .ok (.if_acmp .ne 10, 3) := dk_if_acmp_ne (by decide +kernel)
theorem dJ7_copyOf_6403c_6 : decode cJ7_copyOf_6403c 6 = .ok (.iload_n 1, 1) := dk_iload_n_1 (by decide +kernel)
theorem dJ7_copyOf_6403c_7 : decode cJ7_copyOf_6403c 7 = .ok (.anewarray 2, 3) := dk_anewarray (by decide +kernel)
theorem dJ7_copyOf_6403c_10 : decode cJ7_copyOf_6403c 10 = .ok (.goto 14, 3) := dk_goto (by decide +kernel)
theorem dJ7_copyOf_6403c_24 : decode cJ7_copyOf_6403c 24 = .ok (.astore_n 3, 1) := dk_astore_n_3 (by decide +kernel)
theorem dJ7_copyOf_6403c_25 : decode cJ7_copyOf_6403c 25 = .ok (.aload_n 0, 1) := dk_aload_n_0 (by decide +kernel)
theorem dJ7_copyOf_6403c_26 : decode cJ7_copyOf_6403c 26 = .ok (.iconst 0, 1) := dk_iconst_0 (by decide +kernel)
theorem dJ7_copyOf_6403c_27 : decode cJ7_copyOf_6403c 27 = .ok (.aload_n 3, 1) := dk_aload_n_3 (by decide +kernel)
theorem dJ7_copyOf_6403c_28 : decode cJ7_copyOf_6403c 28 = .ok (.iconst 0, 1) := dk_iconst_0 (by decide +kernel)
theorem dJ7_copyOf_6403c_29 : decode cJ7_copyOf_6403c 29 = .ok (.aload_n 0, 1) := dk_aload_n_0 (by decide +kernel)
theorem dJ7_copyOf_6403c_30 : decode cJ7_copyOf_6403c 30 = .ok (.arraylength, 1) := dk_arraylength (by decide +kernel)
theorem dJ7_copyOf_6403c_31 : decode cJ7_copyOf_6403c 31 = .ok (.iload_n 1, 1) := dk_iload_n_1 (by decide +kernel)
theorem dJ7_copyOf_6403c_32 : decode cJ7_copyOf_6403c 32 = .ok (.invokestatic 304, 3) := dk_invokestatic (by decide +kernel)
theorem dJ7_copyOf_6403c_35 : decode cJ7_copyOf_6403c 35 = .ok (.invokestatic 150, 3) := dk_invokestatic (by decide +kernel)
theorem dJ7_copyOf_6403c_38 : decode cJ7_copyOf_6403c 38 = .ok (.aload_n 3, 1) := dk_aload_n_3 (by decide +kernel)
theorem dJ7_copyOf_6403c_39 : decode cJ7_copyOf_6403c 39 = .ok (.areturn, 1) := dk_areturn (by decide +kernel)
theorem dJ7_copyOf_1904c_0 : decode cJ7_copyOf_1904c 0 = .ok (.aload_n 0, 1) := dk_aload_n_0 (by decide +kernel)
theorem dJ7_copyOf_1904c_1 : decode cJ7_copyOf_1904c 1 = .ok (.iload_n 1, 1) := dk_iload_n_1 (by decide +kernel)
theorem dJ7_copyOf_1904c_2 : decode cJ7_copyOf_1904c 2 = .ok (.aload_n 0, 1) := dk_aload_n_0 (by decide +kernel)
theorem dJ7_copyOf_1904c_3 : decode cJ7_copyOf_1904c 3 = .ok (.invokevirtual 86, 3) := dk_invokevirtual (by decide +kernel)
theorem dJ7_copyOf_1904c_6 : decode cJ7_copyOf_1904c 6 = .ok (.invokestatic 300, 3) := dk_invokestatic (by decide +kernel)
theorem dJ7_copyOf_1904c_9 : decode cJ7_copyOf_1904c 9 = .ok (.areturn, 1) := dk_areturn (by decide +kernel)
theorem dJx4a65c_grow_92f84_0 : decode cJx4a65c_grow_92f84 0 = .ok (.aload_n 0, 1) := dk_aload_n_0 (by decide +kernel)
theorem dJx4a65c_grow_92f84_1 : decode cJx4a65c_grow_92f84 1 = .ok (.getfield 9, 3) := dk_getfield (by decide +kernel)
theorem dJx4a65c_grow_92f84_4 : decode cJx4a65c_grow_92f84 4 = .ok (.arraylength, 1) := dk_arraylength (by decide +kernel)
theorem dJx4a65c_grow_92f84_5 : decode cJx4a65c_grow_92f84 5 = .ok (.istore_n 2, 1) := dk_istore_n_2 (by decide +kernel)
theorem dJx4a65c_grow_92f84_6 : decode cJx4a65c_grow_92f84 6 = .ok (.iload_n 2, 1) := dk_iload_n_2 (by decide +kernel)
theorem dJx4a65c_grow_92f84_7 : decode cJx4a65c_grow_92f84 7 = .ok (.ifCond .gt 13, 3) := dk_ifCond_gt (by decide +kernel)
theorem dJx4a65c_grow_92f84_10 : decode cJx4a65c_grow_92f84 10 = .ok (.aload_n 0, 1) := dk_aload_n_0 (by decide +kernel)
theorem dJx4a65c_grow_92f84_11 : decode cJx4a65c_grow_92f84 11 = .ok (.getfield 9, 3) := dk_getfield (by decide +kernel)
theorem dJx4a65c_grow_92f84_14 : decode cJx4a65c_grow_92f84 14 = .ok (.getstatic 39, 3) := dk_getstatic (by decide +kernel)
theorem dJx4a65c_grow_92f84_17 : decode cJx4a65c_grow_92f84 17 = .ok (.if_acmp .eq 28, 3) := dk_if_acmp_eq (by decide +kernel)
theorem dJx4a65c_grow_92f84_20 : decode cJx4a65c_grow_92f84 20 = .ok (.iload_n 2, 1) := dk_iload_n_2 (by decide +kernel)
theorem dJx4a65c_grow_92f84_21 : decode cJx4a65c_grow_92f84 21 = .ok (.iload_n 1, 1) := dk_iload_n_1 (by decide +kernel)
theorem dJx4a65c_grow_92f84_22 : decode cJx4a65c_grow_92f84 22 = .ok (.iload_n 2, 1) := dk_iload_n_2 (by decide +kernel)
theorem dJx4a65c_grow_92f84_23 : decode cJx4a65c_grow_92f84 23 = .ok (.isub, 1) := dk_isub (by decide +kernel)
theorem dJx4a65c_grow_92f84_24 : decode cJx4a65c_grow_92f84 24 = .ok (.iload_n 2, 1) := dk_iload_n_2 (by decide +kernel)
theorem dJx4a65c_grow_92f84_25 : decode cJx4a65c_grow_92f84 25 = .ok (.iconst 1, 1) := dk_iconst_1 (by decide +kernel)
theorem dJx4a65c_grow_92f84_26 : decode cJx4a65c_grow_92f84 26 = .ok (.ishr, 1) := dk_ishr (by decide +kernel)
theorem dJx4a65c_grow_92f84_27 : decode cJx4a65c_grow_92f84 27 = .ok (.invokestatic 73, 3) := dk_invokestatic (by decide +kernel)
theorem dJx4a65c_grow_92f84_30 : decode cJx4a65c_grow_92f84 30 = .ok (.istore_n 3, 1) := dk_istore_n_3 (by decide +kernel)
theorem dJx4a65c_grow_92f84_31 : decode cJx4a65c_grow_92f84 31 = .ok (.aload_n 0, 1) := dk_aload_n_0 (by decide +kernel)
theorem dJx4a65c_grow_92f84_32 : decode cJx4a65c_grow_92f84 32 = .ok (.aload_n 0, 1) := dk_aload_n_0 (by decide +kernel)
theorem dJx4a65c_grow_92f84_33 : decode cJx4a65c_grow_92f84 33 = .ok (.getfield 9, 3) := dk_getfield (by decide +kernel)
theorem dJx4a65c_grow_92f84_36 : decode cJx4a65c_grow_92f84 36 = .ok (.iload_n 3, 1) := dk_iload_n_3 (by decide +kernel)
theorem dJx4a65c_grow_92f84_37 : decode cJx4a65c_grow_92f84 37 = .ok (.invokestatic 66, 3) := dk_invokestatic (by decide +kernel)
theorem dJx4a65c_grow_92f84_40 : decode cJx4a65c_grow_92f84 40 = .ok (.dup_x1, 1) := dk_dup_x1 (by decide +kernel)
theorem dJx4a65c_grow_92f84_41 : decode cJx4a65c_grow_92f84 41 = .ok (.putfield 9, 3) := dk_putfield (by decide +kernel)
theorem dJx4a65c_grow_92f84_44 : decode cJx4a65c_grow_92f84 44 = .ok (.areturn, 1) := dk_areturn (by decide +kernel)
theorem dJx4a65c_grow_92f84_45 : decode cJx4a65c_grow_92f84 45 = .ok (.aload_n 0, 1) := dk_aload_n_0 (by decide +kernel)
theorem dJx4a65c_grow_92f84_46 : decode cJx4a65c_grow_92f84 46 = .ok (.bipush 10, 2) := dk_bipush (by decide +kernel)
theorem dJx4a65c_grow_92f84_48 : decode cJx4a65c_grow_92f84 48 = .ok (.iload_n 1, 1) := dk_iload_n_1 (by decide +kernel)
theorem dJx4a65c_grow_92f84_49 : decode cJx4a65c_grow_92f84 49 = .ok (.invokestatic 79, 3) := dk_invokestatic (by decide +kernel)
theorem dJx4a65c_grow_92f84_52 : decode cJx4a65c_grow_92f84 52 = .ok (.anewarray 7, 3) := dk_anewarray (by decide +kernel)
theorem dJx4a65c_grow_92f84_55 : decode cJx4a65c_grow_92f84 55 = .ok (.dup_x1, 1) := dk_dup_x1 (by decide +kernel)
theorem dJx4a65c_grow_92f84_56 : decode cJx4a65c_grow_92f84 56 = .ok (.putfield 9, 3) := dk_putfield (by decide +kernel)
theorem dJx4a65c_grow_92f84_59 : decode cJx4a65c_grow_92f84 59 = .ok (.areturn, 1) := dk_areturn (by decide +kernel)
theorem dJx4a65c_grow_d5877_0 : decode cJx4a65c_grow_d5877 0 = .ok (.aload_n 0, 1) := dk_aload_n_0 (by decide +kernel)
theorem dJx4a65c_grow_d5877_1 : decode cJx4a65c_grow_d5877 1 = .ok (.aload_n 0, 1) := dk_aload_n_0 (by decide +kernel)
theorem dJx4a65c_grow_d5877_2 : decode cJx4a65c_grow_d5877 2 = .ok (.getfield 48, 3) := dk_getfield (by decide +kernel)
theorem dJx4a65c_grow_d5877_5 : decode cJx4a65c_grow_d5877 5 = .ok (.iconst 1, 1) := dk_iconst_1 (by decide +kernel)
theorem dJx4a65c_grow_d5877_6 : decode cJx4a65c_grow_d5877 6 = .ok (.iadd, 1) := dk_iadd (by decide +kernel)
theorem dJx4a65c_grow_d5877_7 : decode cJx4a65c_grow_d5877 7 = .ok (.invokevirtual 69, 3) := dk_invokevirtual (by decide +kernel)
theorem dJx4a65c_grow_d5877_10 : decode cJx4a65c_grow_d5877 10 = .ok (.areturn, 1) := dk_areturn (by decide +kernel)
theorem dJx4a65c_add_72be8_0 : decode cJx4a65c_add_72be8 0 = .ok (.iload_n 3, 1) := dk_iload_n_3 (by decide +kernel)
theorem dJx4a65c_add_72be8_1 : decode cJx4a65c_add_72be8 1 = .ok (.aload_n 2, 1) := dk_aload_n_2 (by decide +kernel)
theorem dJx4a65c_add_72be8_2 : decode cJx4a65c_add_72be8 2 = .ok (.arraylength, 1) := dk_arraylength (by decide +kernel)
theorem dJx4a65c_add_72be8_3 : decode cJx4a65c_add_72be8 3 = .ok (.if_icmp .ne 8, 3) := dk_if_icmp_ne (by decide +kernel)
theorem dJx4a65c_add_72be8_6 : decode cJx4a65c_add_72be8 6 = .ok (.aload_n 0, 1) := dk_aload_n_0 (by decide +kernel)
theorem dJx4a65c_add_72be8_7 : decode cJx4a65c_add_72be8 7 = .ok (.invokevirtual 129, 3) := dk_invokevirtual (by decide +kernel)
theorem dJx4a65c_add_72be8_10 : decode cJx4a65c_add_72be8 10 = .ok (.astore_n 2, 1) := dk_astore_n_2 (by decide +kernel)
theorem dJx4a65c_add_72be8_11 : decode cJx4a65c_add_72be8 11 = .ok (.aload_n 2, 1) := dk_aload_n_2 (by decide +kernel)
theorem dJx4a65c_add_72be8_12 : decode cJx4a65c_add_72be8 12 = .ok (.iload_n 3, 1) := dk_iload_n_3 (by decide +kernel)
theorem dJx4a65c_add_72be8_13 : decode cJx4a65c_add_72be8 13 = .ok (.aload_n 1, 1) := dk_aload_n_1 (by decide +kernel)
theorem dJx4a65c_add_72be8_14 : decode cJx4a65c_add_72be8 14 = .ok (.aastore, 1) := dk_aastore (by decide +kernel)
theorem dJx4a65c_add_72be8_15 : decode cJx4a65c_add_72be8 15 = .ok (.aload_n 0, 1) := dk_aload_n_0 (by decide +kernel)
theorem dJx4a65c_add_72be8_16 : decode cJx4a65c_add_72be8 16 = .ok (.iload_n 3, 1) := dk_iload_n_3 (by decide +kernel)
theorem dJx4a65c_add_72be8_17 : decode cJx4a65c_add_72be8 17 = .ok (.iconst 1, 1) := dk_iconst_1 (by decide +kernel)
theorem dJx4a65c_add_72be8_18 : decode cJx4a65c_add_72be8 18 = .ok (.iadd, 1) := dk_iadd (by decide +kernel)
theorem dJx4a65c_add_72be8_19 : decode cJx4a65c_add_72be8 19 = .ok (.putfield 48, 3) := dk_putfield (by decide +kernel)
theorem dJx4a65c_add_72be8_22 : decode cJx4a65c_add_72be8 22 = .ok (.return_, 1) := dk_return_ (by decide +kernel)
theorem dJx4a65c_add_9ea2d_0 : decode cJx4a65c_add_9ea2d 0 = .ok (.aload_n 0, 1) := dk_aload_n_0 (by decide +kernel)
theorem dJx4a65c_add_9ea2d_1 : decode cJx4a65c_add_9ea2d 1 = .ok (.dup, 1) := dk_dup (by decide +kernel)
theorem dJx4a65c_add_9ea2d_2 : decode cJx4a65c_add_9ea2d 2 = .ok (.getfield 63, 3) := dk_getfield (by decide +kernel)
theorem dJx4a65c_add_9ea2d_5 : decode cJx4a65c_add_9ea2d 5 = .ok (.iconst 1, 1) := dk_iconst_1 (by decide +kernel)
theorem dJx4a65c_add_9ea2d_6 : decode cJx4a65c_add_9ea2d 6 = .ok (.iadd, 1) := dk_iadd (by decide +kernel)
theorem dJx4a65c_add_9ea2d_7 : decode cJx4a65c_add_9ea2d 7 = .ok (.putfield 63, 3) := dk_putfield (by decide +kernel)
theorem dJx4a65c_add_9ea2d_10 : decode cJx4a65c_add_9ea2d 10 = .ok (.aload_n 0, 1) := dk_aload_n_0 (by decide +kernel)
theorem dJx4a65c_add_9ea2d_11 : decode cJx4a65c_add_9ea2d 11 = .ok (.aload_n 1, 1) := dk_aload_n_1 (by decide +kernel)
theorem dJx4a65c_add_9ea2d_12 : decode cJx4a65c_add_9ea2d 12 = .ok (.aload_n 0, 1) := dk_aload_n_0 (by decide +kernel)
theorem dJx4a65c_add_9ea2d_13 : decode cJx4a65c_add_9ea2d 13 = .ok (.getfield 9, 3) := dk_getfield (by decide +kernel)
theorem dJx4a65c_add_9ea2d_16 : decode cJx4a65c_add_9ea2d 16 = .ok (.aload_n 0, 1) := dk_aload_n_0 (by decide +kernel)
theorem dJx4a65c_add_9ea2d_17 : decode cJx4a65c_add_9ea2d 17 = .ok (.getfield 48, 3) := dk_getfield (by decide +kernel)
theorem dJx4a65c_add_9ea2d_20 : decode cJx4a65c_add_9ea2d 20 = .ok (.invokevirtual 131, 3) := dk_invokevirtual (by decide +kernel)
theorem dJx4a65c_add_9ea2d_23 : decode cJx4a65c_add_9ea2d 23 = .ok (.iconst 1, 1) := dk_iconst_1 (by decide +kernel)
theorem dJx4a65c_add_9ea2d_24 : decode cJx4a65c_add_9ea2d 24 = .ok (.ireturn, 1) := dk_ireturn (by decide +kernel)
set_option maxHeartbeats 4000000 in
set_option maxRecDepth 100000 in
theorem c_J8_newLength_cabcc (l : Launch) (g : gG) (J : Nat → Nat → Int32) (L : Nat → Nat → Int64) (I : Nat → Nat → Nat → Int32) (P : Nat → Nat → Nat → Option Nat) (E : Nat → Option Nat) (N : Nat → Nat) (dy : List (Nat × Nat)) (sz : Nat) (a0 : Int32) (a1 : Int32) (a2 : Int32) (hi : 0 ≤ a0.toInt ∧ a0.toInt ≤ 20000 ∧ 1 ≤ a1.toInt ∧ a1.toInt ≤ 20000 ∧ 0 ≤ a2.toInt ∧ a2.toInt ≤ 20000) : Met l yJ8_newLength_cabcc (WS yJ8_newLength_cabcc cJ8_newLength_cabcc 4 (some .int)) (RM (1) 0 0) (PC g [.int a0, .int a1, .int a2] ((J, L, I, P, E, N), sgX g ++ dy) sz) (va_Qi (fun (r : Int32) (u : Unit) => ((r.toInt = a0.toInt + max a1.toInt a2.toInt))) (fun u t => at_ g (FR g ((J, L, I, P, E, N), sgX g ++ dy) sz) ((J, L, I, P, E, N), sgX g ++ dy) t) (FR g ((J, L, I, P, E, N), sgX g ++ dy) sz)) 0 0 (FR g ((J, L, I, P, E, N), sgX g ++ dy) sz) := by
  refine ent (by decide +kernel) (Nat.le_of_ble_eq_true rfl) ?_
  intro p e s m below meth c ls hsz C hW hr hlocks hname hl
  generalize FR g ((J, L, I, P, E, N), sgX g ++ dy) sz = A at C hW ⊢
  have hx := C.1.1
  have hb := C.1.2.1
  have hts := C.1.2.2.2.2
  have hl : lv_has ls 4 [(0, .int a0), (1, .int a1), (2, .int a2)] := hl
  obtain ⟨H, hH⟩ : ∃ H : Heap, H = s.heap := ⟨_, rfl⟩
  obtain ⟨locs, hlocs⟩ : ∃ q : List Loc, q = [] := ⟨_, rfl⟩
  have hW : WB g A s.heap H locs (J, L, I, P, E, N) (sgX g ++ dy) := by rw [hH, hlocs]; exact hW
  refine start_ hH hlocs ?_
  refine lv_iload_n hx hb dJ8_newLength_cabcc_0 rfl (lv_at hl 0 rfl) ?_
  refine lv_iload_n hx hb dJ8_newLength_cabcc_1 rfl (lv_at hl 1 rfl) ?_
  refine lv_iload_n hx hb dJ8_newLength_cabcc_2 rfl (lv_at hl 2 rfl) ?_
  refine va_mmax hx hb (C.1.2.2.1.trans hl.1.symm) C.1.2.2.2.1 (hts _ tw_190) (hts _ tw_191) (hts _ tw_74) (hts _ tw_192) (Nat.le_of_ble_eq_true rfl) (Nat.le_of_ble_eq_true rfl) (Nat.le_of_ble_eq_true rfl) (Nat.le_of_ble_eq_true rfl) dJ8_newLength_cabcc_3 ?_
  refine lv_topi (fun x1 (e1 : x1 = if a1 < a2 then a2 else a1) => ?_)
  have t1 : x1.toInt = max a1.toInt a2.toInt := tmax e1 rfl rfl
  refine lv_iadd hx hb dJ8_newLength_cabcc_6 ?_
  refine lv_topi (fun x2 (e2 : x2 = a0 + x1) => ?_)
  try have t2 : x2.toInt = a0.toInt + x1.toInt := tadd e2 rfl rfl (by omega)
  refine lv_istore_n (lv' := [(3, .int x2), (0, .int a0), (1, .int a1), (2, .int a2)]) hx hb dJ8_newLength_cabcc_7 rfl hl (by decide) rfl (fun ls hl => ?_)
  refine lv_iconst (v := 0) hx hb dJ8_newLength_cabcc_8 (by decide) ?_
  refine lv_iload_n hx hb dJ8_newLength_cabcc_9 rfl (lv_at hl 0 rfl) ?_
  refine lv_icmp_ge (tgt := 21) hx hb dJ8_newLength_cabcc_10 (by decide) (fun c3 => ?_) (fun c3 => ?_)
  · have c3 : x2.toInt ≤ 0 := tle rfl kp0 c3
    exfalso; omega
  · have c3 : 0 < x2.toInt := tnle rfl kp0 c3
    refine lv_iload_n hx hb dJ8_newLength_cabcc_13 rfl (lv_at hl 0 rfl) ?_
    refine lv_ldc hx hb C.1.2.2.2.1 (hts _ tw_193) dJ8_newLength_cabcc_14 ?_
    refine lv_icmp_gt (tgt := 21) hx hb dJ8_newLength_cabcc_16 (by decide) (fun c4 => ?_) (fun c4 => ?_)
    · have c4 : 2147483639 < x2.toInt := tlt kp2147483639 rfl c4
      exfalso; omega
    · have c4 : x2.toInt ≤ 2147483639 := tnlt kp2147483639 rfl c4
      refine lv_iload_n hx hb dJ8_newLength_cabcc_19 rfl (lv_at hl 0 rfl) ?_
      exact end_i C hr hlocks () hW (by first | omega | exact (by omega)) dJ8_newLength_cabcc_20

set_option maxHeartbeats 4000000 in
set_option maxRecDepth 100000 in
theorem c_J7_copyOf_6403c (l : Launch) (g : gG) (J : Nat → Nat → Int32) (L : Nat → Nat → Int64) (I : Nat → Nat → Nat → Int32) (P : Nat → Nat → Nat → Option Nat) (E : Nat → Option Nat) (N : Nat → Nat) (dy : List (Nat × Nat)) (sz : Nat) (er r a0 : Nat) (hlr : nel r lroles = true) (her : nel er eroles = true) (hm0 : (r + 10, a0) ∈ dy) (a1 : Int32) (mi : Nat) (hn : (N a0 : Int) ≤ a1.toInt ∧ a1.toInt ≤ 20000) (hel : ∀ k : Nat, k < N a0 → ∃ q, P (r + 10) k a0 = some q ∧ (er, q) ∈ dy) : Met l yJ7_copyOf_6403c (WS yJ7_copyOf_6403c cJ7_copyOf_6403c 4 (some (.array (.object "java/lang/Object")))) (RM (2) 1 20000) (PCm g [.ref a0, .int a1, .ref mi] ((J, L, I, P, E, N), sgX g ++ dy) sz mi) (va_Qq (fun (r9 : Option Nat) (u : (Nat → Nat → Nat → Option Nat) × Nat) => r9 = some u.2 ∧ (∀ x ∈ sgX g ++ dy, x.2 ≠ u.2) ∧ (∀ f a : Nat, a ≠ u.2 → u.1 (r + 10) f a = P (r + 10) f a) ∧ (∀ k : Nat, k < N a0 → u.1 (r + 10) k u.2 = P (r + 10) k a0)) (fun u t => at_ g (FR g ((J, L, I, P, E, N), sgX g ++ dy) sz) (((J, L, I, hv P [r + 10] [] u.1, E, up1 N u.2 a1.toNatClampNeg), sgX g ++ (dy ++ [(r + 10, u.2)]))) t) (FR g ((J, L, I, P, E, N), sgX g ++ dy) sz)) 1 20000 (FR g ((J, L, I, P, E, N), sgX g ++ dy) sz) := by
  refine entm (by decide +kernel) (Nat.le_of_ble_eq_true rfl) ?_
  intro p e s m below meth c ls hsz C hW hr hlocks hname hl hmi
  generalize FR g ((J, L, I, P, E, N), sgX g ++ dy) sz = A at C hW ⊢
  have hx := C.1.1
  have hb := C.1.2.1
  have hts := C.1.2.2.2.2
  have hl : lv_has ls 4 [(0, .ref a0), (1, .int a1), (2, .ref mi)] := hl
  obtain ⟨H, hH⟩ : ∃ H : Heap, H = s.heap := ⟨_, rfl⟩
  obtain ⟨locs, hlocs⟩ : ∃ q : List Loc, q = [] := ⟨_, rfl⟩
  have hW : WB g A s.heap H locs (J, L, I, P, E, N) (sgX g ++ dy) := by rw [hH, hlocs]; exact hW
  refine start_ hH hlocs ?_
  refine lv_aload_n hx hb dJ7_copyOf_6403c_0 rfl (lv_at hl 2 rfl) ?_
  refine va_ldcM hx hb C.1.2.2.2.1 (hts _ tw_221) hmi dJ7_copyOf_6403c_1 ?_
  refine lv_acmp_ne (rx := some mi) (ry := some mi) (tgt := 13) hx hb dJ7_copyOf_6403c_3 (by decide) (fun h => absurd rfl h) (fun _ => ?_)
  refine lv_iload_n hx hb dJ7_copyOf_6403c_6 rfl (lv_at hl 1 rfl) ?_
  refine g_newq (r := r) (N' := a1.toNatClampNeg) C hW hlr tw_223 (by have := tcl a1; omega) (by have := tcl a1; omega) ⟨Nat.le_of_ble_eq_true rfl, (by show 0 + a1.toNatClampNeg ≤ 20000; have := tcl a1; omega)⟩ dJ7_copyOf_6403c_7 (fun q H hfr hW => ?_)
  refine W.widen (k := 1) (n := 20000) (Nat.le_of_ble_eq_true rfl) (by show 0 + a1.toNatClampNeg ≤ 20000; have := tcl a1; omega) ?_
  rw [List.append_assoc] at hW
  refine lv_goto (tgt := 24) hx hb dJ7_copyOf_6403c_10 (by decide) ?_
  refine lv_astore_n (lv' := [(3, .ref q), (0, .ref a0), (1, .int a1), (2, .ref mi)]) hx hb dJ7_copyOf_6403c_24 rfl hl (by decide) rfl (fun ls hl => ?_)
  refine lv_aload_n hx hb dJ7_copyOf_6403c_25 rfl (lv_at hl 1 rfl) ?_
  refine lv_iconst (v := 0) hx hb dJ7_copyOf_6403c_26 (by decide) ?_
  refine lv_aload_n hx hb dJ7_copyOf_6403c_27 rfl (lv_at hl 0 rfl) ?_
  refine lv_iconst (v := 0) hx hb dJ7_copyOf_6403c_28 (by decide) ?_
  refine lv_aload_n hx hb dJ7_copyOf_6403c_29 rfl (lv_at hl 1 rfl) ?_
  obtain ⟨x1, e1⟩ : ∃ y : Int32, y = Int32.ofNat ((up1 N q a1.toNatClampNeg) a0) := ⟨_, rfl⟩
  have t1 : x1.toInt = (N a0 : Int) := by rw [e1, up1_n _ _ (show a0 ≠ q from hfr _ (List.mem_append_right _ hm0))]; exact Int32.toInt_ofNat_of_lt (by omega)
  refine g_alen (t0 := 3) C hW (List.mem_append_right _ (List.mem_append_left _ hm0)) (cel_back hlr) rfl e1.symm dJ7_copyOf_6403c_30 ?_
  refine lv_iload_n hx hb dJ7_copyOf_6403c_31 rfl (lv_at hl 2 rfl) ?_
  refine va_mmin hx hb (C.1.2.2.1.trans hl.1.symm) C.1.2.2.2.1 (hts _ tw_224) (hts _ tw_225) (hts _ tw_74) (hts _ tw_226) (Nat.le_of_ble_eq_true rfl) (Nat.le_of_ble_eq_true rfl) (Nat.le_of_ble_eq_true rfl) (Nat.le_of_ble_eq_true rfl) dJ7_copyOf_6403c_32 ?_
  refine lv_topi (fun x2 (e2 : x2 = if a1 < x1 then a1 else x1) => ?_)
  have t2 : x2.toInt = min x1.toInt a1.toInt := tmin e2 rfl rfl
  refine g_copyq (er := er) C (C.1.2.2.1.trans hl.1.symm) hW hlr (List.mem_append_right _ (List.mem_append_left _ hm0)) (List.mem_append_right _ (List.mem_append_right _ (List.mem_singleton.mpr rfl))) her (n := x2) (by omega) (by rw [up1_n _ _ (show a0 ≠ q from hfr _ (List.mem_append_right _ hm0))]; omega) (by rw [up1_s]; have := tcl a1; omega) (fun k hk y hy => ?_) tw_227 tw_229 tw_228 tw_76 (Nat.le_of_ble_eq_true rfl) (by decide) dJ7_copyOf_6403c_35 (fun H locs hW => ?_)
  · rw [clr_o _ _ _ (show a0 ≠ q from hfr _ (List.mem_append_right _ hm0))] at hy; obtain ⟨z, z1, z2⟩ := hel k (by have := tcl x2; omega); rw [z1] at hy; cases hy; exact List.mem_append_right _ (List.mem_append_left _ z2)
  have hW : WB g A s.heap H locs (J, L, I, (prow (clr P (r + 10) q none) (r + 10) q (va_cpy (fun f => clr P (r + 10) q none (r + 10) f a0) (fun f => clr P (r + 10) q none (r + 10) f q) 0 0 x2.toNatClampNeg)), E, (up1 N q a1.toNatClampNeg)) (sgX g ++ (dy ++ [(r + 10, q)])) := hW
  refine lv_aload_n hx hb dJ7_copyOf_6403c_38 rfl (lv_at hl 0 rfl) ?_
  have hWr : WB g A s.heap H locs (J, L, I, hv P [r + 10] [] (prow (clr P (r + 10) q none) (r + 10) q (va_cpy (fun f => clr P (r + 10) q none (r + 10) f a0) (fun f => clr P (r + 10) q none (r + 10) f q) 0 0 x2.toNatClampNeg)), E, up1 N q a1.toNatClampNeg) (sgX g ++ (dy ++ [(r + 10, q)])) := by
    rw [← ag_hvE (J := P) (R := [r + 10]) (F := []) (ag_prow (nel_self _) (ag_clr (nel_self _) ag_rf))]; exact hW
  refine end_q (v := some q) C hr (Or.inr ⟨_, rfl⟩) hlocks ((prow (clr P (r + 10) q none) (r + 10) q (va_cpy (fun f => clr P (r + 10) q none (r + 10) f a0) (fun f => clr P (r + 10) q none (r + 10) f q) 0 0 x2.toNatClampNeg)), q) hWr ⟨rfl, hfr, fun f a h => ?_, fun k hk => ?_⟩ dJ7_copyOf_6403c_39
  · show (prow (clr P (r + 10) q none) (r + 10) q (va_cpy (fun f => clr P (r + 10) q none (r + 10) f a0) (fun f => clr P (r + 10) q none (r + 10) f q) 0 0 x2.toNatClampNeg)) (r + 10) f a = _
    rw [prow_o _ _ _ h, clr_o _ _ _ h]
  · show (prow (clr P (r + 10) q none) (r + 10) q (va_cpy (fun f => clr P (r + 10) q none (r + 10) f a0) (fun f => clr P (r + 10) q none (r + 10) f q) 0 0 x2.toNatClampNeg)) (r + 10) k q = _
    rw [prow_s]; simp only [va_cpy, Nat.zero_add, Nat.sub_zero]
    rw [if_pos ⟨Nat.zero_le _, by have := tcl x2; omega⟩, clr_o _ _ _ (show a0 ≠ q from hfr _ (List.mem_append_right _ hm0))]

set_option maxHeartbeats 4000000 in
set_option maxRecDepth 100000 in
theorem c_J7_copyOf_1904c (l : Launch) (g : gG) (J : Nat → Nat → Int32) (L : Nat → Nat → Int64) (I : Nat → Nat → Nat → Int32) (P : Nat → Nat → Nat → Option Nat) (E : Nat → Option Nat) (N : Nat → Nat) (dy : List (Nat × Nat)) (sz : Nat) (er r a0 : Nat) (hlr : nel r lroles = true) (her : nel er eroles = true) (hm0 : (r + 10, a0) ∈ dy) (a1 : Int32) (hn : (N a0 : Int) ≤ a1.toInt ∧ a1.toInt ≤ 20000) (hel : ∀ k : Nat, k < N a0 → ∃ q, P (r + 10) k a0 = some q ∧ (er, q) ∈ dy) : Met l yJ7_copyOf_1904c (WS yJ7_copyOf_1904c cJ7_copyOf_1904c 2 (some (.array (.object "java/lang/Object")))) (RM (3) 1 20000) (PC g [.ref a0, .int a1] ((J, L, I, P, E, N), sgX g ++ dy) sz) (va_Qq (fun (r9 : Option Nat) (u : (Nat → Nat → Nat → Option Nat) × Nat) => r9 = some u.2 ∧ (∀ x ∈ sgX g ++ dy, x.2 ≠ u.2) ∧ (∀ f a : Nat, a ≠ u.2 → u.1 (r + 10) f a = P (r + 10) f a) ∧ (∀ k : Nat, k < N a0 → u.1 (r + 10) k u.2 = P (r + 10) k a0)) (fun u t => at_ g (FR g ((J, L, I, P, E, N), sgX g ++ dy) sz) (((J, L, I, hv P [r + 10] [] u.1, E, up1 N u.2 a1.toNatClampNeg), sgX g ++ (dy ++ [(r + 10, u.2)]))) t) (FR g ((J, L, I, P, E, N), sgX g ++ dy) sz)) 1 20000 (FR g ((J, L, I, P, E, N), sgX g ++ dy) sz) := by
  refine ent (by decide +kernel) (Nat.le_of_ble_eq_true rfl) ?_
  intro p e s m below meth c ls hsz C hW hr hlocks hname hl
  generalize FR g ((J, L, I, P, E, N), sgX g ++ dy) sz = A at C hW ⊢
  have hx := C.1.1
  have hb := C.1.2.1
  have hts := C.1.2.2.2.2
  have hl : lv_has ls 2 [(0, .ref a0), (1, .int a1)] := hl
  obtain ⟨H, hH⟩ : ∃ H : Heap, H = s.heap := ⟨_, rfl⟩
  obtain ⟨locs, hlocs⟩ : ∃ q : List Loc, q = [] := ⟨_, rfl⟩
  have hW : WB g A s.heap H locs (J, L, I, P, E, N) (sgX g ++ dy) := by rw [hH, hlocs]; exact hW
  obtain ⟨mi, hmi⟩ := C.2.2.2.2.2.2.2.2.2
  refine start_ hH hlocs ?_
  refine lv_aload_n hx hb dJ7_copyOf_1904c_0 rfl (lv_at hl 0 rfl) ?_
  refine lv_iload_n hx hb dJ7_copyOf_1904c_1 rfl (lv_at hl 1 rfl) ?_
  refine lv_aload_n hx hb dJ7_copyOf_1904c_2 rfl (lv_at hl 0 rfl) ?_
  refine va_getC (C := "[Ljava/lang/Object;") hx hb (C.1.2.2.1.trans hl.1.symm) C.1.2.2.2.1 (hts _ tw_200) (va_Dc.use C.2.2.2.2.2.2.2.2.1) (hts _ tw_1564) (hts _ tw_201) (hts _ tw_217) hmi (g_rowcls C hW hlr (List.mem_append_right _ hm0)) (Nat.le_of_ble_eq_true rfl) (Nat.le_of_ble_eq_true rfl) dJ7_copyOf_1904c_3 ?_
  refine cq_ C hW (runSm hmi (As := [.ref a0, .int a1, .ref mi]) (rest := []) (T := ((J, L, I, P, E, N), sgX g ++ dy)) C hW (c_J7_copyOf_6403c l g J L I P E N dy H.size er r a0 hlr her hm0 a1 mi hn hel) mi_J7_copyOf_6403c tw_218 ⟨rfl, rfl, Nat.le_of_ble_eq_true rfl, Nat.le_of_ble_eq_true rfl⟩ rfl hl.1 rfl (Nat.le_of_ble_eq_true rfl) dJ7_copyOf_1904c_6 ⟨Nat.le_of_ble_eq_true rfl, Nat.le_of_ble_eq_true rfl⟩) (fun q1 u1 H locs hp1 hW => ?_)
  have hp1 : q1 = some u1.2 ∧ (∀ x ∈ sgX g ++ dy, x.2 ≠ u1.2) ∧ (∀ f a : Nat, a ≠ u1.2 → u1.1 (r + 10) f a = P (r + 10) f a) ∧ (∀ k : Nat, k < N a0 → u1.1 (r + 10) k u1.2 = P (r + 10) k a0) := hp1
  exact end_q (v := q1) C hr (Or.inr ⟨_, rfl⟩) hlocks u1 hW hp1 dJ7_copyOf_1904c_9

set_option maxHeartbeats 4000000 in
set_option maxRecDepth 100000 in
theorem c_Jx4a65c_grow_92f84 (l : Launch) (g : gG) (J : Nat → Nat → Int32) (L : Nat → Nat → Int64) (I : Nat → Nat → Nat → Int32) (P : Nat → Nat → Nat → Option Nat) (E : Nat → Option Nat) (N : Nat → Nat) (dy : List (Nat × Nat)) (sz : Nat) (er r : Nat) (hlr : nel r lroles = true) (her : nel er eroles = true) (a0 : Int32) (hlw : LWF g J P E N dy r er) (hfull : ∀ b : Nat, E r = some b → (r + 10, b) ∈ dy → (N b : Int) = (J r 2).toInt) (hs9 : (J r 2).toInt ≤ 9999) (ha0 : a0.toInt = (J r 2).toInt + 1) : Met l yJx4a65c_grow_92f84 (WS yJx4a65c_grow_92f84 cJx4a65c_grow_92f84 4 (some (.array (.object "java/lang/Object")))) (RM (4) 1 20000) (PC g [.ref (g.2.2.1 r), .int a0] ((J, L, I, P, E, N), sgX g ++ dy) sz) (va_Qq (fun (r9 : Option Nat) (u : (Nat → Nat → Nat → Option Nat) × Nat × Nat) => r9 = some u.2.1 ∧ (J r 2).toInt < (u.2.2 : Int) ∧ u.2.2 ≤ 20000 ∧ 10 ≤ u.2.2 ∧ (∀ x ∈ dy, x.2 ≠ u.2.1) ∧ (∀ k : Nat, (k : Int) < (J r 2).toInt → u.1 (r + 10) k u.2.1 = P (r + 10) k ((E r).getD 0))) (fun u t => at_ g (FR g ((J, L, I, P, E, N), sgX g ++ dy) sz) (((J, L, I, hv P [r + 10] [] u.1, up1 E r (some u.2.1), up1 N u.2.1 u.2.2), sgX g ++ (dy ++ [(r + 10, u.2.1)]))) t) (FR g ((J, L, I, P, E, N), sgX g ++ dy) sz)) 1 20000 (FR g ((J, L, I, P, E, N), sgX g ++ dy) sz) := by
  refine ent (by decide +kernel) (Nat.le_of_ble_eq_true rfl) ?_
  intro p e s m below meth c ls hsz C hW hr hlocks hname hl
  generalize FR g ((J, L, I, P, E, N), sgX g ++ dy) sz = A at C hW ⊢
  have hx := C.1.1
  have hb := C.1.2.1
  have hts := C.1.2.2.2.2
  have hl : lv_has ls 4 [(0, .ref (g.2.2.1 r)), (1, .int a0)] := hl
  obtain ⟨H, hH⟩ : ∃ H : Heap, H = s.heap := ⟨_, rfl⟩
  obtain ⟨locs, hlocs⟩ : ∃ q : List Loc, q = [] := ⟨_, rfl⟩
  have hW : WB g A s.heap H locs (J, L, I, P, E, N) (sgX g ++ dy) := by rw [hH, hlocs]; exact hW
  refine start_ hH hlocs ?_
  have hz0 := hlw.1
  rcases hlw.2.2 with ⟨hE, hz⟩ | ⟨b, hE, hbm, hNb, hN2, hN3, hel⟩
  · skip
    refine lv_aload_n hx hb dJx4a65c_grow_92f84_0 rfl (lv_at hl 0 rfl) ?_
    refine lg_elem C hW hlr (mxr hlr) tw_119 dJx4a65c_grow_92f84_1 ?_
    refine lv_asv (v' := .ref g.2.2.2) (by rw [hE]; rfl) ?_
    refine va_tlen (v := 0) hx hb C.2.2.2.2.1 hW.2.2.1 rfl dJx4a65c_grow_92f84_4 ?_
    refine lv_istore_n (lv' := [(2, .int 0), (0, .ref (g.2.2.1 r)), (1, .int a0)]) hx hb dJx4a65c_grow_92f84_5 rfl hl (by decide) rfl (fun ls hl => ?_)
    refine lv_iload_n hx hb dJx4a65c_grow_92f84_6 rfl (lv_at hl 0 rfl) ?_
    refine lv_if_gt (tgt := 20) hx hb dJx4a65c_grow_92f84_7 (by decide) (fun c1 => ?_) (fun c1 => ?_)
    · exact absurd c1 (by decide)
    · skip
      refine lv_aload_n hx hb dJx4a65c_grow_92f84_10 rfl (lv_at hl 1 rfl) ?_
      refine lg_elem C hW hlr (mxr hlr) tw_119 dJx4a65c_grow_92f84_11 ?_
      refine lv_asv (v' := .ref g.2.2.2) (by rw [hE]; rfl) ?_
      refine va_gets hx hb C.2.2.2.1 hW.2.2.1 C.1.2.2.2.1 (hts _ tw_117) (fun _ h => h) dJx4a65c_grow_92f84_14 ?_
      refine lv_acmp_eq (rx := some g.2.2.2) (ry := some g.2.2.2) (tgt := 45) hx hb dJx4a65c_grow_92f84_17 (by decide) (fun _ => ?_) (fun h => absurd rfl h)
      refine lv_aload_n hx hb dJx4a65c_grow_92f84_45 rfl (lv_at hl 1 rfl) ?_
      refine lv_bipush (v := 10) hx hb dJx4a65c_grow_92f84_46 (by decide) ?_
      refine lv_iload_n hx hb dJx4a65c_grow_92f84_48 rfl (lv_at hl 2 rfl) ?_
      refine va_mmax hx hb (C.1.2.2.1.trans hl.1.symm) C.1.2.2.2.1 (hts _ tw_230) (hts _ tw_191) (hts _ tw_74) (hts _ tw_192) (Nat.le_of_ble_eq_true rfl) (Nat.le_of_ble_eq_true rfl) (Nat.le_of_ble_eq_true rfl) (Nat.le_of_ble_eq_true rfl) dJx4a65c_grow_92f84_49 ?_
      refine lv_topi (fun x2 (e2 : x2 = if 10 < a0 then a0 else 10) => ?_)
      have t2 : x2.toInt = max 10 a0.toInt := tmax e2 kp10 rfl
      refine g_newq (r := r) (N' := x2.toNatClampNeg) C hW hlr tw_231 (by have := tcl x2; omega) (by have := tcl x2; omega) ⟨Nat.le_of_ble_eq_true rfl, (by show 0 + x2.toNatClampNeg ≤ 20000; have := tcl x2; omega)⟩ dJx4a65c_grow_92f84_52 (fun q H hfr hW => ?_)
      refine W.widen (k := 1) (n := 20000) (Nat.le_of_ble_eq_true rfl) (by show 0 + x2.toNatClampNeg ≤ 20000; have := tcl x2; omega) ?_
      rw [List.append_assoc] at hW
      refine lv_dup_x1 hx hb dJx4a65c_grow_92f84_55 rfl rfl ?_
      refine lp_elem (v := some q) C hW hlr (mxr hlr) tw_119 dJx4a65c_grow_92f84_56 (fun H locs hW => ?_)
      have hW : WB g A s.heap H locs (J, L, I, (clr P (r + 10) q none), (up1 E r (some q)), (up1 N q x2.toNatClampNeg)) (sgX g ++ (dy ++ [(r + 10, q)])) := hW
      have hWr : WB g A s.heap H locs (J, L, I, hv P [r + 10] [] (clr P (r + 10) q none), up1 E r (some q), up1 N q x2.toNatClampNeg) (sgX g ++ (dy ++ [(r + 10, q)])) := by
        rw [← ag_hvE (J := P) (R := [r + 10]) (F := []) (ag_clr (nel_self _) ag_rf)]; exact hW
      exact end_q (v := some q) C hr (Or.inr ⟨_, rfl⟩) hlocks (clr P (r + 10) q none, q, x2.toNatClampNeg) hWr ⟨rfl, by have := tcl x2; show _ < ((x2.toNatClampNeg : Nat) : Int); omega, by have := tcl x2; show x2.toNatClampNeg ≤ _; omega, by have := tcl x2; show _ ≤ x2.toNatClampNeg; omega, fun x hx => hfr x (List.mem_append_right _ hx), fun k hk => absurd hk (by omega)⟩ dJx4a65c_grow_92f84_59
  · have hfb := hfull b hE hbm
    refine lv_aload_n hx hb dJx4a65c_grow_92f84_0 rfl (lv_at hl 0 rfl) ?_
    refine lg_elem C hW hlr (mxr hlr) tw_119 dJx4a65c_grow_92f84_1 ?_
    refine lv_asv (v' := .ref b) (by rw [hE]; rfl) ?_
    obtain ⟨x3, e3⟩ : ∃ y : Int32, y = Int32.ofNat (N b) := ⟨_, rfl⟩
    have t3 : x3.toInt = (N b : Int) := by rw [e3]; exact Int32.toInt_ofNat_of_lt (by omega)
    refine g_alen (t0 := 3) C hW (List.mem_append_right _ hbm) (cel_back hlr) rfl e3.symm dJx4a65c_grow_92f84_4 ?_
    refine lv_istore_n (lv' := [(2, .int x3), (0, .ref (g.2.2.1 r)), (1, .int a0)]) hx hb dJx4a65c_grow_92f84_5 rfl hl (by decide) rfl (fun ls hl => ?_)
    refine lv_iload_n hx hb dJx4a65c_grow_92f84_6 rfl (lv_at hl 0 rfl) ?_
    refine lv_if_gt (tgt := 20) hx hb dJx4a65c_grow_92f84_7 (by decide) (fun c4 => ?_) (fun c4 => ?_)
    · have c4 : 0 < x3.toInt := tlt kp0 rfl c4
      refine lv_iload_n hx hb dJx4a65c_grow_92f84_20 rfl (lv_at hl 0 rfl) ?_
      refine lv_iload_n hx hb dJx4a65c_grow_92f84_21 rfl (lv_at hl 2 rfl) ?_
      refine lv_iload_n hx hb dJx4a65c_grow_92f84_22 rfl (lv_at hl 0 rfl) ?_
      refine lv_isub hx hb dJx4a65c_grow_92f84_23 ?_
      refine lv_topi (fun x5 (e5 : x5 = a0 - x3) => ?_)
      try have t5 : x5.toInt = a0.toInt - x3.toInt := tsub e5 rfl rfl (by omega)
      refine lv_iload_n hx hb dJx4a65c_grow_92f84_24 rfl (lv_at hl 0 rfl) ?_
      refine lv_iconst (v := 1) hx hb dJx4a65c_grow_92f84_25 (by decide) ?_
      refine lv_ishr hx hb dJx4a65c_grow_92f84_26 ?_
      refine lv_topi (fun x6 (e6 : x6 = x3 >>> (1 &&& 31)) => ?_)
      have t6 := tshr1 e6
      refine ci_ C hW (runS (As := [.int x3, .int x5, .int x6]) (rest := []) (T := ((J, L, I, P, E, N), sgX g ++ dy)) C hW (c_J8_newLength_cabcc l g J L I P E N dy H.size x3 x5 x6 (show 0 ≤ x3.toInt ∧ x3.toInt ≤ 20000 ∧ 1 ≤ x5.toInt ∧ x5.toInt ≤ 20000 ∧ 0 ≤ x6.toInt ∧ x6.toInt ≤ 20000 from by omega)) mi_J8_newLength_cabcc tw_187 ⟨rfl, rfl, Nat.le_of_ble_eq_true rfl, Nat.le_of_ble_eq_true rfl⟩ rfl hl.1 rfl (Nat.le_of_ble_eq_true rfl) dJx4a65c_grow_92f84_27 ⟨Nat.le_of_ble_eq_true rfl, Nat.le_of_ble_eq_true rfl⟩) (fun r7 u7 H locs hp7 hW => ?_)
      have hc7 : ((r7.toInt = x3.toInt + max x5.toInt x6.toInt)) := hp7
      clear hp7
      have hW : WB g A s.heap H locs (J, L, I, P, E, N) (sgX g ++ dy) := hW
      refine lv_istore_n (lv' := [(3, .int r7), (2, .int x3), (0, .ref (g.2.2.1 r)), (1, .int a0)]) hx hb dJx4a65c_grow_92f84_30 rfl hl (by decide) rfl (fun ls hl => ?_)
      refine lv_aload_n hx hb dJx4a65c_grow_92f84_31 rfl (lv_at hl 2 rfl) ?_
      refine lv_aload_n hx hb dJx4a65c_grow_92f84_32 rfl (lv_at hl 2 rfl) ?_
      refine lg_elem C hW hlr (mxr hlr) tw_119 dJx4a65c_grow_92f84_33 ?_
      refine lv_asv (v' := .ref b) (by rw [hE]; rfl) ?_
      refine lv_iload_n hx hb dJx4a65c_grow_92f84_36 rfl (lv_at hl 0 rfl) ?_
      refine cq_ C hW (runS (As := [.ref b, .int r7]) (rest := [.ref (g.2.2.1 r)]) (T := ((J, L, I, P, E, N), sgX g ++ dy)) C hW (c_J7_copyOf_1904c l g J L I P E N dy H.size er r b hlr her hbm r7 ⟨by omega, by omega⟩ (fun k hk => hel k (by omega))) mi_J7_copyOf_1904c tw_197 ⟨rfl, rfl, Nat.le_of_ble_eq_true rfl, Nat.le_of_ble_eq_true rfl⟩ rfl hl.1 rfl (Nat.le_of_ble_eq_true rfl) dJx4a65c_grow_92f84_37 ⟨Nat.le_of_ble_eq_true rfl, Nat.le_of_ble_eq_true rfl⟩) (fun q8 u8 H locs hp8 hW => ?_)
      obtain ⟨rfl, hq1, hq2, hq3⟩ : q8 = some u8.2 ∧ (∀ x ∈ sgX g ++ dy, x.2 ≠ u8.2) ∧ (∀ f a : Nat, a ≠ u8.2 → u8.1 (r + 10) f a = P (r + 10) f a) ∧ (∀ k : Nat, k < N b → u8.1 (r + 10) k u8.2 = P (r + 10) k b) := hp8
      have hW : WB g A s.heap H locs (J, L, I, (hv P [r + 10] [] u8.1), E, (up1 N u8.2 r7.toNatClampNeg)) (sgX g ++ (dy ++ [(r + 10, u8.2)])) := hW
      refine lv_dup_x1 hx hb dJx4a65c_grow_92f84_40 rfl rfl ?_
      refine lp_elem (v := some u8.2) C hW hlr (mxr hlr) tw_119 dJx4a65c_grow_92f84_41 (fun H locs hW => ?_)
      have hW : WB g A s.heap H locs (J, L, I, (hv P [r + 10] [] u8.1), (up1 E r (some u8.2)), (up1 N u8.2 r7.toNatClampNeg)) (sgX g ++ (dy ++ [(r + 10, u8.2)])) := hW
      exact end_q (v := some u8.2) C hr (Or.inr ⟨_, rfl⟩) hlocks (u8.1, u8.2, r7.toNatClampNeg) hW ⟨rfl, by have := tcl r7; show _ < ((r7.toNatClampNeg : Nat) : Int); omega, by have := tcl r7; show r7.toNatClampNeg ≤ _; omega, by have := tcl r7; show _ ≤ r7.toNatClampNeg; omega, fun x hx => hq1 x (List.mem_append_right _ hx), fun k hk => by rw [hE]; exact hq3 k (by omega)⟩ dJx4a65c_grow_92f84_44
    · have c4 : x3.toInt ≤ 0 := tnlt kp0 rfl c4
      exfalso; omega

set_option maxHeartbeats 4000000 in
set_option maxRecDepth 100000 in
theorem c_Jx4a65c_grow_d5877 (l : Launch) (g : gG) (J : Nat → Nat → Int32) (L : Nat → Nat → Int64) (I : Nat → Nat → Nat → Int32) (P : Nat → Nat → Nat → Option Nat) (E : Nat → Option Nat) (N : Nat → Nat) (dy : List (Nat × Nat)) (sz : Nat) (er r : Nat) (hlr : nel r lroles = true) (her : nel er eroles = true) (hlw : LWF g J P E N dy r er) (hfull : ∀ b : Nat, E r = some b → (r + 10, b) ∈ dy → (N b : Int) = (J r 2).toInt) (hs9 : (J r 2).toInt ≤ 9999) : Met l yJx4a65c_grow_d5877 (WS yJx4a65c_grow_d5877 cJx4a65c_grow_d5877 1 (some (.array (.object "java/lang/Object")))) (RM (5) 1 20000) (PC g [.ref (g.2.2.1 r)] ((J, L, I, P, E, N), sgX g ++ dy) sz) (va_Qq (fun (r9 : Option Nat) (u : (Nat → Nat → Nat → Option Nat) × Nat × Nat) => r9 = some u.2.1 ∧ (J r 2).toInt < (u.2.2 : Int) ∧ u.2.2 ≤ 20000 ∧ 10 ≤ u.2.2 ∧ (∀ x ∈ dy, x.2 ≠ u.2.1) ∧ (∀ k : Nat, (k : Int) < (J r 2).toInt → u.1 (r + 10) k u.2.1 = P (r + 10) k ((E r).getD 0))) (fun u t => at_ g (FR g ((J, L, I, P, E, N), sgX g ++ dy) sz) (((J, L, I, hv P [r + 10] [] u.1, up1 E r (some u.2.1), up1 N u.2.1 u.2.2), sgX g ++ (dy ++ [(r + 10, u.2.1)]))) t) (FR g ((J, L, I, P, E, N), sgX g ++ dy) sz)) 1 20000 (FR g ((J, L, I, P, E, N), sgX g ++ dy) sz) := by
  refine ent (by decide +kernel) (Nat.le_of_ble_eq_true rfl) ?_
  intro p e s m below meth c ls hsz C hW hr hlocks hname hl
  generalize FR g ((J, L, I, P, E, N), sgX g ++ dy) sz = A at C hW ⊢
  have hx := C.1.1
  have hb := C.1.2.1
  have hts := C.1.2.2.2.2
  have hl : lv_has ls 1 [(0, .ref (g.2.2.1 r))] := hl
  obtain ⟨H, hH⟩ : ∃ H : Heap, H = s.heap := ⟨_, rfl⟩
  obtain ⟨locs, hlocs⟩ : ∃ q : List Loc, q = [] := ⟨_, rfl⟩
  have hW : WB g A s.heap H locs (J, L, I, P, E, N) (sgX g ++ dy) := by rw [hH, hlocs]; exact hW
  have hz0 := hlw.1
  refine start_ hH hlocs ?_
  refine lv_aload_n hx hb dJx4a65c_grow_d5877_0 rfl (lv_at hl 0 rfl) ?_
  refine lv_aload_n hx hb dJx4a65c_grow_d5877_1 rfl (lv_at hl 0 rfl) ?_
  refine lg_size C hW hlr (mxr hlr) tw_120 dJx4a65c_grow_d5877_2 ?_
  refine lv_iconst (v := 1) hx hb dJx4a65c_grow_d5877_5 (by decide) ?_
  refine lv_iadd hx hb dJx4a65c_grow_d5877_6 ?_
  refine lv_topi (fun x1 (e1 : x1 = (J r 2) + 1) => ?_)
  try have t1 : x1.toInt = (J r 2).toInt + 1 := tadd e1 rfl kp1 (by omega)
  refine cq_ C hW (runV (x := (g.2.2.1 r)) (As := [.int x1]) (rest := []) (T := ((J, L, I, P, E, N), sgX g ++ dy)) C hW (c_Jx4a65c_grow_92f84 l g J L I P E N dy H.size er r hlr her x1 hlw hfull hs9 (by omega)) mi_Jx4a65c_grow_92f84 tw_183 (recv_ (T := ((J, L, I, P, E, N), sgX g ++ dy)) C hW (mxr hlr) (cel_list hlr) rfl) ⟨rfl, rfl, Nat.le_of_ble_eq_true rfl, Nat.le_of_ble_eq_true rfl⟩ rfl hl.1 rfl (Nat.le_of_ble_eq_true rfl) dJx4a65c_grow_d5877_7 ⟨Nat.le_of_ble_eq_true rfl, Nat.le_of_ble_eq_true rfl⟩) (fun q2 u2 H locs hp2 hW => ?_)
  exact end_q (v := q2) C hr (Or.inr ⟨_, rfl⟩) hlocks u2 hW hp2 dJx4a65c_grow_d5877_10

set_option maxHeartbeats 4000000 in
set_option maxRecDepth 100000 in
theorem c_Jx4a65c_add_72be8 (l : Launch) (g : gG) (J : Nat → Nat → Int32) (L : Nat → Nat → Int64) (I : Nat → Nat → Nat → Int32) (P : Nat → Nat → Nat → Option Nat) (E : Nat → Option Nat) (N : Nat → Nat) (dy : List (Nat × Nat)) (sz : Nat) (er r : Nat) (hlr : nel r lroles = true) (her : nel er eroles = true) (a0 a1 : Nat) (n : Int32) (hm0 : (er, a0) ∈ dy) (hlw : LWF g J P E N dy r er) (hE1 : E r = some a1) (hn : J r 2 = n) (hs9 : n.toInt ≤ 9999) : Met l yJx4a65c_add_72be8 (WS yJx4a65c_add_72be8 cJx4a65c_add_72be8 4 none) (RM (6) 1 20000) (PC g [.ref (g.2.2.1 r), .ref a0, .ref a1, .int n] ((J, L, I, P, E, N), sgX g ++ dy) sz) (va_Qv (fun (u : (Nat → Nat → Nat → Option Nat) × Option Nat × (Nat → Nat) × List (Nat × Nat)) => ADDED g (up2 J r 2 (n + 1)) P E N dy r er n a0 (hv P [r + 10] [] u.1) (up1 E r u.2.1) u.2.2.1 u.2.2.2) (fun u t => at_ g (FR g ((J, L, I, P, E, N), sgX g ++ dy) sz) (((up2 J r 2 (n + 1), L, I, hv P [r + 10] [] u.1, up1 E r u.2.1, u.2.2.1), sgX g ++ u.2.2.2)) t) (FR g ((J, L, I, P, E, N), sgX g ++ dy) sz)) 1 20000 (FR g ((J, L, I, P, E, N), sgX g ++ dy) sz) := by
  refine ent (by decide +kernel) (Nat.le_of_ble_eq_true rfl) ?_
  intro p e s m below meth c ls hsz C hW hr hlocks hname hl
  generalize FR g ((J, L, I, P, E, N), sgX g ++ dy) sz = A at C hW ⊢
  have hx := C.1.1
  have hb := C.1.2.1
  have hts := C.1.2.2.2.2
  have hl : lv_has ls 4 [(0, .ref (g.2.2.1 r)), (1, .ref a0), (2, .ref a1), (3, .int n)] := hl
  obtain ⟨H, hH⟩ : ∃ H : Heap, H = s.heap := ⟨_, rfl⟩
  obtain ⟨locs, hlocs⟩ : ∃ q : List Loc, q = [] := ⟨_, rfl⟩
  have hW : WB g A s.heap H locs (J, L, I, P, E, N) (sgX g ++ dy) := by rw [hH, hlocs]; exact hW
  refine start_ hH hlocs ?_
  have hz0 := hlw.1
  rw [hn] at hz0
  obtain ⟨Cn, T9, Nf9, hc9, hca9, hfs9⟩ := er_cls her
  rcases hlw.2.2 with ⟨hE, hz⟩ | ⟨b, hE, hbm, hNb, hN2, hN3, hel⟩
  · obtain rfl : a1 = g.2.2.2 := by rw [hE1] at hE; exact Option.some.inj hE
    rw [hn] at hz
    refine lv_iload_n hx hb dJx4a65c_add_72be8_0 rfl (lv_at hl 3 rfl) ?_
    refine lv_aload_n hx hb dJx4a65c_add_72be8_1 rfl (lv_at hl 2 rfl) ?_
    refine va_tlen (v := 0) hx hb C.2.2.2.2.1 hW.2.2.1 rfl dJx4a65c_add_72be8_2 ?_
    refine lv_icmp_ne (tgt := 11) hx hb dJx4a65c_add_72be8_3 (by decide) (fun c1 => ?_) (fun c1 => ?_)
    · have c1 : ¬ n.toInt = 0 := tne rfl kp0 c1
      exfalso; omega
    · have c1 : n.toInt = 0 := teq rfl kp0 c1
      refine lv_aload_n hx hb dJx4a65c_add_72be8_6 rfl (lv_at hl 0 rfl) ?_
      refine cq_ C hW (runV (x := (g.2.2.1 r)) (As := []) (rest := []) (T := ((J, L, I, P, E, N), sgX g ++ dy)) C hW (c_Jx4a65c_grow_d5877 l g J L I P E N dy H.size er r hlr her hlw (fun b0 hb1 hb2 => by rw [hE] at hb1; cases hb1; rw [hn]; exact absurd (C.2.2.2.2.1.out) (by have := (hW.2.1.2 _ _ (wdl_at (g := g) (S := (J, L, I, P, E, N)) (List.getElem?_of_mem (List.mem_append_right (sgX g) hb2)).choose_spec)); exact fun q => q this)) (by rw [hn]; exact hs9)) mi_Jx4a65c_grow_d5877 tw_179 (recv_ (T := ((J, L, I, P, E, N), sgX g ++ dy)) C hW (mxr hlr) (cel_list hlr) rfl) ⟨rfl, rfl, Nat.le_of_ble_eq_true rfl, Nat.le_of_ble_eq_true rfl⟩ rfl hl.1 rfl (Nat.le_of_ble_eq_true rfl) dJx4a65c_add_72be8_7 ⟨Nat.le_of_ble_eq_true rfl, Nat.le_of_ble_eq_true rfl⟩) (fun q2 u2 H locs hp2 hW => ?_)
      obtain ⟨rfl, hg1, hg2, hg3, hg4, hg5⟩ : q2 = some u2.2.1 ∧ (J r 2).toInt < (u2.2.2 : Int) ∧ u2.2.2 ≤ 20000 ∧ 10 ≤ u2.2.2 ∧ (∀ x ∈ dy, x.2 ≠ u2.2.1) ∧ (∀ k : Nat, (k : Int) < (J r 2).toInt → u2.1 (r + 10) k u2.2.1 = P (r + 10) k ((E r).getD 0)) := hp2
      rw [hn] at hg1 hg5
      have hW : WB g A s.heap H locs (J, L, I, (hv P [r + 10] [] u2.1), (up1 E r (some u2.2.1)), (up1 N u2.2.1 u2.2.2)) (sgX g ++ (dy ++ [(r + 10, u2.2.1)])) := hW
      refine lv_astore_n (lv' := [(2, .ref u2.2.1), (0, .ref (g.2.2.1 r)), (1, .ref a0), (3, .int n)]) hx hb dJx4a65c_add_72be8_10 rfl hl (by decide) rfl (fun ls hl => ?_)
      refine lv_aload_n hx hb dJx4a65c_add_72be8_11 rfl (lv_at hl 0 rfl) ?_
      refine lv_iload_n hx hb dJx4a65c_add_72be8_12 rfl (lv_at hl 3 rfl) ?_
      refine lv_aload_n hx hb dJx4a65c_add_72be8_13 rfl (lv_at hl 2 rfl) ?_
      obtain ⟨fs9, hf9⟩ := hfs9 g (J, L, I, (hv P [r + 10] [] u2.1), (up1 E r (some u2.2.1)), (up1 N u2.2.1 u2.2.2)) a0
      refine g_qast (er := er) C hW hlr (List.mem_append_right _ (List.mem_append_right _ (List.mem_singleton.mpr rfl))) (List.mem_append_right _ (List.mem_append_left _ hm0)) hf9 hc9 hca9 (tin rfl ⟨hz0, by rw [up1_s]; exact hg1⟩) dJx4a65c_add_72be8_14 (fun H locs hW => ?_)
      have hW : WB g A s.heap H locs (J, L, I, (up3 (hv P [r + 10] [] u2.1) (r + 10) n.toNatClampNeg u2.2.1 (some a0)), (up1 E r (some u2.2.1)), (up1 N u2.2.1 u2.2.2)) (sgX g ++ (dy ++ [(r + 10, u2.2.1)])) := hW
      refine lv_aload_n hx hb dJx4a65c_add_72be8_15 rfl (lv_at hl 1 rfl) ?_
      refine lv_iload_n hx hb dJx4a65c_add_72be8_16 rfl (lv_at hl 3 rfl) ?_
      refine lv_iconst (v := 1) hx hb dJx4a65c_add_72be8_17 (by decide) ?_
      refine lv_iadd hx hb dJx4a65c_add_72be8_18 ?_
      refine lv_topi (fun x3 (e3 : x3 = n + 1) => ?_)
      try have t3 : x3.toInt = n.toInt + 1 := tadd e3 rfl kp1 (by omega)
      refine lp_size C hW hlr (mxr hlr) tw_120 dJx4a65c_add_72be8_19 (fun H locs hW => ?_)
      have hW : WB g A s.heap H locs ((up2 J r 2 x3), L, I, (up3 (hv P [r + 10] [] u2.1) (r + 10) n.toNatClampNeg u2.2.1 (some a0)), (up1 E r (some u2.2.1)), (up1 N u2.2.1 u2.2.2)) (sgX g ++ (dy ++ [(r + 10, u2.2.1)])) := hW
      subst e3
      have hPe : (up3 (hv P [r + 10] [] u2.1) (r + 10) n.toNatClampNeg u2.2.1 (some a0)) = hv P [r + 10] [] (up3 (hv P [r + 10] [] u2.1) (r + 10) n.toNatClampNeg u2.2.1 (some a0)) := ag_hvE (J := P) (R := [r + 10]) (F := []) (ag_raw3 (nel_self _) (ag_hvP ag_rf))
      have hWr : WB g A s.heap H locs (up2 J r 2 (n + 1), L, I, hv P [r + 10] [] (up3 (hv P [r + 10] [] u2.1) (r + 10) n.toNatClampNeg u2.2.1 (some a0)), up1 E r (some u2.2.1), (up1 N u2.2.1 u2.2.2)) (sgX g ++ (dy ++ [(r + 10, u2.2.1)])) := by
        rw [← hPe]; exact hW
      have ht1 : (up2 J r 2 (n + 1) r 2).toInt = n.toInt + 1 := by rw [up2_s]; exact tadd rfl rfl kp1 (by omega)
      have hadd : ADDED g (up2 J r 2 (n + 1)) P E N dy r er n a0 (hv P [r + 10] [] (up3 (hv P [r + 10] [] u2.1) (r + 10) n.toNatClampNeg u2.2.1 (some a0))) (up1 E r (some u2.2.1)) (up1 N u2.2.1 u2.2.2) (dy ++ [(r + 10, u2.2.1)]) := by
        rw [← hPe]; exact added_grow hlw hn hg4 hg1 hg2 hg3 (by omega) (fun k hk => by show hv P [r + 10] [] u2.1 (r + 10) k _ = _; simp only [hv, nel_self]; exact hg5 k hk) hm0 ht1
      exact end_v C hr hlocks ((up3 (hv P [r + 10] [] u2.1) (r + 10) n.toNatClampNeg u2.2.1 (some a0)), some u2.2.1, (up1 N u2.2.1 u2.2.2), (dy ++ [(r + 10, u2.2.1)])) hWr hadd dJx4a65c_add_72be8_22
  · obtain rfl : a1 = b := by rw [hE1] at hE; exact Option.some.inj hE
    rw [hn] at hNb hel
    refine lv_iload_n hx hb dJx4a65c_add_72be8_0 rfl (lv_at hl 3 rfl) ?_
    refine lv_aload_n hx hb dJx4a65c_add_72be8_1 rfl (lv_at hl 2 rfl) ?_
    obtain ⟨x4, e4⟩ : ∃ y : Int32, y = Int32.ofNat (N a1) := ⟨_, rfl⟩
    have t4 : x4.toInt = (N a1 : Int) := by rw [e4]; exact Int32.toInt_ofNat_of_lt (by omega)
    refine g_alen (t0 := 3) C hW (List.mem_append_right _ hbm) (cel_back hlr) rfl e4.symm dJx4a65c_add_72be8_2 ?_
    refine lv_icmp_ne (tgt := 11) hx hb dJx4a65c_add_72be8_3 (by decide) (fun c5 => ?_) (fun c5 => ?_)
    · have c5 : ¬ n.toInt = x4.toInt := tne rfl rfl c5
      refine lv_aload_n hx hb dJx4a65c_add_72be8_11 rfl (lv_at hl 2 rfl) ?_
      refine lv_iload_n hx hb dJx4a65c_add_72be8_12 rfl (lv_at hl 3 rfl) ?_
      refine lv_aload_n hx hb dJx4a65c_add_72be8_13 rfl (lv_at hl 1 rfl) ?_
      obtain ⟨fs9, hf9⟩ := hfs9 g (J, L, I, P, E, N) a0
      refine g_qast (er := er) C hW hlr (List.mem_append_right _ hbm) (List.mem_append_right _ hm0) hf9 hc9 hca9 (tin rfl ⟨hz0, by omega⟩) dJx4a65c_add_72be8_14 (fun H locs hW => ?_)
      have hW : WB g A s.heap H locs (J, L, I, (up3 P (r + 10) n.toNatClampNeg a1 (some a0)), E, N) (sgX g ++ dy) := hW
      refine lv_aload_n hx hb dJx4a65c_add_72be8_15 rfl (lv_at hl 0 rfl) ?_
      refine lv_iload_n hx hb dJx4a65c_add_72be8_16 rfl (lv_at hl 3 rfl) ?_
      refine lv_iconst (v := 1) hx hb dJx4a65c_add_72be8_17 (by decide) ?_
      refine lv_iadd hx hb dJx4a65c_add_72be8_18 ?_
      refine lv_topi (fun x6 (e6 : x6 = n + 1) => ?_)
      try have t6 : x6.toInt = n.toInt + 1 := tadd e6 rfl kp1 (by omega)
      refine lp_size C hW hlr (mxr hlr) tw_120 dJx4a65c_add_72be8_19 (fun H locs hW => ?_)
      have hW : WB g A s.heap H locs ((up2 J r 2 x6), L, I, (up3 P (r + 10) n.toNatClampNeg a1 (some a0)), E, N) (sgX g ++ dy) := hW
      subst e6
      have hPe : (up3 P (r + 10) n.toNatClampNeg a1 (some a0)) = hv P [r + 10] [] (up3 P (r + 10) n.toNatClampNeg a1 (some a0)) := ag_hvE (J := P) (R := [r + 10]) (F := []) (ag_raw3 (nel_self _) ag_rf)
      have hEe := up1_id E r
      have hWr : WB g A s.heap H locs (up2 J r 2 (n + 1), L, I, hv P [r + 10] [] (up3 P (r + 10) n.toNatClampNeg a1 (some a0)), up1 E r (E r), N) (sgX g ++ dy) := by
        rw [← hPe, hEe]; exact hW
      have ht1 : (up2 J r 2 (n + 1) r 2).toInt = n.toInt + 1 := by rw [up2_s]; exact tadd rfl rfl kp1 (by omega)
      have hadd : ADDED g (up2 J r 2 (n + 1)) P E N dy r er n a0 (hv P [r + 10] [] (up3 P (r + 10) n.toNatClampNeg a1 (some a0))) (up1 E r (E r)) N dy := by
        rw [← hPe, hEe]; exact added_put (J := J) hE hbm ⟨hz0, by omega⟩ hN2 hN3 (by omega) hel hm0 ht1
      refine W.widen (k := 1) (n := 20000) (Nat.le_of_ble_eq_true rfl) (Nat.le_of_ble_eq_true rfl) ?_
      exact end_v C hr hlocks ((up3 P (r + 10) n.toNatClampNeg a1 (some a0)), E r, N, dy) hWr hadd dJx4a65c_add_72be8_22
    · have c5 : n.toInt = x4.toInt := teq rfl rfl c5
      refine lv_aload_n hx hb dJx4a65c_add_72be8_6 rfl (lv_at hl 0 rfl) ?_
      refine cq_ C hW (runV (x := (g.2.2.1 r)) (As := []) (rest := []) (T := ((J, L, I, P, E, N), sgX g ++ dy)) C hW (c_Jx4a65c_grow_d5877 l g J L I P E N dy H.size er r hlr her hlw (fun b0 hb1 hb2 => by rw [hE] at hb1; cases hb1; rw [hn]; omega) (by rw [hn]; exact hs9)) mi_Jx4a65c_grow_d5877 tw_179 (recv_ (T := ((J, L, I, P, E, N), sgX g ++ dy)) C hW (mxr hlr) (cel_list hlr) rfl) ⟨rfl, rfl, Nat.le_of_ble_eq_true rfl, Nat.le_of_ble_eq_true rfl⟩ rfl hl.1 rfl (Nat.le_of_ble_eq_true rfl) dJx4a65c_add_72be8_7 ⟨Nat.le_of_ble_eq_true rfl, Nat.le_of_ble_eq_true rfl⟩) (fun q7 u7 H locs hp7 hW => ?_)
      obtain ⟨rfl, hg1, hg2, hg3, hg4, hg5⟩ : q7 = some u7.2.1 ∧ (J r 2).toInt < (u7.2.2 : Int) ∧ u7.2.2 ≤ 20000 ∧ 10 ≤ u7.2.2 ∧ (∀ x ∈ dy, x.2 ≠ u7.2.1) ∧ (∀ k : Nat, (k : Int) < (J r 2).toInt → u7.1 (r + 10) k u7.2.1 = P (r + 10) k ((E r).getD 0)) := hp7
      rw [hn] at hg1 hg5
      have hW : WB g A s.heap H locs (J, L, I, (hv P [r + 10] [] u7.1), (up1 E r (some u7.2.1)), (up1 N u7.2.1 u7.2.2)) (sgX g ++ (dy ++ [(r + 10, u7.2.1)])) := hW
      refine lv_astore_n (lv' := [(2, .ref u7.2.1), (0, .ref (g.2.2.1 r)), (1, .ref a0), (3, .int n)]) hx hb dJx4a65c_add_72be8_10 rfl hl (by decide) rfl (fun ls hl => ?_)
      refine lv_aload_n hx hb dJx4a65c_add_72be8_11 rfl (lv_at hl 0 rfl) ?_
      refine lv_iload_n hx hb dJx4a65c_add_72be8_12 rfl (lv_at hl 3 rfl) ?_
      refine lv_aload_n hx hb dJx4a65c_add_72be8_13 rfl (lv_at hl 2 rfl) ?_
      obtain ⟨fs9, hf9⟩ := hfs9 g (J, L, I, (hv P [r + 10] [] u7.1), (up1 E r (some u7.2.1)), (up1 N u7.2.1 u7.2.2)) a0
      refine g_qast (er := er) C hW hlr (List.mem_append_right _ (List.mem_append_right _ (List.mem_singleton.mpr rfl))) (List.mem_append_right _ (List.mem_append_left _ hm0)) hf9 hc9 hca9 (tin rfl ⟨hz0, by rw [up1_s]; exact hg1⟩) dJx4a65c_add_72be8_14 (fun H locs hW => ?_)
      have hW : WB g A s.heap H locs (J, L, I, (up3 (hv P [r + 10] [] u7.1) (r + 10) n.toNatClampNeg u7.2.1 (some a0)), (up1 E r (some u7.2.1)), (up1 N u7.2.1 u7.2.2)) (sgX g ++ (dy ++ [(r + 10, u7.2.1)])) := hW
      refine lv_aload_n hx hb dJx4a65c_add_72be8_15 rfl (lv_at hl 1 rfl) ?_
      refine lv_iload_n hx hb dJx4a65c_add_72be8_16 rfl (lv_at hl 3 rfl) ?_
      refine lv_iconst (v := 1) hx hb dJx4a65c_add_72be8_17 (by decide) ?_
      refine lv_iadd hx hb dJx4a65c_add_72be8_18 ?_
      refine lv_topi (fun x8 (e8 : x8 = n + 1) => ?_)
      try have t8 : x8.toInt = n.toInt + 1 := tadd e8 rfl kp1 (by omega)
      refine lp_size C hW hlr (mxr hlr) tw_120 dJx4a65c_add_72be8_19 (fun H locs hW => ?_)
      have hW : WB g A s.heap H locs ((up2 J r 2 x8), L, I, (up3 (hv P [r + 10] [] u7.1) (r + 10) n.toNatClampNeg u7.2.1 (some a0)), (up1 E r (some u7.2.1)), (up1 N u7.2.1 u7.2.2)) (sgX g ++ (dy ++ [(r + 10, u7.2.1)])) := hW
      subst e8
      have hPe : (up3 (hv P [r + 10] [] u7.1) (r + 10) n.toNatClampNeg u7.2.1 (some a0)) = hv P [r + 10] [] (up3 (hv P [r + 10] [] u7.1) (r + 10) n.toNatClampNeg u7.2.1 (some a0)) := ag_hvE (J := P) (R := [r + 10]) (F := []) (ag_raw3 (nel_self _) (ag_hvP ag_rf))
      have hWr : WB g A s.heap H locs (up2 J r 2 (n + 1), L, I, hv P [r + 10] [] (up3 (hv P [r + 10] [] u7.1) (r + 10) n.toNatClampNeg u7.2.1 (some a0)), up1 E r (some u7.2.1), (up1 N u7.2.1 u7.2.2)) (sgX g ++ (dy ++ [(r + 10, u7.2.1)])) := by
        rw [← hPe]; exact hW
      have ht1 : (up2 J r 2 (n + 1) r 2).toInt = n.toInt + 1 := by rw [up2_s]; exact tadd rfl rfl kp1 (by omega)
      have hadd : ADDED g (up2 J r 2 (n + 1)) P E N dy r er n a0 (hv P [r + 10] [] (up3 (hv P [r + 10] [] u7.1) (r + 10) n.toNatClampNeg u7.2.1 (some a0))) (up1 E r (some u7.2.1)) (up1 N u7.2.1 u7.2.2) (dy ++ [(r + 10, u7.2.1)]) := by
        rw [← hPe]; exact added_grow hlw hn hg4 hg1 hg2 hg3 (by omega) (fun k hk => by show hv P [r + 10] [] u7.1 (r + 10) k _ = _; simp only [hv, nel_self]; exact hg5 k hk) hm0 ht1
      exact end_v C hr hlocks ((up3 (hv P [r + 10] [] u7.1) (r + 10) n.toNatClampNeg u7.2.1 (some a0)), some u7.2.1, (up1 N u7.2.1 u7.2.2), (dy ++ [(r + 10, u7.2.1)])) hWr hadd dJx4a65c_add_72be8_22

set_option maxHeartbeats 4000000 in
set_option maxRecDepth 100000 in
theorem c_Jx4a65c_add_9ea2d (l : Launch) (g : gG) (J : Nat → Nat → Int32) (L : Nat → Nat → Int64) (I : Nat → Nat → Nat → Int32) (P : Nat → Nat → Nat → Option Nat) (E : Nat → Option Nat) (N : Nat → Nat) (dy : List (Nat × Nat)) (sz : Nat) (er r : Nat) (hlr : nel r lroles = true) (her : nel er eroles = true) (a0 : Nat) (hm0 : (er, a0) ∈ dy) (hlw : LWF g J P E N dy r er) (hs9 : (J r 2).toInt ≤ 9999) : Met l yJx4a65c_add_9ea2d (WS yJx4a65c_add_9ea2d cJx4a65c_add_9ea2d 2 (some .boolean)) (RM (7) 1 20000) (PC g [.ref (g.2.2.1 r), .ref a0] ((J, L, I, P, E, N), sgX g ++ dy) sz) (va_Qi (fun (r9 : Int32) (u : Int32 × (Nat → Nat → Nat → Option Nat) × Option Nat × (Nat → Nat) × List (Nat × Nat)) => r9.toInt = 1 ∧ ADDED g (up2 (up2 J r 0 u.1) r 2 (J r 2 + 1)) P E N dy r er (J r 2) a0 (hv P [r + 10] [] u.2.1) (up1 E r u.2.2.1) u.2.2.2.1 u.2.2.2.2) (fun u t => at_ g (FR g ((J, L, I, P, E, N), sgX g ++ dy) sz) (((up2 (up2 J r 0 u.1) r 2 (J r 2 + 1), L, I, hv P [r + 10] [] u.2.1, up1 E r u.2.2.1, u.2.2.2.1), sgX g ++ u.2.2.2.2)) t) (FR g ((J, L, I, P, E, N), sgX g ++ dy) sz)) 1 20000 (FR g ((J, L, I, P, E, N), sgX g ++ dy) sz) := by
  refine ent (by decide +kernel) (Nat.le_of_ble_eq_true rfl) ?_
  intro p e s m below meth c ls hsz C hW hr hlocks hname hl
  generalize FR g ((J, L, I, P, E, N), sgX g ++ dy) sz = A at C hW ⊢
  have hx := C.1.1
  have hb := C.1.2.1
  have hts := C.1.2.2.2.2
  have hl : lv_has ls 2 [(0, .ref (g.2.2.1 r)), (1, .ref a0)] := hl
  obtain ⟨H, hH⟩ : ∃ H : Heap, H = s.heap := ⟨_, rfl⟩
  obtain ⟨locs, hlocs⟩ : ∃ q : List Loc, q = [] := ⟨_, rfl⟩
  have hW : WB g A s.heap H locs (J, L, I, P, E, N) (sgX g ++ dy) := by rw [hH, hlocs]; exact hW
  obtain ⟨ro, hE⟩ : ∃ ro : Nat, E r = some ro := by
    rcases hlw.2.2 with ⟨h, -⟩ | ⟨b, h, -⟩ <;> exact ⟨_, h⟩
  refine start_ hH hlocs ?_
  refine lv_aload_n hx hb dJx4a65c_add_9ea2d_0 rfl (lv_at hl 0 rfl) ?_
  refine lv_dup hx hb dJx4a65c_add_9ea2d_1 rfl ?_
  refine lg_mod C hW hlr (mxr hlr) tw_122 dJx4a65c_add_9ea2d_2 ?_
  refine lv_iconst (v := 1) hx hb dJx4a65c_add_9ea2d_5 (by decide) ?_
  refine lv_iadd hx hb dJx4a65c_add_9ea2d_6 ?_
  refine lv_topi (fun x1 (e1 : x1 = (J r 0) + 1) => ?_)
  refine lp_mod C hW hlr (mxr hlr) tw_122 dJx4a65c_add_9ea2d_7 (fun H locs hW => ?_)
  have hW : WB g A s.heap H locs ((up2 J r 0 x1), L, I, P, E, N) (sgX g ++ dy) := hW
  refine lv_aload_n hx hb dJx4a65c_add_9ea2d_10 rfl (lv_at hl 0 rfl) ?_
  refine lv_aload_n hx hb dJx4a65c_add_9ea2d_11 rfl (lv_at hl 1 rfl) ?_
  refine lv_aload_n hx hb dJx4a65c_add_9ea2d_12 rfl (lv_at hl 0 rfl) ?_
  refine lg_elem C hW hlr (mxr hlr) tw_119 dJx4a65c_add_9ea2d_13 ?_
  refine lv_asv (v' := .ref ro) (by rw [hE]; rfl) ?_
  refine lv_aload_n hx hb dJx4a65c_add_9ea2d_16 rfl (lv_at hl 0 rfl) ?_
  refine lg_size C hW hlr (mxr hlr) tw_120 dJx4a65c_add_9ea2d_17 ?_
  refine lv_as (J r 2) (up2_f _ _ _ (by decide)) ?_
  refine cv_ C hW (runV (x := (g.2.2.1 r)) (As := [.ref a0, .ref ro, .int (J r 2)]) (rest := []) (T := (((up2 J r 0 x1), L, I, P, E, N), sgX g ++ dy)) C hW (c_Jx4a65c_add_72be8 l g (up2 J r 0 x1) L I P E N dy H.size er r hlr her a0 ro (J r 2) hm0 (LWF.J (up2_f _ _ _ (by decide)) hlw) hE (up2_f _ _ _ (by decide)) hs9) mi_Jx4a65c_add_72be8 tw_175 (recv_ (T := (((up2 J r 0 x1), L, I, P, E, N), sgX g ++ dy)) C hW (mxr hlr) (cel_list hlr) rfl) ⟨rfl, rfl, Nat.le_of_ble_eq_true rfl, Nat.le_of_ble_eq_true rfl⟩ rfl hl.1 rfl (Nat.le_of_ble_eq_true rfl) dJx4a65c_add_9ea2d_20 ⟨Nat.le_of_ble_eq_true rfl, Nat.le_of_ble_eq_true rfl⟩) (fun u2 H locs hp2 hW => ?_)
  have hadd : ADDED g (up2 (up2 J r 0 x1) r 2 (J r 2 + 1)) P E N dy r er (J r 2) a0 (hv P [r + 10] [] u2.1) (up1 E r u2.2.1) u2.2.2.1 u2.2.2.2 := hp2
  refine lv_iconst (v := 1) hx hb dJx4a65c_add_9ea2d_23 (by decide) ?_
  exact end_z C hr hlocks (Or.inr rfl) (x1, u2) hW ⟨by decide, hadd⟩ dJx4a65c_add_9ea2d_24
