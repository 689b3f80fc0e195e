section CALLS
variable {p : Program} {l : Launch} {e : Env} {R : Room} {s : State} {m : MethodId} {args : Array Value} {below : List Frame} {meth : Method} {c : Code} {H : Heap} {locs : List Loc} {cells slots : Nat} {Q : State → Prop}
variable {pc : Nat} {ls : Array Slot} {rest : List Value} {cc : ByteArray} {nL : Nat} {own : String} {g : gG} {A : Nat → Prop} {ds : List (Nat × Nat)} {index : Nat} {a : Nat}
variable {J : Nat → Nat → Int32} {L : Nat → Nat → Int64} {I : Nat → Nat → Nat → Int32} {P : Nat → Nat → Nat → Option Nat} {E : Nat → Option Nat} {N : Nat → Nat} {S : sS}

theorem ent {y : MethodName} {ret : Option FieldType} {maxL : Nat} {rm : Room} {Qc : Array Value → State → Outcome → State → Prop} {mc ms sz : Nat} {av : List Value} {T : sT} (hy : plainName y.cls = true) (hle : (lg_sl av).length ≤ maxL)
    (body : ∀ (p : Program) (e : Env) (s : State) (m : MethodId) (below : List Frame) (meth : Method) (c : Code) (ls : Array Slot), s.heap.size = sz → CC g (FR g T sz) p m c cc maxL s av.toArray y.cls → WB g (FR g T sz) s.heap s.heap [] T.1 T.2 → meth.sig.returnType = ret → meth.locks = false → meth.name = y.name → lv_has ls maxL (lv_args 0 av) → W p l e rm s m av.toArray below meth c s.heap [] 0 0 (MQ below Qc av.toArray s mc ms (FR g T sz)) (F0 m 0 ls [])) :
    Met l y (WS y cc maxL ret) rm (PC g av T sz) Qc mc ms (FR g T sz) := by
  refine Met.ofW (cc := cc) (maxL := maxL) (ret := ret) hy rfl ?_
  intro p e s m args below meth c s₁ B hml hv
  obtain ⟨rfl, hsz, ⟨hP, hK, hD, hO⟩, hZ⟩ := hv
  have hts0 := atoms_spec (ws := WS y cc maxL ret) B.pre
  have hts : ∀ w ∈ lw_t2, w.before av.toArray s = true := fun w h => hts0 w (List.mem_cons_of_mem _ h)
  rw [lg_entry_eq]
  exact body p e s m below meth c _ hsz ⟨⟨B.exec, B.bytes, hml, findClass_of_methodNamed B.named, hts⟩, hK, fun q h => Or.inr (hsz ▸ h), hZ⟩ ⟨hP, hD.self, va_S.rf, hO⟩ B.returns B.notSynchronized (name_of_methodNamed B.named B.method).1 (lv_entry av hle)
theorem end_i {U : Type} {post : Int32 → U → Prop} {st : U → sT} {v : Int32} (C : CC g A p m c cc nL s args own) (hr : meth.sig.returnType = some .int) (hlocks : meth.locks = false) (u : U) (hW : WB g A s.heap H locs (st u).1 (st u).2) (hp : post v u) (hdg : decode cc pc = .ok (.ireturn, 1)) : W p l e R s m args below meth c H locs cells slots (MQ below (va_Qi post (fun u t => at_ g A (st u) t) A) args s cells slots A) (F0 m pc ls [.int v]) :=
  W.iret C.1.1 C.1.2.1 hr (fun t ht hw => ⟨⟨v, u, rfl, hp, by rw [ht]; exact hW.1, va_K.moved hw.alike C.2.1, hW.2.1, hW.2.2.2⟩, hW.2.2.1.F ht⟩) hW.2.2.1.2.2 hdg hlocks
theorem end_z {U : Type} {post : Int32 → U → Prop} {st : U → sT} {v : Int32} (C : CC g A p m c cc nL s args own) (hr : meth.sig.returnType = some .boolean) (hlocks : meth.locks = false) (hz : v = 0 ∨ v = 1) (u : U) (hW : WB g A s.heap H locs (st u).1 (st u).2) (hp : post v u) (hdg : decode cc pc = .ok (.ireturn, 1)) : W p l e R s m args below meth c H locs cells slots (MQ below (va_Qi post (fun u t => at_ g A (st u) t) A) args s cells slots A) (F0 m pc ls [.int v]) :=
  W.zret C.1.1 C.1.2.1 hr (by rcases hz with rfl | rfl <;> decide) (fun t ht hw => ⟨⟨v, u, rfl, hp, by rw [ht]; exact hW.1, va_K.moved hw.alike C.2.1, hW.2.1, hW.2.2.2⟩, hW.2.2.1.F ht⟩) hW.2.2.1.2.2 hdg hlocks
theorem end_l {U : Type} {post : Int64 → U → Prop} {st : U → sT} {v : Int64} (C : CC g A p m c cc nL s args own) (hr : meth.sig.returnType = some .long) (hlocks : meth.locks = false) (u : U) (hW : WB g A s.heap H locs (st u).1 (st u).2) (hp : post v u) (hdg : decode cc pc = .ok (.lreturn, 1)) : W p l e R s m args below meth c H locs cells slots (MQ below (va_Ql post (fun u t => at_ g A (st u) t) A) args s cells slots A) (F0 m pc ls [.long v]) :=
  W.lret C.1.1 C.1.2.1 hr (fun t ht hw => ⟨⟨v, u, rfl, hp, by rw [ht]; exact hW.1, va_K.moved hw.alike C.2.1, hW.2.1, hW.2.2.2⟩, hW.2.2.1.F ht⟩) hW.2.2.1.2.2 hdg hlocks
theorem end_v {U : Type} {post : U → Prop} {st : U → sT} (C : CC g A p m c cc nL s args own) (hr : meth.sig.returnType = none) (hlocks : meth.locks = false) (u : U) (hW : WB g A s.heap H locs (st u).1 (st u).2) (hp : post u) (hdg : decode cc pc = .ok (.return_, 1)) : W p l e R s m args below meth c H locs cells slots (MQ below (va_Qv post (fun u t => at_ g A (st u) t) A) args s cells slots A) (F0 m pc ls []) :=
  W.vret C.1.1 C.1.2.1 hr (fun t ht hw => ⟨⟨u, rfl, hp, by rw [ht]; exact hW.1, va_K.moved hw.alike C.2.1, hW.2.1, hW.2.2.2⟩, hW.2.2.1.F ht⟩) hW.2.2.1.2.2 hdg hlocks
theorem end_q {U : Type} {post : Option Nat → U → Prop} {st : U → sT} {v : Option Nat} {rt : FieldType} (C : CC g A p m c cc nL s args own) (hr : meth.sig.returnType = some rt) (hrt : (∃ n, rt = .object n) ∨ ∃ t, rt = .array t) (hlocks : meth.locks = false) (u : U) (hW : WB g A s.heap H locs (st u).1 (st u).2) (hp : post v u) (hdg : decode cc pc = .ok (.areturn, 1)) : W p l e R s m args below meth c H locs cells slots (MQ below (va_Qq post (fun u t => at_ g A (st u) t) A) args s cells slots A) (F0 m pc ls [va_rf v]) :=
  W.aret C.1.1 C.1.2.1 hr hrt (by cases v with | none => exact Or.inl rfl | some x => exact Or.inr ⟨x, rfl⟩) (fun t ht hw => ⟨⟨v, u, rfl, hp, by rw [ht]; exact hW.1, va_K.moved hw.alike C.2.1, hW.2.1, hW.2.2.2⟩, hW.2.2.1.F ht⟩) hW.2.2.1.2.2 hdg hlocks
/-- what the tables say of a method: MV an instance's, MS a static one, MI a constructor -/
def MW (y : MethodName) (b : ByteArray) (n : Nat) (ret : Option FieldType) (k : Nat) : Prop := (.code y b n ret : Cond) ∈ lw_t2 ∧ (.initialized y.cls : Cond) ∈ lw_t2 ∧ (y.cls ≠ "java/lang/invoke/MethodHandle" ∧ y.cls ≠ "java/lang/invoke/VarHandle" ∧ (parseMethodDescriptor y.desc).map (fun d => d.parameters.length) = some k)
def MV (y : MethodName) (b : ByteArray) (n : Nat) (ret : Option FieldType) (k : Nat) : Prop := MW y b n ret k ∧ (.instanceMethod y : Cond) ∈ lw_t2 ∧ (.selects y.cls y y : Cond) ∈ lw_t2
def MS (y : MethodName) (b : ByteArray) (n : Nat) (ret : Option FieldType) (k : Nat) : Prop := MW y b n ret k ∧ (.static y : Cond) ∈ lw_t2
def MI (y : MethodName) (b : ByteArray) (n : Nat) (k : Nat) : Prop := MW y b n none k ∧ (.instanceMethod y : Cond) ∈ lw_t2 ∧ y.name = "<init>"
theorem good_WS {y : MethodName} {b : ByteArray} {n k : Nat} {ret : Option FieldType} (h : MW y b n ret k) : GoodIn lw_t2 (WS y b n ret) := fun w hw => by
  rcases List.mem_cons.mp hw with rfl | h'
  · exact ⟨h.1, t2_good _ h.1⟩
  · exact ⟨h', t2_good _ h'⟩
theorem gi_mem {w : Cond} {ws : List Cond} (h : w ∈ lw_t2) (hg : GoodIn lw_t2 ws) : GoodIn lw_t2 (w :: ws) := fun v hv => by
  rcases List.mem_cons.mp hv with rfl | h'
  · exact ⟨h, t2_good _ h⟩
  · exact hg v h'
theorem frsub {T : sT} (C : CC g A p m c cc nL s args own) (hW : WB g A s.heap H locs T.1 T.2) : ∀ q, FR g T H.size q → A q := by
  intro q h
  rcases h with ⟨k, e, h⟩ | h
  · exact hW.2.1.2 k _ h
  · exact C.2.2.1 q (Nat.le_trans hW.2.2.1.1 h)
theorem zs_to {T : sT} {U : State} (C : CC g A p m c cc nL s args own) (hW : WB g A s.heap H locs T.1 T.2) (hU : U.heap = H) (hw : s.WarmedH U.vm) : Zs g (FR g T H.size) U U.heap := by
  have h1 := C.2.2.2
  have hk : ∀ a : Nat, a < s.heap.size → ¬ A a → H[a]? = s.heap[a]? := hW.2.2.1.2.1
  rw [hU]
  exact ⟨((h1.1.kept hk).moved hw.alike).narrow (frsub C hW), ((h1.2.1.kept hk).moved hw.alike).narrow (frsub C hW), h1.2.2.warm hw⟩
theorem pc_to {T : sT} {av : List Value} (C : CC g A p m c cc nL s args own) (hW : WB g A s.heap H locs T.1 T.2) : ∀ U : State, U.heap = H → s.WarmedH U.vm → PC g av T H.size av.toArray U := fun U hU hw =>
  ⟨rfl, by rw [hU], ⟨by rw [hU]; exact hW.1, va_K.moved hw.alike C.2.1, hW.2.1.weaken (fun _ _ _ _ => trivial), hW.2.2.2⟩, zs_to C hW hU hw⟩
theorem pc_blind {T : sT} {av : List Value} {sz : Nat} : FrameBlind (PC g av T sz) := fun a U gf mk q => by
  obtain ⟨q0, q1, ⟨qP, qK, qD, qO⟩, qZ1, qZ2, qZ3⟩ := q
  exact ⟨q0, q1, ⟨qP, va_K.moved (u := U) (U := U.calling gf mk a) (Vm.Alike.refl U.vm) qK, qD, qO⟩, va_Z.moved (u := U) (U := U.calling gf mk a) (Vm.Alike.refl U.vm) qZ1, va_T.moved (u := U) (U := U.calling gf mk a) (Vm.Alike.refl U.vm) qZ2, NB.same (s := U) (U := U.calling gf mk a) rfl qZ3⟩
def RMok (R rm : Room) (maxL mc ms : Nat) : Prop := rm.cells = mc ∧ rm.slots = ms ∧ rm.frames + 1 ≤ R.frames ∧ 8 + (maxL + 11) + rm.locals ≤ R.locals
variable {y : MethodName} {b : ByteArray} {mL k mc ms : Nat} {ret : Option FieldType} {rm : Room} {Qc : Array Value → State → Outcome → State → Prop} {As : List Value} {T : sT} {st0 : List Value} {x : Nat}
theorem recv_ {r : Nat} (C : CC g A p m c cc nL s args own) (hW : WB g A s.heap H locs T.1 T.2) (hm : (r, x) ∈ T.2) {ci Nf : Nat} {fs : List Value} {Cn : String} {Tt : u_T} (hcel : cel g T.1 r x = .inr (ci, fs)) (hc : vwCl[ci]? = some (Cn, Tt, Nf)) : ∃ cellB : Cell, H[x]? = some cellB ∧ cellB.vm.isStatics = false ∧ s.vm.findClass Cn = some cellB.cls := by
  obtain ⟨i, hi⟩ := List.getElem?_of_mem hm
  have hq := wdl_at (g := g) (S := T.1) hi
  rw [hcel] at hq
  exact va_recv C.2.1 hW.1 hc hq
theorem runV (C : CC g A p m c cc nL s args own) (hW : WB g A s.heap H locs T.1 T.2) (hM : Met l y (WS y b mL ret) rm (PC g (.ref x :: As) T H.size) Qc mc ms (FR g T H.size)) (mi : MV y b mL ret k) (hl : Cond.methodLink own index y ∈ lw_t2) (hb : ∃ cellB : Cell, H[x]? = some cellB ∧ cellB.vm.isStatics = false ∧ s.vm.findClass y.cls = some cellB.cls) (hR : RMok R rm mL mc ms) (hn : As.length = k) (hls : ls.size = nL) (hst : st0 = As.reverse ++ .ref x :: rest) (hcat : (rest.map fun v => v.category).sum ≤ 8) (hdg : decode cc pc = .ok (.invokevirtual index, 3)) (hf : cells + mc ≤ R.cells ∧ slots + ms ≤ R.slots) : va_Run p l e R s m args below meth c H locs cells slots mc ms (F0 m pc ls st0) rest (Qc (Value.ref x :: As).toArray) (FR g T H.size) :=
  va_runV (As := As) (rest := rest) C.1 hM (cwV k C.1.2.2.2.2 (gi_mem hl (gi_mem mi.2.1 (gi_mem mi.2.2 (gi_mem mi.1.2.1 (good_WS mi.1))))) rfl hR.1 hR.2.1 ⟨rfl, mi.1.2.2⟩ hR.2.2) ⟨pc_blind, hb, pc_to C hW⟩ rfl hn hls hst (lv_room hcat) hdg hf
theorem runS (C : CC g A p m c cc nL s args own) (hW : WB g A s.heap H locs T.1 T.2) (hM : Met l y (WS y b mL ret) rm (PC g As T H.size) Qc mc ms (FR g T H.size)) (mi : MS y b mL ret k) (hl : Cond.methodLink own index y ∈ lw_t2) (hR : RMok R rm mL mc ms) (hn : As.length = k) (hls : ls.size = nL) (hst : st0 = As.reverse ++ rest) (hcat : (rest.map fun v => v.category).sum ≤ 8) (hdg : decode cc pc = .ok (.invokestatic index, 3)) (hf : cells + mc ≤ R.cells ∧ slots + ms ≤ R.slots) : va_Run p l e R s m args below meth c H locs cells slots mc ms (F0 m pc ls st0) rest (Qc As.toArray) (FR g T H.size) :=
  va_runS (As := As) (rest := rest) C.1 hM (va_cwS k C.1.2.2.2.2 (gi_mem hl (gi_mem mi.2 (gi_mem mi.1.2.1 (good_WS mi.1)))) rfl hR.1 hR.2.1 mi.1.2.2 hR.2.2) ⟨pc_blind, pc_to C hW⟩ rfl hn hls hst (lv_room hcat) hdg hf
theorem runI (C : CC g A p m c cc nL s args own) (hW : WB g A s.heap H locs T.1 T.2) (hM : Met l y (WS y b mL none) rm (PC g (.ref x :: As) T H.size) Qc mc ms (FR g T H.size)) (mi : MI y b mL k) (hl : Cond.methodLink own index y ∈ lw_t2) (hR : RMok R rm mL mc ms) (hn : As.length = k) (hls : ls.size = nL) (hst : st0 = As.reverse ++ .ref x :: rest) (hcat : (rest.map fun v => v.category).sum ≤ 8) (hdg : decode cc pc = .ok (.invokespecial index, 3)) (hf : cells + mc ≤ R.cells ∧ slots + ms ≤ R.slots) : va_Run p l e R s m args below meth c H locs cells slots mc ms (F0 m pc ls st0) rest (Qc (Value.ref x :: As).toArray) (FR g T H.size) :=
  va_runI (As := As) (rest := rest) C.1 hM (cwI k C.1.2.2.2.2 (good_WS mi.1) rfl hR.1 hR.2.1 (C.1.2.2.2.2 _ mi.1.2.1) (C.1.2.2.2.2 _ hl) (C.1.2.2.2.2 _ mi.2.1) mi.2.2 mi.1.2.2 hR.2.2) ⟨pc_blind, pc_to C hW⟩ rfl hn hls hst (lv_room hcat) hdg hf
theorem runSN {host : String} (C : CC g A p m c cc nL s args own) (hW : WB g A s.heap H locs T.1 T.2) (hM : Met l y (WS y b mL ret) rm (PC g As T H.size) Qc mc ms (FR g T H.size)) (mi : MS y b mL ret k) (hl : (own, index, y, host) ∈ nbM) (hR : RMok R rm mL mc ms) (hn : As.length = k) (hls : ls.size = nL) (hst : st0 = As.reverse ++ rest) (hcat : (rest.map fun v => v.category).sum ≤ 8) (hdg : decode cc pc = .ok (.invokestatic index, 3)) (hf : cells + mc ≤ R.cells ∧ slots + ms ≤ R.slots) : va_Run p l e R s m args below meth c H locs cells slots mc ms (F0 m pc ls st0) rest (Qc As.toArray) (FR g T H.size) :=
  va_runSN (host := host) (As := As) (rest := rest) C.1 hM ⟨va_cnB k C.1.2.2.2.2 (good_WS mi.1) rfl hR.1 hR.2.1 (C.2.2.2.2.2.1 _ hl) (C.1.2.2.2.2 _ mi.1.2.1) mi.1.2.2 hR.2.2, C.1.2.2.2.2 _ mi.2, trivial⟩ ⟨pc_blind, pc_to C hW⟩ rfl hn hls hst (lv_room hcat) hdg hf
theorem back_ {t : State} {H1 : Heap} {locs1 : List Loc} {T1 : sT} (C : CC g A p m c cc nL s args own) (hW : WB g A s.heap H locs T.1 T.2) (ht : t.heap = H1) (hB : at_ g (FR g T H.size) T1 t) (hS : va_S A s.heap H1 locs1) : WB g A s.heap H1 locs1 T1.1 T1.2 :=
  ⟨ht ▸ hB.1, hB.2.2.1.weaken (fun _ q _ h => frsub C hW q.1 h), hS, hB.2.2.2⟩
theorem ci_ {U : Type} {post : Int32 → U → Prop} {st : U → sT} {a0 : Array Value} (C : CC g A p m c cc nL s args own) (hW : WB g A s.heap H locs T.1 T.2) (hr : va_Run p l e R s m args below meth c H locs cells slots mc ms (F0 m pc ls st0) rest (va_Qi post (fun u t => at_ g (FR g T H.size) (st u) t) (FR g T H.size) a0) (FR g T H.size))
    (kk : ∀ (r : Int32) (u : U) (H1 : Heap) (locs1 : List Loc), post r u → WB g A s.heap H1 locs1 (st u).1 (st u).2 → W p l e R s m args below meth c H1 locs1 (cells + mc) (slots + ms) Q (F0 m (pc + 3) ls (.int r :: rest))) : W p l e R s m args below meth c H locs cells slots Q (F0 m pc ls st0) :=
  va_calli hr hW.2.2.1 (fun q _ h => frsub C hW q h) (frsub C hW) (fun r u t H1 locs1 ht _ hp hB _ _ hS => kk r u H1 locs1 hp (back_ C hW ht hB hS))
theorem cl_ {U : Type} {post : Int64 → U → Prop} {st : U → sT} {a0 : Array Value} (C : CC g A p m c cc nL s args own) (hW : WB g A s.heap H locs T.1 T.2) (hr : va_Run p l e R s m args below meth c H locs cells slots mc ms (F0 m pc ls st0) rest (va_Ql post (fun u t => at_ g (FR g T H.size) (st u) t) (FR g T H.size) a0) (FR g T H.size))
    (kk : ∀ (r : Int64) (u : U) (H1 : Heap) (locs1 : List Loc), post r u → WB g A s.heap H1 locs1 (st u).1 (st u).2 → W p l e R s m args below meth c H1 locs1 (cells + mc) (slots + ms) Q (F0 m (pc + 3) ls (.long r :: rest))) : W p l e R s m args below meth c H locs cells slots Q (F0 m pc ls st0) :=
  va_calll hr hW.2.2.1 (fun q _ h => frsub C hW q h) (frsub C hW) (fun r u t H1 locs1 ht _ hp hB _ _ hS => kk r u H1 locs1 hp (back_ C hW ht hB hS))
theorem cv_ {U : Type} {post : U → Prop} {st : U → sT} {a0 : Array Value} (C : CC g A p m c cc nL s args own) (hW : WB g A s.heap H locs T.1 T.2) (hr : va_Run p l e R s m args below meth c H locs cells slots mc ms (F0 m pc ls st0) rest (va_Qv post (fun u t => at_ g (FR g T H.size) (st u) t) (FR g T H.size) a0) (FR g T H.size))
    (kk : ∀ (u : U) (H1 : Heap) (locs1 : List Loc), post u → WB g A s.heap H1 locs1 (st u).1 (st u).2 → W p l e R s m args below meth c H1 locs1 (cells + mc) (slots + ms) Q (F0 m (pc + 3) ls rest)) : W p l e R s m args below meth c H locs cells slots Q (F0 m pc ls st0) :=
  va_callv hr hW.2.2.1 (fun q _ h => frsub C hW q h) (frsub C hW) (fun u t H1 locs1 ht _ hp hB _ _ hS => kk u H1 locs1 hp (back_ C hW ht hB hS))
theorem cq_ {U : Type} {post : Option Nat → U → Prop} {st : U → sT} {a0 : Array Value} (C : CC g A p m c cc nL s args own) (hW : WB g A s.heap H locs T.1 T.2) (hr : va_Run p l e R s m args below meth c H locs cells slots mc ms (F0 m pc ls st0) rest (va_Qq post (fun u t => at_ g (FR g T H.size) (st u) t) (FR g T H.size) a0) (FR g T H.size))
    (kk : ∀ (r : Option Nat) (u : U) (H1 : Heap) (locs1 : List Loc), post r u → WB g A s.heap H1 locs1 (st u).1 (st u).2 → W p l e R s m args below meth c H1 locs1 (cells + mc) (slots + ms) Q (F0 m (pc + 3) ls (va_rf r :: rest))) : W p l e R s m args below meth c H locs cells slots Q (F0 m pc ls st0) :=
  va_callq hr hW.2.2.1 (fun q _ h => frsub C hW q h) (frsub C hW) (fun r u t H1 locs1 ht _ hp hB _ _ hS => kk r u H1 locs1 hp (back_ C hW ht hB hS))
end CALLS
theorem mi_J13_bitCount_95d88 : MS yJ13_bitCount_95d88 cJ13_bitCount_95d88 2 (some .int) 1 := ⟨⟨tw_919, tw_89, by decide +kernel, by decide +kernel, by decide +kernel⟩, tw_918⟩
theorem mi_J15_checkIndex_7cf53 : MS yJ15_checkIndex_7cf53 cJ15_checkIndex_7cf53 2 (some .int) 2 := ⟨⟨tw_477, tw_82, by decide +kernel, by decide +kernel, by decide +kernel⟩, tw_476⟩
theorem mi_J3_checkIndex_8e157 : MS yJ3_checkIndex_8e157 cJ3_checkIndex_8e157 3 (some .int) 3 := ⟨⟨tw_480, tw_83, by decide +kernel, by decide +kernel, by decide +kernel⟩, tw_479⟩
theorem mi_J6_bitCount_0f7a4 : MS yJ6_bitCount_0f7a4 cJ6_bitCount_0f7a4 1 (some .int) 1 := ⟨⟨tw_866, tw_88, by decide +kernel, by decide +kernel, by decide +kernel⟩, tw_865⟩
theorem mi_J7_copyOf_1904c : MS yJ7_copyOf_1904c cJ7_copyOf_1904c 2 (some (.array (.object "java/lang/Object"))) 2 := ⟨⟨tw_199, tw_75, by decide +kernel, by decide +kernel, by decide +kernel⟩, tw_198⟩
theorem mi_J7_copyOf_59c91 : MS yJ7_copyOf_59c91 cJ7_copyOf_59c91 3 (some (.array .int)) 2 := ⟨⟨tw_785, tw_75, by decide +kernel, by decide +kernel, by decide +kernel⟩, tw_784⟩
theorem mi_J7_copyOf_6403c : MS yJ7_copyOf_6403c cJ7_copyOf_6403c 4 (some (.array (.object "java/lang/Object"))) 3 := ⟨⟨tw_220, tw_75, by decide +kernel, by decide +kernel, by decide +kernel⟩, tw_219⟩
theorem mi_J7_fill_d0a16 : MS yJ7_fill_d0a16 cJ7_fill_d0a16 5 none 2 := ⟨⟨tw_908, tw_75, by decide +kernel, by decide +kernel, by decide +kernel⟩, tw_907⟩
theorem mi_J8_newLength_cabcc : MS yJ8_newLength_cabcc cJ8_newLength_cabcc 4 (some .int) 3 := ⟨⟨tw_189, tw_73, by decide +kernel, by decide +kernel, by decide +kernel⟩, tw_188⟩
theorem mi_Jx4a65c_add_72be8 : MV yJx4a65c_add_72be8 cJx4a65c_add_72be8 4 none 3 := ⟨⟨tw_178, tw_71, by decide +kernel, by decide +kernel, by decide +kernel⟩, tw_177, tw_0⟩
theorem mi_Jx4a65c_add_9ea2d : MV yJx4a65c_add_9ea2d cJx4a65c_add_9ea2d 2 (some .boolean) 1 := ⟨⟨tw_174, tw_71, by decide +kernel, by decide +kernel, by decide +kernel⟩, tw_172, tw_173⟩
theorem mi_Jx4a65c_elementData_915e3 : MV yJx4a65c_elementData_915e3 cJx4a65c_elementData_915e3 2 (some (.object "java/lang/Object")) 1 := ⟨⟨tw_484, tw_71, by decide +kernel, by decide +kernel, by decide +kernel⟩, tw_482, tw_483⟩
theorem mi_Jx4a65c_get_915e3 : MV yJx4a65c_get_915e3 cJx4a65c_get_915e3 2 (some (.object "java/lang/Object")) 1 := ⟨⟨tw_474, tw_71, by decide +kernel, by decide +kernel, by decide +kernel⟩, tw_472, tw_473⟩
theorem mi_Jx4a65c_grow_92f84 : MV yJx4a65c_grow_92f84 cJx4a65c_grow_92f84 4 (some (.array (.object "java/lang/Object"))) 1 := ⟨⟨tw_186, tw_71, by decide +kernel, by decide +kernel, by decide +kernel⟩, tw_185, tw_2⟩
theorem mi_Jx4a65c_grow_d5877 : MV yJx4a65c_grow_d5877 cJx4a65c_grow_d5877 1 (some (.array (.object "java/lang/Object"))) 0 := ⟨⟨tw_182, tw_71, by decide +kernel, by decide +kernel, by decide +kernel⟩, tw_181, tw_1⟩
theorem mi_Jx4a65c_init_da8c8 : MI yJx4a65c_init_da8c8 cJx4a65c_init_da8c8 1 0 := ⟨⟨tw_109, tw_71, by decide +kernel, by decide +kernel, by decide +kernel⟩, tw_108, rfl⟩
theorem mi_Jx4a65c_isEmpty_aae02 : MV yJx4a65c_isEmpty_aae02 cJx4a65c_isEmpty_aae02 1 (some .boolean) 0 := ⟨⟨tw_646, tw_71, by decide +kernel, by decide +kernel, by decide +kernel⟩, tw_644, tw_645⟩
theorem mi_Jx4a65c_size_8abf5 : MV yJx4a65c_size_8abf5 cJx4a65c_size_8abf5 1 (some .int) 0 := ⟨⟨tw_470, tw_71, by decide +kernel, by decide +kernel, by decide +kernel⟩, tw_468, tw_469⟩
theorem mi_Jxa1e45_init_da8c8 : MI yJxa1e45_init_da8c8 cJxa1e45_init_da8c8 1 0 := ⟨⟨tw_115, tw_69, by decide +kernel, by decide +kernel, by decide +kernel⟩, tw_114, rfl⟩
theorem mi_Jxc12de_init_da8c8 : MI yJxc12de_init_da8c8 cJxc12de_init_da8c8 1 0 := ⟨⟨tw_112, tw_70, by decide +kernel, by decide +kernel, by decide +kernel⟩, tw_111, rfl⟩
theorem mi_X0_init : MI yX0_init cX0_init 4 3 := ⟨⟨tw_505, tw_84, by decide +kernel, by decide +kernel, by decide +kernel⟩, tw_504, rfl⟩
theorem mi_X10_emit : MV yX10_emit cX10_emit 2 none 1 := ⟨⟨tw_767, tw_78, by decide +kernel, by decide +kernel, by decide +kernel⟩, tw_766, tw_19⟩
theorem mi_X10_init : MI yX10_init cX10_init 1 0 := ⟨⟨tw_298, tw_78, by decide +kernel, by decide +kernel, by decide +kernel⟩, tw_297, rfl⟩
theorem mi_X10_isDigit : MS yX10_isDigit cX10_isDigit 1 (some .boolean) 1 := ⟨⟨tw_770, tw_78, by decide +kernel, by decide +kernel, by decide +kernel⟩, tw_769⟩
theorem mi_X10_isLetter : MS yX10_isLetter cX10_isLetter 1 (some .boolean) 1 := ⟨⟨tw_676, tw_78, by decide +kernel, by decide +kernel, by decide +kernel⟩, tw_675⟩
theorem mi_X10_madeCode : MV yX10_madeCode cX10_madeCode 2 (some (.array .int)) 0 := ⟨⟨tw_780, tw_78, by decide +kernel, by decide +kernel, by decide +kernel⟩, tw_778, tw_779⟩
theorem mi_X10_next : MV yX10_next cX10_next 1 (some .int) 0 := ⟨⟨tw_759, tw_78, by decide +kernel, by decide +kernel, by decide +kernel⟩, tw_758, tw_17⟩
theorem mi_X10_parse : MV yX10_parse cX10_parse 1 (some .boolean) 0 := ⟨⟨tw_743, tw_78, by decide +kernel, by decide +kernel, by decide +kernel⟩, tw_741, tw_742⟩
theorem mi_X10_parseBracket : MV yX10_parseBracket cX10_parseBracket 3 (some .boolean) 1 := ⟨⟨tw_763, tw_78, by decide +kernel, by decide +kernel, by decide +kernel⟩, tw_762, tw_18⟩
theorem mi_X10_parseNumber : MV yX10_parseNumber cX10_parseNumber 3 none 0 := ⟨⟨tw_774, tw_78, by decide +kernel, by decide +kernel, by decide +kernel⟩, tw_773, tw_20⟩
theorem mi_X10_parseProduct : MV yX10_parseProduct cX10_parseProduct 4 (some .boolean) 1 := ⟨⟨tw_751, tw_78, by decide +kernel, by decide +kernel, by decide +kernel⟩, tw_750, tw_15⟩
theorem mi_X10_parseSum : MV yX10_parseSum cX10_parseSum 4 (some .boolean) 1 := ⟨⟨tw_747, tw_78, by decide +kernel, by decide +kernel, by decide +kernel⟩, tw_746, tw_14⟩
theorem mi_X10_parseUnit : MV yX10_parseUnit cX10_parseUnit 3 (some .boolean) 1 := ⟨⟨tw_755, tw_78, by decide +kernel, by decide +kernel, by decide +kernel⟩, tw_754, tw_16⟩
theorem mi_X10_take : MV yX10_take cX10_take 2 none 1 := ⟨⟨tw_735, tw_78, by decide +kernel, by decide +kernel, by decide +kernel⟩, tw_733, tw_734⟩
theorem mi_X11_account : MV yX11_account cX11_account 9 (some .long) 2 := ⟨⟨tw_837, tw_67, by decide +kernel, by decide +kernel, by decide +kernel⟩, tw_835, tw_836⟩
theorem mi_X11_advert : MV yX11_advert cX11_advert 3 (some .int) 1 := ⟨⟨tw_977, tw_67, by decide +kernel, by decide +kernel, by decide +kernel⟩, tw_975, tw_976⟩
theorem mi_X11_boost : MV yX11_boost cX11_boost 5 (some .int) 2 := ⟨⟨tw_492, tw_67, by decide +kernel, by decide +kernel, by decide +kernel⟩, tw_490, tw_491⟩
theorem mi_X11_boosts : MV yX11_boosts cX11_boosts 3 (some .int) 1 := ⟨⟨tw_881, tw_67, by decide +kernel, by decide +kernel, by decide +kernel⟩, tw_879, tw_880⟩
theorem mi_X11_breaks : MV yX11_breaks cX11_breaks 2 (some .int) 1 := ⟨⟨tw_855, tw_67, by decide +kernel, by decide +kernel, by decide +kernel⟩, tw_853, tw_854⟩
theorem mi_X11_check : MV yX11_check cX11_check 5 (some .int) 1 := ⟨⟨tw_1004, tw_67, by decide +kernel, by decide +kernel, by decide +kernel⟩, tw_1002, tw_1003⟩
theorem mi_X11_complain : MV yX11_complain cX11_complain 4 (some .int) 2 := ⟨⟨tw_851, tw_67, by decide +kernel, by decide +kernel, by decide +kernel⟩, tw_849, tw_850⟩
theorem mi_X11_correctionRefusal : MS yX11_correctionRefusal cX11_correctionRefusal 3 (some .int) 3 := ⟨⟨tw_901, tw_67, by decide +kernel, by decide +kernel, by decide +kernel⟩, tw_900⟩
theorem mi_X11_could : MV yX11_could cX11_could 5 (some .int) 2 := ⟨⟨tw_877, tw_67, by decide +kernel, by decide +kernel, by decide +kernel⟩, tw_875, tw_876⟩
theorem mi_X11_count : MV yX11_count cX11_count 2 (some .int) 1 := ⟨⟨tw_1008, tw_67, by decide +kernel, by decide +kernel, by decide +kernel⟩, tw_1006, tw_1007⟩
theorem mi_X11_covers : MV yX11_covers cX11_covers 6 (some .int) 3 := ⟨⟨tw_898, tw_67, by decide +kernel, by decide +kernel, by decide +kernel⟩, tw_896, tw_897⟩
theorem mi_X11_cut : MV yX11_cut cX11_cut 5 (some .int) 3 := ⟨⟨tw_500, tw_67, by decide +kernel, by decide +kernel, by decide +kernel⟩, tw_498, tw_499⟩
theorem mi_X11_evenUntil : MV yX11_evenUntil cX11_evenUntil 6 (some .int) 2 := ⟨⟨tw_842, tw_67, by decide +kernel, by decide +kernel, by decide +kernel⟩, tw_841, tw_23⟩
theorem mi_X11_fairOrder : MS yX11_fairOrder cX11_fairOrder 12 (some .int) 4 := ⟨⟨tw_1000, tw_67, by decide +kernel, by decide +kernel, by decide +kernel⟩, tw_999⟩
theorem mi_X11_feed : MV yX11_feed cX11_feed 5 (some .int) 2 := ⟨⟨tw_731, tw_67, by decide +kernel, by decide +kernel, by decide +kernel⟩, tw_729, tw_730⟩
theorem mi_X11_firstFair : MS yX11_firstFair cX11_firstFair 8 (some .int) 3 := ⟨⟨tw_996, tw_67, by decide +kernel, by decide +kernel, by decide +kernel⟩, tw_995⟩
theorem mi_X11_fresh : MV yX11_fresh cX11_fresh 5 (some .int) 1 := ⟨⟨tw_969, tw_67, by decide +kernel, by decide +kernel, by decide +kernel⟩, tw_967, tw_968⟩
theorem mi_X11_heard : MV yX11_heard cX11_heard 5 (some .int) 2 := ⟨⟨tw_726, tw_67, by decide +kernel, by decide +kernel, by decide +kernel⟩, tw_724, tw_725⟩
theorem mi_X11_hears : MV yX11_hears cX11_hears 5 (some .int) 2 := ⟨⟨tw_575, tw_67, by decide +kernel, by decide +kernel, by decide +kernel⟩, tw_573, tw_574⟩
theorem mi_X11_home : MV yX11_home cX11_home 7 (some .int) 4 := ⟨⟨tw_540, tw_67, by decide +kernel, by decide +kernel, by decide +kernel⟩, tw_538, tw_539⟩
theorem mi_X11_hourOf : MS yX11_hourOf cX11_hourOf 1 (some .int) 1 := ⟨⟨tw_665, tw_67, by decide +kernel, by decide +kernel, by decide +kernel⟩, tw_664⟩
theorem mi_X11_inForce : MV yX11_inForce cX11_inForce 6 (some (.object "EarPaper$Term")) 2 := ⟨⟨tw_661, tw_67, by decide +kernel, by decide +kernel, by decide +kernel⟩, tw_660, tw_9⟩
theorem mi_X11_init : MI yX11_init cX11_init 1 0 := ⟨⟨tw_95, tw_67, by decide +kernel, by decide +kernel, by decide +kernel⟩, tw_94, rfl⟩
theorem mi_X11_isKnown : MV yX11_isKnown cX11_isKnown 3 (some .boolean) 2 := ⟨⟨tw_630, tw_67, by decide +kernel, by decide +kernel, by decide +kernel⟩, tw_629, tw_5⟩
theorem mi_X11_isOfItsKind : MV yX11_isOfItsKind cX11_isOfItsKind 4 (some .boolean) 2 := ⟨⟨tw_653, tw_67, by decide +kernel, by decide +kernel, by decide +kernel⟩, tw_652, tw_7⟩
theorem mi_X11_judge : MV yX11_judge cX11_judge 4 (some .int) 0 := ⟨⟨tw_989, tw_67, by decide +kernel, by decide +kernel, by decide +kernel⟩, tw_987, tw_988⟩
theorem mi_X11_lag : MV yX11_lag cX11_lag 5 (some .int) 1 := ⟨⟨tw_962, tw_67, by decide +kernel, by decide +kernel, by decide +kernel⟩, tw_960, tw_961⟩
theorem mi_X11_least : MV yX11_least cX11_least 3 (some .int) 1 := ⟨⟨tw_571, tw_67, by decide +kernel, by decide +kernel, by decide +kernel⟩, tw_569, tw_570⟩
theorem mi_X11_loud : MV yX11_loud cX11_loud 5 (some .int) 2 := ⟨⟨tw_523, tw_67, by decide +kernel, by decide +kernel, by decide +kernel⟩, tw_521, tw_522⟩
theorem mi_X11_markRead : MV yX11_markRead cX11_markRead 5 none 3 := ⟨⟨tw_703, tw_67, by decide +kernel, by decide +kernel, by decide +kernel⟩, tw_702, tw_13⟩
theorem mi_X11_mayBreak : MV yX11_mayBreak cX11_mayBreak 3 (some .boolean) 1 := ⟨⟨tw_657, tw_67, by decide +kernel, by decide +kernel, by decide +kernel⟩, tw_656, tw_8⟩
theorem mi_X11_mayRead : MV yX11_mayRead cX11_mayRead 3 (some .int) 1 := ⟨⟨tw_613, tw_67, by decide +kernel, by decide +kernel, by decide +kernel⟩, tw_611, tw_612⟩
theorem mi_X11_minuteOf : MV yX11_minuteOf cX11_minuteOf 4 (some .int) 2 := ⟨⟨tw_711, tw_67, by decide +kernel, by decide +kernel, by decide +kernel⟩, tw_709, tw_710⟩
theorem mi_X11_news : MV yX11_news cX11_news 3 (some .int) 1 := ⟨⟨tw_936, tw_67, by decide +kernel, by decide +kernel, by decide +kernel⟩, tw_934, tw_935⟩
theorem mi_X11_newsOf : MV yX11_newsOf cX11_newsOf 2 (some (.object "EarPaper$News")) 1 := ⟨⟨tw_634, tw_67, by decide +kernel, by decide +kernel, by decide +kernel⟩, tw_633, tw_6⟩
theorem mi_X11_node : MV yX11_node cX11_node 5 (some .int) 2 := ⟨⟨tw_462, tw_67, by decide +kernel, by decide +kernel, by decide +kernel⟩, tw_460, tw_461⟩
theorem mi_X11_order : MV yX11_order cX11_order 8 (some .int) 4 := ⟨⟨tw_993, tw_67, by decide +kernel, by decide +kernel, by decide +kernel⟩, tw_991, tw_992⟩
theorem mi_X11_pass : MV yX11_pass cX11_pass 2 (some .int) 1 := ⟨⟨tw_410, tw_67, by decide +kernel, by decide +kernel, by decide +kernel⟩, tw_408, tw_409⟩
theorem mi_X11_printed : MV yX11_printed cX11_printed 4 (some .int) 2 := ⟨⟨tw_958, tw_67, by decide +kernel, by decide +kernel, by decide +kernel⟩, tw_956, tw_957⟩
theorem mi_X11_put : MV yX11_put cX11_put 2 (some .int) 1 := ⟨⟨tw_985, tw_67, by decide +kernel, by decide +kernel, by decide +kernel⟩, tw_983, tw_984⟩
theorem mi_X11_readRefusal : MS yX11_readRefusal cX11_readRefusal 1 (some .int) 1 := ⟨⟨tw_965, tw_67, by decide +kernel, by decide +kernel, by decide +kernel⟩, tw_964⟩
theorem mi_X11_reader : MV yX11_reader cX11_reader 4 (some .int) 1 := ⟨⟨tw_588, tw_67, by decide +kernel, by decide +kernel, by decide +kernel⟩, tw_586, tw_587⟩
theorem mi_X11_readerOf : MV yX11_readerOf cX11_readerOf 2 (some (.object "EarPaper$Reader")) 1 := ⟨⟨tw_617, tw_67, by decide +kernel, by decide +kernel, by decide +kernel⟩, tw_616, tw_4⟩
theorem mi_X11_refuse : MV yX11_refuse cX11_refuse 3 (some .int) 1 := ⟨⟨tw_414, tw_67, by decide +kernel, by decide +kernel, by decide +kernel⟩, tw_413, tw_3⟩
theorem mi_X11_refusedSoFar : MV yX11_refusedSoFar cX11_refusedSoFar 3 (some .int) 1 := ⟨⟨tw_1016, tw_67, by decide +kernel, by decide +kernel, by decide +kernel⟩, tw_1015, tw_30⟩
theorem mi_X11_rests : MV yX11_rests cX11_rests 4 (some .int) 2 := ⟨⟨tw_609, tw_67, by decide +kernel, by decide +kernel, by decide +kernel⟩, tw_607, tw_608⟩
theorem mi_X11_rights : MV yX11_rights cX11_rights 7 (some .int) 3 := ⟨⟨tw_926, tw_67, by decide +kernel, by decide +kernel, by decide +kernel⟩, tw_924, tw_925⟩
theorem mi_X11_say : MV yX11_say cX11_say 7 (some .int) 3 := ⟨⟨tw_626, tw_67, by decide +kernel, by decide +kernel, by decide +kernel⟩, tw_624, tw_625⟩
theorem mi_X11_sold : MV yX11_sold cX11_sold 4 (some .int) 2 := ⟨⟨tw_981, tw_67, by decide +kernel, by decide +kernel, by decide +kernel⟩, tw_979, tw_980⟩
theorem mi_X11_stage : MV yX11_stage cX11_stage 5 (some .int) 1 := ⟨⟨tw_707, tw_67, by decide +kernel, by decide +kernel, by decide +kernel⟩, tw_705, tw_706⟩
theorem mi_X11_sumOf : MV yX11_sumOf cX11_sumOf 9 (some .long) 4 := ⟨⟨tw_847, tw_67, by decide +kernel, by decide +kernel, by decide +kernel⟩, tw_846, tw_24⟩
theorem mi_X11_tellsOf : MS yX11_tellsOf cX11_tellsOf 1 (some .boolean) 1 := ⟨⟨tw_638, tw_67, by decide +kernel, by decide +kernel, by decide +kernel⟩, tw_637⟩
theorem mi_X11_term : MV yX11_term cX11_term 5 (some .int) 2 := ⟨⟨tw_739, tw_67, by decide +kernel, by decide +kernel, by decide +kernel⟩, tw_737, tw_738⟩
theorem mi_X11_valueOf : MV yX11_valueOf cX11_valueOf 4 (some .int) 3 := ⟨⟨tw_833, tw_67, by decide +kernel, by decide +kernel, by decide +kernel⟩, tw_832, tw_22⟩
theorem mi_X11_voiceRefusal : MS yX11_voiceRefusal cX11_voiceRefusal 1 (some .int) 1 := ⟨⟨tw_526, tw_67, by decide +kernel, by decide +kernel, by decide +kernel⟩, tw_525⟩
theorem mi_X11_weather : MV yX11_weather cX11_weather 3 (some .int) 1 := ⟨⟨tw_496, tw_67, by decide +kernel, by decide +kernel, by decide +kernel⟩, tw_494, tw_495⟩
theorem mi_X11_worth : MV yX11_worth cX11_worth 4 (some .int) 2 := ⟨⟨tw_824, tw_67, by decide +kernel, by decide +kernel, by decide +kernel⟩, tw_822, tw_823⟩
theorem mi_X11_worthIn : MV yX11_worthIn cX11_worthIn 5 (some .int) 3 := ⟨⟨tw_829, tw_67, by decide +kernel, by decide +kernel, by decide +kernel⟩, tw_828, tw_21⟩
theorem mi_X12_account : MV yX12_account cX12_account 7 (some .long) 2 := ⟨⟨tw_1435, tw_80, by decide +kernel, by decide +kernel, by decide +kernel⟩, tw_1433, tw_1434⟩
theorem mi_X12_advert : MV yX12_advert cX12_advert 3 (some .int) 1 := ⟨⟨tw_1522, tw_80, by decide +kernel, by decide +kernel, by decide +kernel⟩, tw_1520, tw_1521⟩
theorem mi_X12_asBefore : MV yX12_asBefore cX12_asBefore 5 (some .int) 1 := ⟨⟨tw_1444, tw_80, by decide +kernel, by decide +kernel, by decide +kernel⟩, tw_1443, tw_58⟩
theorem mi_X12_asks : MV yX12_asks cX12_asks 4 none 2 := ⟨⟨tw_1486, tw_80, by decide +kernel, by decide +kernel, by decide +kernel⟩, tw_1485, tw_62⟩
theorem mi_X12_bare : MV yX12_bare cX12_bare 2 none 0 := ⟨⟨tw_1333, tw_80, by decide +kernel, by decide +kernel, by decide +kernel⟩, tw_1332, tw_40⟩
theorem mi_X12_bits : MS yX12_bits cX12_bits 3 (some .int) 1 := ⟨⟨tw_1462, tw_80, by decide +kernel, by decide +kernel, by decide +kernel⟩, tw_1461⟩
theorem mi_X12_boost : MV yX12_boost cX12_boost 5 (some .int) 2 := ⟨⟨tw_1264, tw_80, by decide +kernel, by decide +kernel, by decide +kernel⟩, tw_1262, tw_1263⟩
theorem mi_X12_boosts : MV yX12_boosts cX12_boosts 7 (some .int) 1 := ⟨⟨tw_1474, tw_80, by decide +kernel, by decide +kernel, by decide +kernel⟩, tw_1472, tw_1473⟩
theorem mi_X12_breaks : MV yX12_breaks cX12_breaks 5 (some .int) 1 := ⟨⟨tw_1459, tw_80, by decide +kernel, by decide +kernel, by decide +kernel⟩, tw_1457, tw_1458⟩
theorem mi_X12_breaksOff : MV yX12_breaksOff cX12_breaksOff 1 (some .int) 0 := ⟨⟨tw_1368, tw_80, by decide +kernel, by decide +kernel, by decide +kernel⟩, tw_1367, tw_48⟩
theorem mi_X12_check : MV yX12_check cX12_check 4 (some .int) 1 := ⟨⟨tw_1543, tw_80, by decide +kernel, by decide +kernel, by decide +kernel⟩, tw_1541, tw_1542⟩
theorem mi_X12_complain : MV yX12_complain cX12_complain 4 (some .int) 2 := ⟨⟨tw_1455, tw_80, by decide +kernel, by decide +kernel, by decide +kernel⟩, tw_1453, tw_1454⟩
theorem mi_X12_could : MV yX12_could cX12_could 4 (some .int) 2 := ⟨⟨tw_1470, tw_80, by decide +kernel, by decide +kernel, by decide +kernel⟩, tw_1468, tw_1469⟩
theorem mi_X12_count : MV yX12_count cX12_count 4 (some .int) 1 := ⟨⟨tw_1547, tw_80, by decide +kernel, by decide +kernel, by decide +kernel⟩, tw_1545, tw_1546⟩
theorem mi_X12_counting : MV yX12_counting cX12_counting 2 none 0 := ⟨⟨tw_1498, tw_80, by decide +kernel, by decide +kernel, by decide +kernel⟩, tw_1497, tw_64⟩
theorem mi_X12_counts : MV yX12_counts cX12_counts 2 none 1 := ⟨⟨tw_1393, tw_80, by decide +kernel, by decide +kernel, by decide +kernel⟩, tw_1392, tw_51⟩
theorem mi_X12_countsAnew : MV yX12_countsAnew cX12_countsAnew 4 none 1 := ⟨⟨tw_1397, tw_80, by decide +kernel, by decide +kernel, by decide +kernel⟩, tw_1396, tw_52⟩
theorem mi_X12_covers : MV yX12_covers cX12_covers 5 (some .int) 3 := ⟨⟨tw_1478, tw_80, by decide +kernel, by decide +kernel, by decide +kernel⟩, tw_1476, tw_1477⟩
theorem mi_X12_coversBy : MV yX12_coversBy cX12_coversBy 4 (some .int) 1 := ⟨⟨tw_1490, tw_80, by decide +kernel, by decide +kernel, by decide +kernel⟩, tw_1489, tw_63⟩
theorem mi_X12_cut : MV yX12_cut cX12_cut 4 (some .int) 3 := ⟨⟨tw_1272, tw_80, by decide +kernel, by decide +kernel, by decide +kernel⟩, tw_1270, tw_1271⟩
theorem mi_X12_explains : MV yX12_explains cX12_explains 5 (some .boolean) 1 := ⟨⟨tw_1466, tw_80, by decide +kernel, by decide +kernel, by decide +kernel⟩, tw_1465, tw_60⟩
theorem mi_X12_feed : MV yX12_feed cX12_feed 5 (some .int) 2 := ⟨⟨tw_1413, tw_80, by decide +kernel, by decide +kernel, by decide +kernel⟩, tw_1411, tw_1412⟩
theorem mi_X12_findsForce : MV yX12_findsForce cX12_findsForce 4 (some .int) 1 := ⟨⟨tw_1440, tw_80, by decide +kernel, by decide +kernel, by decide +kernel⟩, tw_1439, tw_57⟩
theorem mi_X12_fresh : MV yX12_fresh cX12_fresh 3 (some .int) 1 := ⟨⟨tw_1518, tw_80, by decide +kernel, by decide +kernel, by decide +kernel⟩, tw_1516, tw_1517⟩
theorem mi_X12_goesBy : MV yX12_goesBy cX12_goesBy 5 (some .int) 4 := ⟨⟨tw_1246, tw_80, by decide +kernel, by decide +kernel, by decide +kernel⟩, tw_1245, tw_32⟩
theorem mi_X12_goesThrough : MV yX12_goesThrough cX12_goesThrough 3 (some .int) 2 := ⟨⟨tw_1345, tw_80, by decide +kernel, by decide +kernel, by decide +kernel⟩, tw_1344, tw_43⟩
theorem mi_X12_has : MV yX12_has cX12_has 4 (some .boolean) 2 := ⟨⟨tw_1448, tw_80, by decide +kernel, by decide +kernel, by decide +kernel⟩, tw_1447, tw_59⟩
theorem mi_X12_heard : MV yX12_heard cX12_heard 3 (some .int) 2 := ⟨⟨tw_1405, tw_80, by decide +kernel, by decide +kernel, by decide +kernel⟩, tw_1403, tw_1404⟩
theorem mi_X12_heardBy : MV yX12_heardBy cX12_heardBy 3 (some .int) 2 := ⟨⟨tw_1409, tw_80, by decide +kernel, by decide +kernel, by decide +kernel⟩, tw_1408, tw_54⟩
theorem mi_X12_hears : MV yX12_hears cX12_hears 4 (some .int) 2 := ⟨⟨tw_1297, tw_80, by decide +kernel, by decide +kernel, by decide +kernel⟩, tw_1295, tw_1296⟩
theorem mi_X12_hearsNow : MV yX12_hearsNow cX12_hearsNow 2 (some .boolean) 1 := ⟨⟨tw_1305, tw_80, by decide +kernel, by decide +kernel, by decide +kernel⟩, tw_1304, tw_37⟩
theorem mi_X12_held : MS yX12_held cX12_held 2 (some .int) 1 := ⟨⟨tw_1375, tw_80, by decide +kernel, by decide +kernel, by decide +kernel⟩, tw_1374⟩
theorem mi_X12_home : MV yX12_home cX12_home 5 (some .int) 4 := ⟨⟨tw_1288, tw_80, by decide +kernel, by decide +kernel, by decide +kernel⟩, tw_1286, tw_1287⟩
theorem mi_X12_inForce : MV yX12_inForce cX12_inForce 5 (some .int) 2 := ⟨⟨tw_1341, tw_80, by decide +kernel, by decide +kernel, by decide +kernel⟩, tw_1340, tw_42⟩
theorem mi_X12_init : MI yX12_init cX12_init 1 0 := ⟨⟨tw_1021, tw_80, by decide +kernel, by decide +kernel, by decide +kernel⟩, tw_1020, rfl⟩
theorem mi_X12_isCut : MV yX12_isCut cX12_isCut 4 (some .boolean) 2 := ⟨⟨tw_1284, tw_80, by decide +kernel, by decide +kernel, by decide +kernel⟩, tw_1283, tw_35⟩
theorem mi_X12_isEnough : MV yX12_isEnough cX12_isEnough 5 (some .boolean) 2 := ⟨⟨tw_1502, tw_80, by decide +kernel, by decide +kernel, by decide +kernel⟩, tw_1501, tw_65⟩
theorem mi_X12_isHome : MV yX12_isHome cX12_isHome 2 (some .boolean) 1 := ⟨⟨tw_1301, tw_80, by decide +kernel, by decide +kernel, by decide +kernel⟩, tw_1300, tw_36⟩
theorem mi_X12_isIn : MS yX12_isIn cX12_isIn 2 (some .boolean) 2 := ⟨⟨tw_1257, tw_80, by decide +kernel, by decide +kernel, by decide +kernel⟩, tw_1256⟩
theorem mi_X12_isLetter : MS yX12_isLetter cX12_isLetter 1 (some .boolean) 1 := ⟨⟨tw_1364, tw_80, by decide +kernel, by decide +kernel, by decide +kernel⟩, tw_1363⟩
theorem mi_X12_isNode : MV yX12_isNode cX12_isNode 2 (some .boolean) 1 := ⟨⟨tw_1254, tw_80, by decide +kernel, by decide +kernel, by decide +kernel⟩, tw_1253, tw_33⟩
theorem mi_X12_isPast : MV yX12_isPast cX12_isPast 2 (some .boolean) 1 := ⟨⟨tw_1329, tw_80, by decide +kernel, by decide +kernel, by decide +kernel⟩, tw_1328, tw_39⟩
theorem mi_X12_judge : MV yX12_judge cX12_judge 3 (some .int) 0 := ⟨⟨tw_1534, tw_80, by decide +kernel, by decide +kernel, by decide +kernel⟩, tw_1532, tw_1533⟩
theorem mi_X12_lag : MV yX12_lag cX12_lag 2 (some .int) 1 := ⟨⟨tw_1514, tw_80, by decide +kernel, by decide +kernel, by decide +kernel⟩, tw_1512, tw_1513⟩
theorem mi_X12_least : MV yX12_least cX12_least 4 (some .int) 1 := ⟨⟨tw_1293, tw_80, by decide +kernel, by decide +kernel, by decide +kernel⟩, tw_1291, tw_1292⟩
theorem mi_X12_letterOf : MS yX12_letterOf cX12_letterOf 1 (some .int) 1 := ⟨⟨tw_1451, tw_80, by decide +kernel, by decide +kernel, by decide +kernel⟩, tw_1450⟩
theorem mi_X12_listens : MV yX12_listens cX12_listens 4 (some .int) 2 := ⟨⟨tw_1401, tw_80, by decide +kernel, by decide +kernel, by decide +kernel⟩, tw_1400, tw_53⟩
theorem mi_X12_loud : MV yX12_loud cX12_loud 4 (some .int) 2 := ⟨⟨tw_1276, tw_80, by decide +kernel, by decide +kernel, by decide +kernel⟩, tw_1274, tw_1275⟩
theorem mi_X12_may : MV yX12_may cX12_may 2 (some .boolean) 1 := ⟨⟨tw_1321, tw_80, by decide +kernel, by decide +kernel, by decide +kernel⟩, tw_1320, tw_38⟩
theorem mi_X12_mayRead : MV yX12_mayRead cX12_mayRead 2 (some .int) 1 := ⟨⟨tw_1317, tw_80, by decide +kernel, by decide +kernel, by decide +kernel⟩, tw_1315, tw_1316⟩
theorem mi_X12_minuteOf : MV yX12_minuteOf cX12_minuteOf 3 (some .int) 2 := ⟨⟨tw_1389, tw_80, by decide +kernel, by decide +kernel, by decide +kernel⟩, tw_1387, tw_1388⟩
theorem mi_X12_news : MV yX12_news cX12_news 2 (some .int) 1 := ⟨⟨tw_1506, tw_80, by decide +kernel, by decide +kernel, by decide +kernel⟩, tw_1504, tw_1505⟩
theorem mi_X12_node : MV yX12_node cX12_node 4 (some .int) 2 := ⟨⟨tw_1250, tw_80, by decide +kernel, by decide +kernel, by decide +kernel⟩, tw_1248, tw_1249⟩
theorem mi_X12_order : MV yX12_order cX12_order 13 (some .int) 4 := ⟨⟨tw_1538, tw_80, by decide +kernel, by decide +kernel, by decide +kernel⟩, tw_1536, tw_1537⟩
theorem mi_X12_pass : MV yX12_pass cX12_pass 3 (some .int) 1 := ⟨⟨tw_1238, tw_80, by decide +kernel, by decide +kernel, by decide +kernel⟩, tw_1236, tw_1237⟩
theorem mi_X12_printed : MV yX12_printed cX12_printed 4 (some .int) 2 := ⟨⟨tw_1510, tw_80, by decide +kernel, by decide +kernel, by decide +kernel⟩, tw_1508, tw_1509⟩
theorem mi_X12_put : MV yX12_put cX12_put 3 (some .int) 1 := ⟨⟨tw_1530, tw_80, by decide +kernel, by decide +kernel, by decide +kernel⟩, tw_1528, tw_1529⟩
theorem mi_X12_puts : MV yX12_puts cX12_puts 2 none 1 := ⟨⟨tw_1431, tw_80, by decide +kernel, by decide +kernel, by decide +kernel⟩, tw_1430, tw_56⟩
theorem mi_X12_reader : MV yX12_reader cX12_reader 3 (some .int) 1 := ⟨⟨tw_1309, tw_80, by decide +kernel, by decide +kernel, by decide +kernel⟩, tw_1307, tw_1308⟩
theorem mi_X12_reads : MV yX12_reads cX12_reads 4 (some .int) 3 := ⟨⟨tw_1381, tw_80, by decide +kernel, by decide +kernel, by decide +kernel⟩, tw_1380, tw_50⟩
theorem mi_X12_refuse : MV yX12_refuse cX12_refuse 2 (some .int) 1 := ⟨⟨tw_1242, tw_80, by decide +kernel, by decide +kernel, by decide +kernel⟩, tw_1241, tw_31⟩
theorem mi_X12_rests : MV yX12_rests cX12_rests 4 (some .int) 2 := ⟨⟨tw_1313, tw_80, by decide +kernel, by decide +kernel, by decide +kernel⟩, tw_1311, tw_1312⟩
theorem mi_X12_rights : MV yX12_rights cX12_rights 9 (some .int) 3 := ⟨⟨tw_1494, tw_80, by decide +kernel, by decide +kernel, by decide +kernel⟩, tw_1492, tw_1493⟩
theorem mi_X12_say : MV yX12_say cX12_say 5 (some .int) 3 := ⟨⟨tw_1325, tw_80, by decide +kernel, by decide +kernel, by decide +kernel⟩, tw_1323, tw_1324⟩
theorem mi_X12_sign : MV yX12_sign cX12_sign 1 (some .int) 0 := ⟨⟨tw_1361, tw_80, by decide +kernel, by decide +kernel, by decide +kernel⟩, tw_1360, tw_47⟩
theorem mi_X12_sold : MV yX12_sold cX12_sold 4 (some .int) 2 := ⟨⟨tw_1526, tw_80, by decide +kernel, by decide +kernel, by decide +kernel⟩, tw_1524, tw_1525⟩
theorem mi_X12_sounds : MV yX12_sounds cX12_sounds 6 none 3 := ⟨⟨tw_1280, tw_80, by decide +kernel, by decide +kernel, by decide +kernel⟩, tw_1279, tw_34⟩
theorem mi_X12_stage : MV yX12_stage cX12_stage 3 (some .int) 1 := ⟨⟨tw_1385, tw_80, by decide +kernel, by decide +kernel, by decide +kernel⟩, tw_1383, tw_1384⟩
theorem mi_X12_sum : MV yX12_sum cX12_sum 4 (some .int) 0 := ⟨⟨tw_1349, tw_80, by decide +kernel, by decide +kernel, by decide +kernel⟩, tw_1348, tw_44⟩
theorem mi_X12_takes : MV yX12_takes cX12_takes 2 (some .boolean) 1 := ⟨⟨tw_1372, tw_80, by decide +kernel, by decide +kernel, by decide +kernel⟩, tw_1371, tw_49⟩
theorem mi_X12_term : MV yX12_term cX12_term 4 (some .int) 0 := ⟨⟨tw_1353, tw_80, by decide +kernel, by decide +kernel, by decide +kernel⟩, tw_1352, tw_45⟩
theorem mi_X12_term_ : MV yX12_term_ cX12_term_ 8 (some .int) 2 := ⟨⟨tw_1418, tw_80, by decide +kernel, by decide +kernel, by decide +kernel⟩, tw_1416, tw_1417⟩
theorem mi_X12_unit : MV yX12_unit cX12_unit 5 (some .int) 0 := ⟨⟨tw_1357, tw_80, by decide +kernel, by decide +kernel, by decide +kernel⟩, tw_1356, tw_46⟩
theorem mi_X12_weather : MV yX12_weather cX12_weather 4 (some .int) 1 := ⟨⟨tw_1268, tw_80, by decide +kernel, by decide +kernel, by decide +kernel⟩, tw_1266, tw_1267⟩
theorem mi_X12_within : MS yX12_within cX12_within 3 (some .int) 3 := ⟨⟨tw_1260, tw_80, by decide +kernel, by decide +kernel, by decide +kernel⟩, tw_1259⟩
theorem mi_X12_worth : MV yX12_worth cX12_worth 5 (some .int) 3 := ⟨⟨tw_1337, tw_80, by decide +kernel, by decide +kernel, by decide +kernel⟩, tw_1336, tw_41⟩
theorem mi_X12_worthOf : MV yX12_worthOf cX12_worthOf 3 (some .int) 2 := ⟨⟨tw_1427, tw_80, by decide +kernel, by decide +kernel, by decide +kernel⟩, tw_1426, tw_55⟩
theorem mi_X12_worth_ : MV yX12_worth_ cX12_worth_ 3 (some .int) 2 := ⟨⟨tw_1422, tw_80, by decide +kernel, by decide +kernel, by decide +kernel⟩, tw_1420, tw_1421⟩
theorem mi_X12_wrongHours : MV yX12_wrongHours cX12_wrongHours 4 (some .int) 3 := ⟨⟨tw_1482, tw_80, by decide +kernel, by decide +kernel, by decide +kernel⟩, tw_1481, tw_61⟩
theorem mi_X1_init : MI yX1_init cX1_init 5 4 := ⟨⟨tw_546, tw_85, by decide +kernel, by decide +kernel, by decide +kernel⟩, tw_545, rfl⟩
theorem mi_X1_isReached : MV yX1_isReached cX1_isReached 2 (some .boolean) 1 := ⟨⟨tw_584, tw_85, by decide +kernel, by decide +kernel, by decide +kernel⟩, tw_582, tw_583⟩
theorem mi_X2_goBy : MV yX2_goBy cX2_goBy 2 none 1 := ⟨⟨tw_457, tw_77, by decide +kernel, by decide +kernel, by decide +kernel⟩, tw_455, tw_456⟩
theorem mi_X2_init : MI yX2_init cX2_init 1 0 := ⟨⟨tw_272, tw_77, by decide +kernel, by decide +kernel, by decide +kernel⟩, tw_271, rfl⟩
theorem mi_X2_spanOf : MV yX2_spanOf cX2_spanOf 6 (some (.object "EarPaper$Span")) 1 := ⟨⟨tw_642, tw_77, by decide +kernel, by decide +kernel, by decide +kernel⟩, tw_640, tw_641⟩
theorem mi_X3_addListener : MV yX3_addListener cX3_addListener 5 none 2 := ⟨⟨tw_912, tw_68, by decide +kernel, by decide +kernel, by decide +kernel⟩, tw_911, tw_29⟩
theorem mi_X3_allReachedWith : MV yX3_allReachedWith cX3_allReachedWith 4 (some .boolean) 2 := ⟨⟨tw_890, tw_68, by decide +kernel, by decide +kernel, by decide +kernel⟩, tw_889, tw_27⟩
theorem mi_X3_breakable : MV yX3_breakable cX3_breakable 4 (some .int) 0 := ⟨⟨tw_863, tw_68, by decide +kernel, by decide +kernel, by decide +kernel⟩, tw_862, tw_25⟩
theorem mi_X3_carry : MV yX3_carry cX3_carry 6 none 3 := ⟨⟨tw_530, tw_68, by decide +kernel, by decide +kernel, by decide +kernel⟩, tw_528, tw_529⟩
theorem mi_X3_complaints : MV yX3_complaints cX3_complaints 3 (some .int) 0 := ⟨⟨tw_1012, tw_68, by decide +kernel, by decide +kernel, by decide +kernel⟩, tw_1010, tw_1011⟩
theorem mi_X3_covered : MV yX3_covered cX3_covered 7 (some .int) 1 := ⟨⟨tw_916, tw_68, by decide +kernel, by decide +kernel, by decide +kernel⟩, tw_914, tw_915⟩
theorem mi_X3_explain : MV yX3_explain cX3_explain 9 (some .int) 1 := ⟨⟨tw_859, tw_68, by decide +kernel, by decide +kernel, by decide +kernel⟩, tw_857, tw_858⟩
theorem mi_X3_fewestBoosts : MV yX3_fewestBoosts cX3_fewestBoosts 7 (some .int) 1 := ⟨⟨tw_885, tw_68, by decide +kernel, by decide +kernel, by decide +kernel⟩, tw_883, tw_884⟩
theorem mi_X3_fewestHours : MV yX3_fewestHours cX3_fewestHours 8 (some .int) 2 := ⟨⟨tw_931, tw_68, by decide +kernel, by decide +kernel, by decide +kernel⟩, tw_929, tw_930⟩
theorem mi_X3_findListeners : MV yX3_findListeners cX3_findListeners 8 none 3 := ⟨⟨tw_905, tw_68, by decide +kernel, by decide +kernel, by decide +kernel⟩, tw_903, tw_904⟩
theorem mi_X3_hitsAllComplaints : MV yX3_hitsAllComplaints cX3_hitsAllComplaints 4 (some .boolean) 1 := ⟨⟨tw_873, tw_68, by decide +kernel, by decide +kernel, by decide +kernel⟩, tw_872, tw_26⟩
theorem mi_X3_homeOf : MV yX3_homeOf cX3_homeOf 2 (some (.object "EarPaper$Home")) 1 := ⟨⟨tw_579, tw_68, by decide +kernel, by decide +kernel, by decide +kernel⟩, tw_577, tw_578⟩
theorem mi_X3_howHeard : MV yX3_howHeard cX3_howHeard 5 (some .int) 3 := ⟨⟨tw_720, tw_68, by decide +kernel, by decide +kernel, by decide +kernel⟩, tw_718, tw_719⟩
theorem mi_X3_init : MI yX3_init cX3_init 1 0 := ⟨⟨tw_103, tw_68, by decide +kernel, by decide +kernel, by decide +kernel⟩, tw_102, rfl⟩
theorem mi_X3_nodeOf : MV yX3_nodeOf cX3_nodeOf 2 (some (.object "EarPaper$Node")) 1 := ⟨⟨tw_466, tw_68, by decide +kernel, by decide +kernel, by decide +kernel⟩, tw_464, tw_465⟩
theorem mi_X3_raise : MV yX3_raise cX3_raise 4 none 1 := ⟨⟨tw_894, tw_68, by decide +kernel, by decide +kernel, by decide +kernel⟩, tw_893, tw_28⟩
theorem mi_X3_tally : MV yX3_tally cX3_tally 5 none 2 := ⟨⟨tw_715, tw_68, by decide +kernel, by decide +kernel, by decide +kernel⟩, tw_713, tw_714⟩
theorem mi_X4_init : MI yX4_init cX4_init 2 1 := ⟨⟨tw_940, tw_90, by decide +kernel, by decide +kernel, by decide +kernel⟩, tw_939, rfl⟩
theorem mi_X4_isFreshIn : MV yX4_isFreshIn cX4_isFreshIn 2 (some .boolean) 1 := ⟨⟨tw_973, tw_90, by decide +kernel, by decide +kernel, by decide +kernel⟩, tw_971, tw_972⟩
theorem mi_X5_init : MI yX5_init cX5_init 5 3 := ⟨⟨tw_135, tw_72, by decide +kernel, by decide +kernel, by decide +kernel⟩, tw_134, rfl⟩
theorem mi_X5_receive : MV yX5_receive cX5_receive 4 none 2 := ⟨⟨tw_535, tw_72, by decide +kernel, by decide +kernel, by decide +kernel⟩, tw_533, tw_534⟩
theorem mi_X6_init : MI yX6_init cX6_init 2 1 := ⟨⟨tw_593, tw_86, by decide +kernel, by decide +kernel, by decide +kernel⟩, tw_592, rfl⟩
theorem mi_X6_isFree : MV yX6_isFree cX6_isFree 4 (some .boolean) 3 := ⟨⟨tw_622, tw_86, by decide +kernel, by decide +kernel, by decide +kernel⟩, tw_620, tw_621⟩
theorem mi_X6_readIn : MV yX6_readIn cX6_readIn 2 none 1 := ⟨⟨tw_699, tw_86, by decide +kernel, by decide +kernel, by decide +kernel⟩, tw_697, tw_698⟩
theorem mi_X7_init : MI yX7_init cX7_init 1 0 := ⟨⟨tw_323, tw_79, by decide +kernel, by decide +kernel, by decide +kernel⟩, tw_322, rfl⟩
theorem mi_X7_join : MV yX7_join cX7_join 4 none 1 := ⟨⟨tw_684, tw_79, by decide +kernel, by decide +kernel, by decide +kernel⟩, tw_683, tw_12⟩
theorem mi_X7_letter : MV yX7_letter cX7_letter 2 (some .int) 1 := ⟨⟨tw_680, tw_79, by decide +kernel, by decide +kernel, by decide +kernel⟩, tw_679, tw_11⟩
theorem mi_X7_push : MV yX7_push cX7_push 2 none 1 := ⟨⟨tw_673, tw_79, by decide +kernel, by decide +kernel, by decide +kernel⟩, tw_672, tw_10⟩
theorem mi_X7_weigh : MV yX7_weigh cX7_weigh 6 (some .int) 1 := ⟨⟨tw_669, tw_79, by decide +kernel, by decide +kernel, by decide +kernel⟩, tw_667, tw_668⟩
theorem mi_X7_work : MS yX7_work cX7_work 5 (some .long) 3 := ⟨⟨tw_687, tw_79, by decide +kernel, by decide +kernel, by decide +kernel⟩, tw_686⟩
theorem mi_X8_init : MI yX8_init cX8_init 5 4 := ⟨⟨tw_419, tw_81, by decide +kernel, by decide +kernel, by decide +kernel⟩, tw_418, rfl⟩
theorem mi_X9_holds : MS yX9_holds cX9_holds 6 (some .boolean) 2 := ⟨⟨tw_799, tw_87, by decide +kernel, by decide +kernel, by decide +kernel⟩, tw_798⟩
theorem mi_X9_init : MI yX9_init cX9_init 4 3 := ⟨⟨tw_795, tw_87, by decide +kernel, by decide +kernel, by decide +kernel⟩, tw_794, rfl⟩
