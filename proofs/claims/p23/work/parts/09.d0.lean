theorem cA_bool {D : va_G} {cl : List vw_C} {tys : List (ClassId × FieldType)} {s : State} {c1 c2 : ClassId} {k1 k2 : Nat} (hK : va_K D cl tys s) (h1 : tys[k1]? = some (c1, .boolean)) (h2 : tys[k2]? = some (c2, .boolean)) : c1 = c2 :=
  Option.some.inj ((show s.vm.findClass _ = some c1 from (hK.2 _ _ h1).2).symm.trans (show s.vm.findClass _ = some c2 from (hK.2 _ _ h2).2))
theorem cA_long {D : va_G} {cl : List vw_C} {tys : List (ClassId × FieldType)} {s : State} {c1 c2 : ClassId} {k1 k2 : Nat} (hK : va_K D cl tys s) (h1 : tys[k1]? = some (c1, .long)) (h2 : tys[k2]? = some (c2, .long)) : c1 = c2 :=
  Option.some.inj ((show s.vm.findClass _ = some c1 from (hK.2 _ _ h1).2).symm.trans (show s.vm.findClass _ = some c2 from (hK.2 _ _ h2).2))
def WR (g : gG) (A : Nat → Prop) (H0 H : Heap) (locs : List Loc) (ws : va_W) : Prop := va_P g.1 vwCl ws H ∧ va_D A ws ∧ va_S A H0 H locs
def at_r (g : gG) (A : Nat → Prop) (ws : va_W) (t : State) : Prop := va_P g.1 vwCl ws t.heap ∧ va_K g.1 vwCl (tyL g) t ∧ va_D A ws
def PCr (g : gG) (av : List Value) (ws : va_W) (sz : Nat) : Array Value → State → Prop := va_Pc av (fun U => U.heap.size = sz ∧ at_r g (fun _ => True) ws U ∧ Zs g (va_A ws sz) U U.heap)
theorem WR_mid {g : gG} {A : Nat → Prop} {H0 H : Heap} {locs : List Loc} {X O Y : va_W} (h : WR g A H0 H locs ((X ++ O) ++ Y)) : WR g A H0 H locs ((X ++ Y) ++ O) := by
  obtain ⟨P, D, S⟩ := h
  have DXO := dL D
  refine ⟨((pL (pL P)).app (pR P)).app (pR (pL P)), va_D.app (va_D.app (dL DXO) (dR D) (fun i j p q hi hj => dX_ D (by rw [List.getElem?_append_left (List.getElem?_eq_some_iff.mp hi).1]; exact hi) hj)) (dR DXO) (fun i j p q hi hj => ?_), S⟩
  by_cases hl : i < X.length
  · rw [List.getElem?_append_left hl] at hi
    exact dX_ DXO hi hj
  · rw [List.getElem?_append_right (by omega)] at hi
    exact fun e => dX_ D (eR j q hj) hi e.symm
theorem WR_R {g : gG} {A : Nat → Prop} {H0 H : Heap} {locs : List Loc} {w1 w2 : va_W} (h : WR g A H0 H locs (w1 ++ w2)) : WR g A H0 H locs w2 := ⟨pR h.1, dR h.2.1, h.2.2⟩
theorem rJoin {g : gG} {A : Nat → Prop} {H0 H H1 : Heap} {locs locs1 : List Loc} {w1 w2 w2' : va_W} (hW : WR g A H0 H locs (w1 ++ w2)) (hB : va_P g.1 vwCl w2' H1 ∧ va_D (va_A w2 H.size) w2') (hk : ∀ q, q < H.size → ¬ va_A w2 H.size q → H1[q]? = H[q]?) (hS : va_S A H0 H1 locs1) (hfr : ∀ q, va_A w2 H.size q → A q) : WR g A H0 H1 locs1 (w1 ++ w2') := by
  obtain ⟨hP, hD, -⟩ := hW
  have hn : ∀ (k : Nat) (q : Nat × va_E), w1[k]? = some q → q.1 < H.size ∧ ¬ va_A w2 H.size q.1 := by
    intro k q hq
    have hlt : q.1 < H.size := (pL hP k q hq).lt
    refine ⟨hlt, fun h => ?_⟩
    rcases h with ⟨k2, e, h⟩ | h
    · exact dX_ hD hq h rfl
    · omega
  exact ⟨((pL hP).kept fun k q hq => hk q.1 (hn k q hq).1 (hn k q hq).2).app hB.1, va_D.app (dL hD) (hB.2.weaken fun _ q _ h => hfr q.1 h) (fun i j p q hi hj he => (hn i p hi).2 (he.symm ▸ hB.2.2 j q hj)), hS⟩
section RAWC
variable {p : Program} {l : Launch} {e : Env} {R : Room} {s : State} {m : MethodId} {args : Array Value} {below : List Frame} {meth : Method} {c : Code} {H : Heap} {locs : List Loc} {cells slots : Nat} {Q : State → Prop}
variable {pc : Nat} {ls : Array Slot} {rest : List Value} {cc : ByteArray} {nL : Nat} {own : String} {g : gG} {A : Nat → Prop} {ws : va_W} {index : Nat}
variable {y : MethodName} {b : ByteArray} {mL k mc ms : Nat} {ret : Option FieldType} {rm : Room} {Qc : Array Value → State → Outcome → State → Prop} {As : List Value} {st0 : List Value} {x : Nat}
theorem entr {ret : Option FieldType} {maxL : Nat} {sz : Nat} {av : List Value} (hy : plainName y.cls = true) (hle : (lg_sl av).length ≤ maxL)
    (body : ∀ (p : Program) (e : Env) (s : State) (m : MethodId) (below : List Frame) (meth : Method) (c : Code) (ls : Array Slot), s.heap.size = sz → CC g (va_A ws sz) p m c cc maxL s av.toArray y.cls → WR g (va_A ws sz) s.heap s.heap [] ws → meth.sig.returnType = ret → meth.locks = false → meth.name = y.name → lv_has ls maxL (lv_args 0 av) → W p l e rm s m av.toArray below meth c s.heap [] 0 0 (MQ below Qc av.toArray s mc ms (va_A ws sz)) (F0 m 0 ls [])) :
    Met l y (WS y cc maxL ret) rm (PCr g av ws sz) Qc mc ms (va_A ws sz) := by
  refine Met.ofW (cc := cc) (maxL := maxL) (ret := ret) hy rfl ?_
  intro p e s m args below meth c s₁ B hml hv
  obtain ⟨rfl, hsz, ⟨hP, hK, hD⟩, hZ⟩ := hv
  have hts0 := atoms_spec (ws := WS y cc maxL ret) B.pre
  have hts : ∀ w ∈ lw_t2, w.before av.toArray s = true := fun w h => hts0 w (List.mem_cons_of_mem _ h)
  rw [lg_entry_eq]
  exact body p e s m below meth c _ hsz ⟨⟨B.exec, B.bytes, hml, findClass_of_methodNamed B.named, hts⟩, hK, fun q h => Or.inr (hsz ▸ h), hZ⟩ ⟨hP, hD.self, va_S.rf⟩ B.returns B.notSynchronized (name_of_methodNamed B.named B.method).1 (lv_entry av hle)
theorem end_r {U : Type} {post : U → Prop} {st : U → va_W} (C : CC g A p m c cc nL s args own) (hr : meth.sig.returnType = none) (hlocks : meth.locks = false) (u : U) (hW : WR g A s.heap H locs (st u)) (hp : post u) (hdg : decode cc pc = .ok (.return_, 1)) : W p l e R s m args below meth c H locs cells slots (MQ below (va_Qv post (fun u t => at_r g A (st u) t) A) args s cells slots A) (F0 m pc ls []) :=
  W.vret C.1.1 C.1.2.1 hr (fun t ht hw => ⟨⟨u, rfl, hp, by rw [ht]; exact hW.1, va_K.moved hw.alike C.2.1, hW.2.1⟩, hW.2.2.F ht⟩) hW.2.2.2.2 hdg hlocks
theorem frs_r (C : CC g A p m c cc nL s args own) (hW : WR g A s.heap H locs ws) : ∀ q, va_A ws H.size q → A q := by
  intro q h
  rcases h with ⟨k, e, h⟩ | h
  · exact hW.2.1.2 k _ h
  · exact C.2.2.1 q (Nat.le_trans hW.2.2.1 h)
theorem zsr_to {U : State} (C : CC g A p m c cc nL s args own) (hW : WR g A s.heap H locs ws) (hU : U.heap = H) (hw : s.WarmedH U.vm) : Zs g (va_A ws H.size) U U.heap := by
  have h1 := C.2.2.2
  have hk : ∀ a : Nat, a < s.heap.size → ¬ A a → H[a]? = s.heap[a]? := hW.2.2.2.1
  rw [hU]
  exact ⟨((h1.1.kept hk).moved hw.alike).narrow (frs_r C hW), ((h1.2.1.kept hk).moved hw.alike).narrow (frs_r C hW), h1.2.2.warm hw⟩
theorem pcr_to {av : List Value} (C : CC g A p m c cc nL s args own) (hW : WR g A s.heap H locs ws) : ∀ U : State, U.heap = H → s.WarmedH U.vm → PCr g av ws H.size av.toArray U := fun U hU hw =>
  ⟨rfl, by rw [hU], ⟨by rw [hU]; exact hW.1, va_K.moved hw.alike C.2.1, hW.2.1.weaken (fun _ _ _ _ => trivial)⟩, zsr_to C hW hU hw⟩
theorem pcr_blind {av : List Value} {sz : Nat} : FrameBlind (PCr g av ws sz) := fun a U gf mk q => by
  obtain ⟨q0, q1, ⟨qP, qK, qD⟩, qZ1, qZ2, qZ3⟩ := q
  exact ⟨q0, q1, ⟨qP, va_K.moved (u := U) (U := U.calling gf mk a) (Vm.Alike.refl U.vm) qK, qD⟩, va_Z.moved (u := U) (U := U.calling gf mk a) (Vm.Alike.refl U.vm) qZ1, va_T.moved (u := U) (U := U.calling gf mk a) (Vm.Alike.refl U.vm) qZ2, NB.same (s := U) (U := U.calling gf mk a) rfl qZ3⟩
theorem runIr (C : CC g A p m c cc nL s args own) (hW : WR g A s.heap H locs ws) (hM : Met l y (WS y b mL none) rm (PCr g (.ref x :: As) ws H.size) Qc mc ms (va_A ws H.size)) (mi : MI y b mL k) (hl : Cond.methodLink own index y ∈ lw_t2) (hR : RMok R rm mL mc ms) (hn : As.length = k) (hls : ls.size = nL) (hst : st0 = As.reverse ++ .ref x :: rest) (hcat : (rest.map fun v => v.category).sum ≤ 8) (hdg : decode cc pc = .ok (.invokespecial index, 3)) (hf : cells + mc ≤ R.cells ∧ slots + ms ≤ R.slots) : va_Run p l e R s m args below meth c H locs cells slots mc ms (F0 m pc ls st0) rest (Qc (Value.ref x :: As).toArray) (va_A ws H.size) :=
  va_runI (As := As) (rest := rest) C.1 hM (cwI k C.1.2.2.2.2 (good_WS mi.1) rfl hR.1 hR.2.1 (C.1.2.2.2.2 _ mi.1.2.1) (C.1.2.2.2.2 _ hl) (C.1.2.2.2.2 _ mi.2.1) mi.2.2 mi.1.2.2 hR.2.2) ⟨pcr_blind, pcr_to C hW⟩ rfl hn hls hst (lv_room hcat) hdg hf
theorem runINr {host : String} (C : CC g A p m c cc nL s args own) (hW : WR g A s.heap H locs ws) (hM : Met l y (WS y b mL none) rm (PCr g (.ref x :: As) ws H.size) Qc mc ms (va_A ws H.size)) (mi : MI y b mL k) (hl : (own, index, y, host) ∈ nbM) (hR : RMok R rm mL mc ms) (hn : As.length = k) (hls : ls.size = nL) (hst : st0 = As.reverse ++ .ref x :: rest) (hcat : (rest.map fun v => v.category).sum ≤ 8) (hdg : decode cc pc = .ok (.invokespecial index, 3)) (hf : cells + mc ≤ R.cells ∧ slots + ms ≤ R.slots) : va_Run p l e R s m args below meth c H locs cells slots mc ms (F0 m pc ls st0) rest (Qc (Value.ref x :: As).toArray) (va_A ws H.size) :=
  va_runIN (host := host) (As := As) (rest := rest) C.1 hM ⟨va_cnB k C.1.2.2.2.2 (good_WS mi.1) rfl hR.1 hR.2.1 (C.2.2.2.2.2.1 _ hl) (C.1.2.2.2.2 _ mi.1.2.1) mi.1.2.2 hR.2.2, mi.2.2, C.1.2.2.2.2 _ mi.2.1⟩ ⟨pcr_blind, pcr_to C hW⟩ rfl hn hls hst (lv_room hcat) hdg hf
theorem cvr_ {U : Type} {post : U → Prop} {st : U → va_W} {a0 : Array Value} {w1 w2 : va_W} (C : CC g A p m c cc nL s args own) (hW : WR g A s.heap H locs (w1 ++ w2)) (hr : va_Run p l e R s m args below meth c H locs cells slots mc ms (F0 m pc ls st0) rest (va_Qv post (fun u t => at_r g (va_A w2 H.size) (st u) t) (va_A w2 H.size) a0) (va_A w2 H.size))
    (kk : ∀ (u : U) (H1 : Heap) (locs1 : List Loc), post u → WR g A s.heap H1 locs1 (w1 ++ st u) → W p l e R s m args below meth c H1 locs1 (cells + mc) (slots + ms) Q (F0 m (pc + 3) ls rest)) : W p l e R s m args below meth c H locs cells slots Q (F0 m pc ls st0) :=
  va_callv hr hW.2.2 (fun q _ h => frs_r C (WR_R hW) q h) (frs_r C (WR_R hW)) (fun u t H1 locs1 ht _ hp hB _ hk hS => kk u H1 locs1 hp (rJoin hW ⟨ht ▸ hB.1, hB.2.2⟩ hk hS (frs_r C (WR_R hW))))
/-- a call of a contract over the store -/
theorem cvs_ {U : Type} {post : U → Prop} {st : U → sT} {a0 : Array Value} {w1 : va_W} {g1 : gG} {T : sT} (C : CC g A p m c cc nL s args own) (hg : g1.1 = g.1) (hW : WR g A s.heap H locs (w1 ++ wdl g1 T.1 T.2)) (hr : va_Run p l e R s m args below meth c H locs cells slots mc ms (F0 m pc ls st0) rest (va_Qv post (fun u t => at_ g1 (FR g1 T H.size) (st u) t) (FR g1 T H.size) a0) (FR g1 T H.size))
    (kk : ∀ (u : U) (H1 : Heap) (locs1 : List Loc), post u → WR g A s.heap H1 locs1 (w1 ++ wdl g1 (st u).1 (st u).2) → W p l e R s m args below meth c H1 locs1 (cells + mc) (slots + ms) Q (F0 m (pc + 3) ls rest)) : W p l e R s m args below meth c H locs cells slots Q (F0 m pc ls st0) :=
  va_callv hr hW.2.2 (fun q _ h => frs_r C (WR_R hW) q h) (frs_r C (WR_R hW)) (fun u t H1 locs1 ht _ hp hB _ hk hS => kk u H1 locs1 hp (rJoin hW ⟨ht ▸ hg ▸ hB.1, hB.2.2.1⟩ hk hS (frs_r C (WR_R hW))))
theorem cis_ {U : Type} {post : Int32 → U → Prop} {st : U → sT} {a0 : Array Value} {w1 : va_W} {g1 : gG} {T : sT} (C : CC g A p m c cc nL s args own) (hg : g1.1 = g.1) (hW : WR g A s.heap H locs (w1 ++ wdl g1 T.1 T.2)) (hr : va_Run p l e R s m args below meth c H locs cells slots mc ms (F0 m pc ls st0) rest (va_Qi post (fun u t => at_ g1 (FR g1 T H.size) (st u) t) (FR g1 T H.size) a0) (FR g1 T H.size))
    (kk : ∀ (r : Int32) (u : U) (H1 : Heap) (locs1 : List Loc), post r u → WR g A s.heap H1 locs1 (w1 ++ wdl g1 (st u).1 (st u).2) → W p l e R s m args below meth c H1 locs1 (cells + mc) (slots + ms) Q (F0 m (pc + 3) ls (.int r :: rest))) : W p l e R s m args below meth c H locs cells slots Q (F0 m pc ls st0) :=
  va_calli hr hW.2.2 (fun q _ h => frs_r C (WR_R hW) q h) (frs_r C (WR_R hW)) (fun r u t H1 locs1 ht _ hp hB _ hk hS => kk r u H1 locs1 hp (rJoin hW ⟨ht ▸ hg ▸ hB.1, hB.2.2.1⟩ hk hS (frs_r C (WR_R hW))))
theorem r_newi (C : CC g A p m c cc nL s args own) (hW : WR g A s.heap H locs ws) (harr : Cond.arrayClass .int ∈ lw_t2) {n : Int32} {N' : Nat} (hn : ¬ n < 0) (hN : n.toNatClampNeg = N') (hb : N' ≤ 20000) (hf : cells + 1 ≤ R.cells ∧ slots + N' ≤ R.slots) (hdg : decode cc pc = .ok (.newarray .int, 2))
    (kk : ∀ (q : Nat) (H1 : Heap), WR g A s.heap H1 locs (ws ++ [(q, .inl (g.2.1 0, N', .inl (fun _ => 0)))]) → W p l e R s m args below meth c H1 locs (cells + 1) (slots + N') Q (F0 m (pc + 2) ls (.ref q :: rest))) : W p l e R s m args below meth c H locs cells slots Q (F0 m pc ls (.int n :: rest)) :=
  va_newa (atype := .int) (ty := .int) (a0 := (N', .inl (fun _ => 0))) C.1.1 C.1.2.1 (C.1.2.2.2.2 _ harr) rfl C.2.1 hW.1 hW.2.1 hW.2.2 C.2.2.1 (fun _ => rfl) hn hN (by show N' * 4 ≤ _; omega) hf.1 hf.2 hdg (fun q cA H1 hK hP hD hS => by
    have ec : cA = g.2.1 0 := cA_int (k1 := 4) (k2 := 0) hK rfl rfl
    subst ec
    exact kk q H1 ⟨hP, hD, hS⟩)
theorem r_newz (C : CC g A p m c cc nL s args own) (hW : WR g A s.heap H locs ws) (harr : Cond.arrayClass .boolean ∈ lw_t2) {n : Int32} {N' : Nat} (hn : ¬ n < 0) (hN : n.toNatClampNeg = N') (hb : N' ≤ 20000) (hf : cells + 1 ≤ R.cells ∧ slots + N' ≤ R.slots) (hdg : decode cc pc = .ok (.newarray .boolean, 2))
    (kk : ∀ (q : Nat) (H1 : Heap), WR g A s.heap H1 locs (ws ++ [(q, .inl (g.2.1 2, N', .inl (fun _ => 0)))]) → W p l e R s m args below meth c H1 locs (cells + 1) (slots + N') Q (F0 m (pc + 2) ls (.ref q :: rest))) : W p l e R s m args below meth c H locs cells slots Q (F0 m pc ls (.int n :: rest)) :=
  va_newa (atype := .boolean) (ty := .boolean) (a0 := (N', .inl (fun _ => 0))) C.1.1 C.1.2.1 (C.1.2.2.2.2 _ harr) rfl C.2.1 hW.1 hW.2.1 hW.2.2 C.2.2.1 (fun _ => rfl) hn hN (by show N' * 1 ≤ _; omega) hf.1 hf.2 hdg (fun q cA H1 hK hP hD hS => by
    have ec : cA = g.2.1 2 := cA_bool (k1 := 4) (k2 := 2) hK rfl rfl
    subst ec
    exact kk q H1 ⟨hP, hD, hS⟩)
theorem r_newl (C : CC g A p m c cc nL s args own) (hW : WR g A s.heap H locs ws) (harr : Cond.arrayClass .long ∈ lw_t2) {n : Int32} {N' : Nat} (hn : ¬ n < 0) (hN : n.toNatClampNeg = N') (hb : N' ≤ 20000) (hf : cells + 1 ≤ R.cells ∧ slots + N' ≤ R.slots) (hdg : decode cc pc = .ok (.newarray .long, 2))
    (kk : ∀ (q : Nat) (H1 : Heap), WR g A s.heap H1 locs (ws ++ [(q, .inl (g.2.1 1, N', .inr (.inl (fun _ => 0))))]) → W p l e R s m args below meth c H1 locs (cells + 1) (slots + N') Q (F0 m (pc + 2) ls (.ref q :: rest))) : W p l e R s m args below meth c H locs cells slots Q (F0 m pc ls (.int n :: rest)) :=
  va_newa (atype := .long) (ty := .long) (a0 := (N', .inr (.inl (fun _ => 0)))) C.1.1 C.1.2.1 (C.1.2.2.2.2 _ harr) rfl C.2.1 hW.1 hW.2.1 hW.2.2 C.2.2.1 (fun _ => rfl) hn hN (by show N' * 8 ≤ _; omega) hf.1 hf.2 hdg (fun q cA H1 hK hP hD hS => by
    have ec : cA = g.2.1 1 := cA_long (k1 := 4) (k2 := 1) hK rfl rfl
    subst ec
    exact kk q H1 ⟨hP, hD, hS⟩)
theorem WR_WB {g1 : gG} {S : sS} {d : List (Nat × Nat)} (hg : g1.1 = g.1) (hW : WR g A s.heap H locs (wdl g1 S d)) (hO : okd g1 d) : WB g1 A s.heap H locs S d := ⟨hg ▸ hW.1, hW.2.1, hW.2.2, hO⟩
theorem CC_g {g1 : gG} (C : CC g A p m c cc nL s args own) (h1 : g1.1 = g.1) (h2 : g1.2.1 = g.2.1) (h3 : g1.2.2.2 = g.2.2.2) : CC g1 A p m c cc nL s args own := by
  obtain ⟨D, cl, ad, em⟩ := g
  obtain ⟨D1, cl1, ad1, em1⟩ := g1
  cases h1; cases h2; cases h3
  exact C
end RAWC
theorem dJxa1e45_init_da8c8_0 : decode cJxa1e45_init_da8c8 0 = .ok (.aload_n 0, 1) := dk_aload_n_0 (by decide +kernel)
theorem dJxa1e45_init_da8c8_1 : decode cJxa1e45_init_da8c8 1 = .ok (.invokespecial 1, 3) := dk_invokespecial (by decide +kernel)
theorem dJxa1e45_init_da8c8_4 : decode cJxa1e45_init_da8c8 4 = .ok (.return_, 1) := dk_return_ (by decide +kernel)
theorem dJxc12de_init_da8c8_0 : decode cJxc12de_init_da8c8 0 = .ok (.aload_n 0, 1) := dk_aload_n_0 (by decide +kernel)
theorem dJxc12de_init_da8c8_1 : decode cJxc12de_init_da8c8 1 = .ok (.invokespecial 1, 3) := dk_invokespecial (by decide +kernel)
theorem dJxc12de_init_da8c8_4 : decode cJxc12de_init_da8c8 4 = .ok (.aload_n 0, 1) := dk_aload_n_0 (by decide +kernel)
theorem dJxc12de_init_da8c8_5 : decode cJxc12de_init_da8c8 5 = .ok (.iconst 0, 1) := dk_iconst_0 (by decide +kernel)
theorem dJxc12de_init_da8c8_6 : decode cJxc12de_init_da8c8 6 = .ok (.putfield 7, 3) := dk_putfield (by decide +kernel)
theorem dJxc12de_init_da8c8_9 : decode cJxc12de_init_da8c8 9 = .ok (.return_, 1) := dk_return_ (by decide +kernel)
theorem dJx4a65c_init_da8c8_0 : decode cJx4a65c_init_da8c8 0 = .ok (.aload_n 0, 1) := dk_aload_n_0 (by decide +kernel)
theorem dJx4a65c_init_da8c8_1 : decode cJx4a65c_init_da8c8 1 = .ok (.invokespecial 1, 3) := dk_invokespecial (by decide +kernel)
theorem dJx4a65c_init_da8c8_4 : decode cJx4a65c_init_da8c8 4 = .ok (.aload_n 0, 1) := dk_aload_n_0 (by decide +kernel)
theorem dJx4a65c_init_da8c8_5 : decode cJx4a65c_init_da8c8 5 = .ok (.getstatic 39, 3) := dk_getstatic (by decide +kernel)
theorem dJx4a65c_init_da8c8_8 : decode cJx4a65c_init_da8c8 8 = .ok (.putfield 9, 3) := dk_putfield (by decide +kernel)
theorem dJx4a65c_init_da8c8_11 : decode cJx4a65c_init_da8c8 11 = .ok (.return_, 1) := dk_return_ (by decide +kernel)
theorem dX2_init_0 : decode cX2_init 0 = .ok (.aload_n 0, 1) := dk_aload_n_0 (by decide +kernel)
theorem dX2_init_1 : decode cX2_init 1 = .ok (.invokespecial 3, 3) := dk_invokespecial (by decide +kernel)
theorem dX2_init_4 : decode cX2_init 4 = .ok (.aload_n 0, 1) := dk_aload_n_0 (by decide +kernel)
theorem dX2_init_5 : decode cX2_init 5 = .ok (.new 9, 3) := dk_new (by decide +kernel)
theorem dX2_init_8 : decode cX2_init 8 = .ok (.dup, 1) := dk_dup (by decide +kernel)
theorem dX2_init_9 : decode cX2_init 9 = .ok (.invokespecial 11, 3) := dk_invokespecial (by decide +kernel)
theorem dX2_init_12 : decode cX2_init 12 = .ok (.putfield 12, 3) := dk_putfield (by decide +kernel)
theorem dX2_init_15 : decode cX2_init 15 = .ok (.return_, 1) := dk_return_ (by decide +kernel)
theorem dX7_init_0 : decode cX7_init 0 = .ok (.aload_n 0, 1) := dk_aload_n_0 (by decide +kernel)
theorem dX7_init_1 : decode cX7_init 1 = .ok (.invokespecial 3, 3) := dk_invokespecial (by decide +kernel)
theorem dX7_init_4 : decode cX7_init 4 = .ok (.aload_n 0, 1) := dk_aload_n_0 (by decide +kernel)
theorem dX7_init_5 : decode cX7_init 5 = .ok (.bipush 60, 2) := dk_bipush (by decide +kernel)
theorem dX7_init_7 : decode cX7_init 7 = .ok (.newarray .int, 2) := by decide +kernel
theorem dX7_init_9 : decode cX7_init 9 = .ok (.putfield 9, 3) := dk_putfield (by decide +kernel)
theorem dX7_init_12 : decode cX7_init 12 = .ok (.return_, 1) := dk_return_ (by decide +kernel)
theorem dX10_init_0 : decode cX10_init 0 = .ok (.aload_n 0, 1) := dk_aload_n_0 (by decide +kernel)
theorem dX10_init_1 : decode cX10_init 1 = .ok (.invokespecial 3, 3) := dk_invokespecial (by decide +kernel)
theorem dX10_init_4 : decode cX10_init 4 = .ok (.aload_n 0, 1) := dk_aload_n_0 (by decide +kernel)
theorem dX10_init_5 : decode cX10_init 5 = .ok (.bipush 60, 2) := dk_bipush (by decide +kernel)
theorem dX10_init_7 : decode cX10_init 7 = .ok (.newarray .int, 2) := by decide +kernel
theorem dX10_init_9 : decode cX10_init 9 = .ok (.putfield 9, 3) := dk_putfield (by decide +kernel)
theorem dX10_init_12 : decode cX10_init 12 = .ok (.aload_n 0, 1) := dk_aload_n_0 (by decide +kernel)
theorem dX10_init_13 : decode cX10_init 13 = .ok (.bipush 60, 2) := dk_bipush (by decide +kernel)
theorem dX10_init_15 : decode cX10_init 15 = .ok (.newarray .int, 2) := by decide +kernel
theorem dX10_init_17 : decode cX10_init 17 = .ok (.putfield 15, 3) := dk_putfield (by decide +kernel)
theorem dX10_init_20 : decode cX10_init 20 = .ok (.return_, 1) := dk_return_ (by decide +kernel)
set_option maxHeartbeats 40000000 in
set_option maxRecDepth 100000 in
theorem k_Jxa1e45_init_da8c8 (l : Launch) (g : gG) (q : Nat) (sz : Nat) : Met l yJxa1e45_init_da8c8 (WS yJxa1e45_init_da8c8 cJxa1e45_init_da8c8 1 none) (RM (1) 0 0) (PCr g [.ref q] ([] : va_W) sz) (va_Qv (fun (u : Unit) => True) (fun u t => at_r g (va_A ([] : va_W) sz) (([] : va_W)) t) (va_A ([] : va_W) sz)) 0 0 (va_A ([] : va_W) sz) := by
  refine entr (by decide +kernel) (Nat.le_of_ble_eq_true rfl) ?_
  intro p e s m below meth c ls hsz C hW hr hlocks hname hl
  generalize va_A ([] : va_W) sz = A at C hW ⊢
  generalize hQ9 : (va_Qv (fun (u : Unit) => True) (fun u t => at_r g A (([] : va_W)) t) A) = Q9
  have hx := C.1.1
  have hb := C.1.2.1
  have hts := C.1.2.2.2.2
  have hl : lv_has ls 1 [(0, .ref q)] := hl
  obtain ⟨H, hH⟩ : ∃ H : Heap, H = s.heap := ⟨_, rfl⟩
  obtain ⟨locs, hlocs⟩ : ∃ q : List Loc, q = [] := ⟨_, rfl⟩
  have hW : WR g A s.heap H locs ([] : va_W) := by rw [hH, hlocs]; exact hW
  refine start_ hH hlocs ?_
  refine lv_aload_n hx hb dJxa1e45_init_da8c8_0 rfl (lv_at hl 0 rfl) ?_
  refine W.objInit hx hb C.1.2.2.2.1 (hts _ tw_116) (hts _ tw_97) (hts _ tw_oi2) rfl (by rw [C.1.2.2.1]; exact hl.1) rfl dJxa1e45_init_da8c8_1 (Nat.le_of_ble_eq_true rfl) (Nat.le_of_ble_eq_true rfl) ?_
  show W p l e (RM (1) 0 0) s m ([.ref q] : List Value).toArray below meth c H locs 0 0 (MQ below Q9 ([.ref q] : List Value).toArray s 0 0 A) (F0 m 4 ls [])
  subst hQ9
  exact end_r C hr hlocks () hW trivial dJxa1e45_init_da8c8_4

set_option maxHeartbeats 40000000 in
set_option maxRecDepth 100000 in
theorem k_Jxc12de_init_da8c8 (l : Launch) (g : gG) (q : Nat) (sz : Nat) : Met l yJxc12de_init_da8c8 (WS yJxc12de_init_da8c8 cJxc12de_init_da8c8 1 none) (RM (2) 0 0) (PCr g [.ref q] ([(q, .inr (0, [.int 0, .null, .int 0]))] : va_W) sz) (va_Qv (fun (u : Unit) => True) (fun u t => at_r g (va_A ([(q, .inr (0, [.int 0, .null, .int 0]))] : va_W) sz) ([(q, .inr (0, [.int 0, .null, .int 0]))]) t) (va_A ([(q, .inr (0, [.int 0, .null, .int 0]))] : va_W) sz)) 0 0 (va_A ([(q, .inr (0, [.int 0, .null, .int 0]))] : va_W) sz) := by
  refine entr (by decide +kernel) (Nat.le_of_ble_eq_true rfl) ?_
  intro p e s m below meth c ls hsz C hW hr hlocks hname hl
  generalize va_A ([(q, .inr (0, [.int 0, .null, .int 0]))] : va_W) sz = A at C hW ⊢
  generalize hQ9 : (va_Qv (fun (u : Unit) => True) (fun u t => at_r g A ([(q, .inr (0, [.int 0, .null, .int 0]))]) t) A) = Q9
  have hx := C.1.1
  have hb := C.1.2.1
  have hts := C.1.2.2.2.2
  have hl : lv_has ls 1 [(0, .ref q)] := hl
  obtain ⟨H, hH⟩ : ∃ H : Heap, H = s.heap := ⟨_, rfl⟩
  obtain ⟨locs, hlocs⟩ : ∃ q : List Loc, q = [] := ⟨_, rfl⟩
  have hW : WR g A s.heap H locs ([(q, .inr (0, [.int 0, .null, .int 0]))] : va_W) := by rw [hH, hlocs]; exact hW
  refine start_ hH hlocs ?_
  refine lv_aload_n hx hb dJxc12de_init_da8c8_0 rfl (lv_at hl 0 rfl) ?_
  have hW : WR g A s.heap H locs (([(q, .inr (0, [.int 0, .null, .int 0]))] : va_W) ++ ([] : va_W)) := by rw [List.append_nil]; exact hW
  refine cvr_ (w1 := ([(q, .inr (0, [.int 0, .null, .int 0]))] : va_W)) (w2 := ([] : va_W)) C hW (runIr (x := q) (As := []) (rest := []) C (WR_R (w1 := ([(q, .inr (0, [.int 0, .null, .int 0]))] : va_W)) (w2 := ([] : va_W)) hW) (k_Jxa1e45_init_da8c8 l g q H.size) mi_Jxa1e45_init_da8c8 tw_113 ⟨rfl, rfl, Nat.le_of_ble_eq_true rfl, Nat.le_of_ble_eq_true rfl⟩ rfl hl.1 rfl (Nat.le_of_ble_eq_true rfl) dJxc12de_init_da8c8_1 ⟨Nat.le_of_ble_eq_true rfl, Nat.le_of_ble_eq_true rfl⟩) (fun u1 H locs hp1 hW => ?_)
  rw [List.append_nil] at hW
  have hW : WR g A s.heap H locs ([(q, .inr (0, [.int 0, .null, .int 0]))] : va_W) := hW
  refine lv_aload_n hx hb dJxc12de_init_da8c8_4 rfl (lv_at hl 0 rfl) ?_
  refine lv_iconst (v := 0) hx hb dJxc12de_init_da8c8_5 (by decide) ?_
  refine va_put C.1.1 C.1.2.1 C.1.2.2.2.2 in_Jx4a65c tyJx4a65c tyJx4a65c_ok nmJx4a65c C.1.2.2.2.1 C.2.1 hW.1 hW.2.1 hW.2.2 0 rfl rfl 0 (by decide) (C.1.2.2.2.2 _ tw_121) (fun _ h => h) rfl (tyJx4a65c_ok 0 (by decide)) rfl rfl (Nat.le_of_ble_eq_true rfl) dJxc12de_init_da8c8_6 (fun H locs hP hD hS => ?_)
  have hW : WR g A s.heap H locs ([(q, .inr (0, [.int 0, .null, .int 0]))] : va_W) := ⟨hP, hD, hS⟩
  subst hQ9
  exact end_r C hr hlocks () hW trivial dJxc12de_init_da8c8_9

set_option maxHeartbeats 40000000 in
set_option maxRecDepth 100000 in
theorem k_Jx4a65c_init_da8c8 (l : Launch) (g : gG) (q : Nat) (sz : Nat) : Met l yJx4a65c_init_da8c8 (WS yJx4a65c_init_da8c8 cJx4a65c_init_da8c8 1 none) (RM (3) 0 0) (PCr g [.ref q] ([(q, .inr (0, [.int 0, .null, .int 0]))] : va_W) sz) (va_Qv (fun (u : Unit) => True) (fun u t => at_r g (va_A ([(q, .inr (0, [.int 0, .null, .int 0]))] : va_W) sz) ([(q, .inr (0, [.int 0, .ref g.2.2.2, .int 0]))]) t) (va_A ([(q, .inr (0, [.int 0, .null, .int 0]))] : va_W) sz)) 0 0 (va_A ([(q, .inr (0, [.int 0, .null, .int 0]))] : va_W) sz) := by
  refine entr (by decide +kernel) (Nat.le_of_ble_eq_true rfl) ?_
  intro p e s m below meth c ls hsz C hW hr hlocks hname hl
  generalize va_A ([(q, .inr (0, [.int 0, .null, .int 0]))] : va_W) sz = A at C hW ⊢
  generalize hQ9 : (va_Qv (fun (u : Unit) => True) (fun u t => at_r g A ([(q, .inr (0, [.int 0, .ref g.2.2.2, .int 0]))]) t) A) = Q9
  have hx := C.1.1
  have hb := C.1.2.1
  have hts := C.1.2.2.2.2
  have hl : lv_has ls 1 [(0, .ref q)] := hl
  obtain ⟨H, hH⟩ : ∃ H : Heap, H = s.heap := ⟨_, rfl⟩
  obtain ⟨locs, hlocs⟩ : ∃ q : List Loc, q = [] := ⟨_, rfl⟩
  have hW : WR g A s.heap H locs ([(q, .inr (0, [.int 0, .null, .int 0]))] : va_W) := by rw [hH, hlocs]; exact hW
  refine start_ hH hlocs ?_
  refine lv_aload_n hx hb dJx4a65c_init_da8c8_0 rfl (lv_at hl 0 rfl) ?_
  refine cvr_ (w1 := ([] : va_W)) (w2 := [(q, .inr (0, [.int 0, .null, .int 0]))]) C hW (runIr (x := q) (As := []) (rest := []) C (WR_R (w1 := ([] : va_W)) (w2 := [(q, .inr (0, [.int 0, .null, .int 0]))]) hW) (k_Jxc12de_init_da8c8 l g q H.size) mi_Jxc12de_init_da8c8 tw_110 ⟨rfl, rfl, Nat.le_of_ble_eq_true rfl, Nat.le_of_ble_eq_true rfl⟩ rfl hl.1 rfl (Nat.le_of_ble_eq_true rfl) dJx4a65c_init_da8c8_1 ⟨Nat.le_of_ble_eq_true rfl, Nat.le_of_ble_eq_true rfl⟩) (fun u1 H locs hp1 hW => ?_)
  have hW : WR g A s.heap H locs ([(q, .inr (0, [.int 0, .null, .int 0]))] : va_W) := hW
  refine lv_aload_n hx hb dJx4a65c_init_da8c8_4 rfl (lv_at hl 0 rfl) ?_
  refine va_gets hx hb C.2.2.2.1 hW.2.2 C.1.2.2.2.1 (hts _ tw_117) (fun _ h => h) dJx4a65c_init_da8c8_5 ?_
  refine va_put C.1.1 C.1.2.1 C.1.2.2.2.2 in_Jx4a65c tyJx4a65c tyJx4a65c_ok nmJx4a65c C.1.2.2.2.1 C.2.1 hW.1 hW.2.1 hW.2.2 0 rfl rfl 1 (by decide) (C.1.2.2.2.2 _ tw_119) (fun _ h => h) rfl (tyJx4a65c_ok 1 (by decide)) rfl rfl (Nat.le_of_ble_eq_true rfl) dJx4a65c_init_da8c8_8 (fun H locs hP hD hS => ?_)
  have hW : WR g A s.heap H locs ([(q, .inr (0, [.int 0, .ref g.2.2.2, .int 0]))] : va_W) := ⟨hP, hD, hS⟩
  subst hQ9
  exact end_r C hr hlocks () hW trivial dJx4a65c_init_da8c8_11

set_option maxHeartbeats 40000000 in
set_option maxRecDepth 100000 in
theorem k_X2_init (l : Launch) (g : gG) (q : Nat) (sz : Nat) : Met l yX2_init (WS yX2_init cX2_init 1 none) (RM (4) 1 3) (PCr g [.ref q] ([(q, .inr (3, [.null, .int 0, .int 0, .int 0]))] : va_W) sz) (va_Qv (fun (u : Nat) => True) (fun u t => at_r g (va_A ([(q, .inr (3, [.null, .int 0, .int 0, .int 0]))] : va_W) sz) ([(q, .inr (3, [.ref u, .int 0, .int 0, .int 0])), (u, .inr (0, [.int 0, .ref g.2.2.2, .int 0]))]) t) (va_A ([(q, .inr (3, [.null, .int 0, .int 0, .int 0]))] : va_W) sz)) 1 3 (va_A ([(q, .inr (3, [.null, .int 0, .int 0, .int 0]))] : va_W) sz) := by
  refine entr (by decide +kernel) (Nat.le_of_ble_eq_true rfl) ?_
  intro p e s m below meth c ls hsz C hW hr hlocks hname hl
  generalize va_A ([(q, .inr (3, [.null, .int 0, .int 0, .int 0]))] : va_W) sz = A at C hW ⊢
  generalize hQ9 : (va_Qv (fun (u : Nat) => True) (fun u t => at_r g A ([(q, .inr (3, [.ref u, .int 0, .int 0, .int 0])), (u, .inr (0, [.int 0, .ref g.2.2.2, .int 0]))]) t) A) = Q9
  have hx := C.1.1
  have hb := C.1.2.1
  have hts := C.1.2.2.2.2
  have hl : lv_has ls 1 [(0, .ref q)] := hl
  obtain ⟨H, hH⟩ : ∃ H : Heap, H = s.heap := ⟨_, rfl⟩
  obtain ⟨locs, hlocs⟩ : ∃ q : List Loc, q = [] := ⟨_, rfl⟩
  have hW : WR g A s.heap H locs ([(q, .inr (3, [.null, .int 0, .int 0, .int 0]))] : va_W) := by rw [hH, hlocs]; exact hW
  refine start_ hH hlocs ?_
  refine lv_aload_n hx hb dX2_init_0 rfl (lv_at hl 0 rfl) ?_
  refine W.objInit hx hb C.1.2.2.2.1 (hts _ tw_273) (hts _ tw_97) (hts _ tw_oi2) rfl (by rw [C.1.2.2.1]; exact hl.1) rfl dX2_init_1 (Nat.le_of_ble_eq_true rfl) (Nat.le_of_ble_eq_true rfl) ?_
  show W p l e (RM (4) 1 3) s m ([.ref q] : List Value).toArray below meth c H locs 0 0 (MQ below Q9 ([.ref q] : List Value).toArray s 1 3 A) (F0 m 4 ls [])
  refine lv_aload_n hx hb dX2_init_4 rfl (lv_at hl 0 rfl) ?_
  refine va_new (ci := 0) (fs := [.int 0, .null, .int 0]) hx hb hts in_Jx4a65c tyJx4a65c tyJx4a65c_ok C.1.2.2.2.1 (hts _ tw_274) (hts _ tw_106) (hts _ tw_71) C.2.1 hW.1 hW.2.1 hW.2.2 C.2.2.1 rfl (fun j hj => by rcases (show j = 0 ∨ j = 1 ∨ j = 2 by omega) with rfl | rfl | rfl <;> rfl) (Nat.le_of_ble_eq_true rfl) (Nat.le_of_ble_eq_true rfl) dX2_init_5 (fun q1 H hP hD hS => ?_)
  have hW : WR g A s.heap H locs (([(q, .inr (3, [.null, .int 0, .int 0, .int 0]))] : va_W) ++ [(q1, .inr (0, [.int 0, .null, .int 0]))]) := ⟨hP, hD, hS⟩
  refine lv_dup hx hb dX2_init_8 rfl ?_
  refine cvr_ (w1 := ([(q, .inr (3, [.null, .int 0, .int 0, .int 0]))] : va_W)) (w2 := [(q1, .inr (0, [.int 0, .null, .int 0]))]) C hW (runIr (x := q1) (As := []) (rest := [.ref q1, .ref q]) C (WR_R (w1 := ([(q, .inr (3, [.null, .int 0, .int 0, .int 0]))] : va_W)) (w2 := [(q1, .inr (0, [.int 0, .null, .int 0]))]) hW) (k_Jx4a65c_init_da8c8 l g q1 H.size) mi_Jx4a65c_init_da8c8 tw_275 ⟨rfl, rfl, Nat.le_of_ble_eq_true rfl, Nat.le_of_ble_eq_true rfl⟩ rfl hl.1 rfl (Nat.le_of_ble_eq_true rfl) dX2_init_9 ⟨Nat.le_of_ble_eq_true rfl, Nat.le_of_ble_eq_true rfl⟩) (fun u2 H locs hp2 hW => ?_)
  have hW : WR g A s.heap H locs ([(q, .inr (3, [.null, .int 0, .int 0, .int 0])), (q1, .inr (0, [.int 0, .ref g.2.2.2, .int 0]))] : va_W) := hW
  refine va_putF C.1.1 C.1.2.1 C.1.2.2.2.2 in_X2 tyX2 tyX2_ok nmX2 C.1.2.2.2.1 C.2.1 hW.1 hW.2.1 hW.2.2 0 rfl rfl 0 (by decide) (C.1.2.2.2.2 _ tw_276) (fun _ h => h) rfl hname rfl (tyX2_ok 0 (by decide)) rfl rfl (Nat.le_of_ble_eq_true rfl) dX2_init_12 (fun H locs hP hD hS => ?_)
  have hW : WR g A s.heap H locs ([(q, .inr (3, [.ref q1, .int 0, .int 0, .int 0])), (q1, .inr (0, [.int 0, .ref g.2.2.2, .int 0]))] : va_W) := ⟨hP, hD, hS⟩
  subst hQ9
  exact end_r C hr hlocks q1 hW trivial dX2_init_15

set_option maxHeartbeats 40000000 in
set_option maxRecDepth 100000 in
theorem k_X7_init (l : Launch) (g : gG) (q : Nat) (sz : Nat) : Met l yX7_init (WS yX7_init cX7_init 1 none) (RM (2) 1 60) (PCr g [.ref q] ([(q, .inr (8, [.null, .int 0, .int 0, .int 0, .int 0, .int 0, .int 0, .int 0, .int 0, .int 0]))] : va_W) sz) (va_Qv (fun (u : Nat) => True) (fun u t => at_r g (va_A ([(q, .inr (8, [.null, .int 0, .int 0, .int 0, .int 0, .int 0, .int 0, .int 0, .int 0, .int 0]))] : va_W) sz) ([(q, .inr (8, [.ref u, .int 0, .int 0, .int 0, .int 0, .int 0, .int 0, .int 0, .int 0, .int 0])), (u, .inl (g.2.1 0, 60, .inl (fun _ => 0)))]) t) (va_A ([(q, .inr (8, [.null, .int 0, .int 0, .int 0, .int 0, .int 0, .int 0, .int 0, .int 0, .int 0]))] : va_W) sz)) 1 60 (va_A ([(q, .inr (8, [.null, .int 0, .int 0, .int 0, .int 0, .int 0, .int 0, .int 0, .int 0, .int 0]))] : va_W) sz) := by
  refine entr (by decide +kernel) (Nat.le_of_ble_eq_true rfl) ?_
  intro p e s m below meth c ls hsz C hW hr hlocks hname hl
  generalize va_A ([(q, .inr (8, [.null, .int 0, .int 0, .int 0, .int 0, .int 0, .int 0, .int 0, .int 0, .int 0]))] : va_W) sz = A at C hW ⊢
  generalize hQ9 : (va_Qv (fun (u : Nat) => True) (fun u t => at_r g A ([(q, .inr (8, [.ref u, .int 0, .int 0, .int 0, .int 0, .int 0, .int 0, .int 0, .int 0, .int 0])), (u, .inl (g.2.1 0, 60, .inl (fun _ => 0)))]) t) A) = Q9
  have hx := C.1.1
  have hb := C.1.2.1
  have hts := C.1.2.2.2.2
  have hl : lv_has ls 1 [(0, .ref q)] := hl
  obtain ⟨H, hH⟩ : ∃ H : Heap, H = s.heap := ⟨_, rfl⟩
  obtain ⟨locs, hlocs⟩ : ∃ q : List Loc, q = [] := ⟨_, rfl⟩
  have hW : WR g A s.heap H locs ([(q, .inr (8, [.null, .int 0, .int 0, .int 0, .int 0, .int 0, .int 0, .int 0, .int 0, .int 0]))] : va_W) := by rw [hH, hlocs]; exact hW
  refine start_ hH hlocs ?_
  refine lv_aload_n hx hb dX7_init_0 rfl (lv_at hl 0 rfl) ?_
  refine W.objInit hx hb C.1.2.2.2.1 (hts _ tw_324) (hts _ tw_97) (hts _ tw_oi2) rfl (by rw [C.1.2.2.1]; exact hl.1) rfl dX7_init_1 (Nat.le_of_ble_eq_true rfl) (Nat.le_of_ble_eq_true rfl) ?_
  show W p l e (RM (2) 1 60) s m ([.ref q] : List Value).toArray below meth c H locs 0 0 (MQ below Q9 ([.ref q] : List Value).toArray s 1 60 A) (F0 m 4 ls [])
  refine lv_aload_n hx hb dX7_init_4 rfl (lv_at hl 0 rfl) ?_
  refine lv_bipush (v := 60) hx hb dX7_init_5 (by decide) ?_
  refine r_newi (N' := 60) C hW tw_318 (by decide) (by decide) (Nat.le_of_ble_eq_true rfl) ⟨Nat.le_of_ble_eq_true rfl, Nat.le_of_ble_eq_true rfl⟩ dX7_init_7 (fun q1 H hW => ?_)
  have hW : WR g A s.heap H locs ([(q, .inr (8, [.null, .int 0, .int 0, .int 0, .int 0, .int 0, .int 0, .int 0, .int 0, .int 0])), (q1, .inl (g.2.1 0, 60, .inl (fun _ => 0)))] : va_W) := hW
  refine va_putF C.1.1 C.1.2.1 C.1.2.2.2.2 in_X7 tyX7 tyX7_ok nmX7 C.1.2.2.2.1 C.2.1 hW.1 hW.2.1 hW.2.2 0 rfl rfl 0 (by decide) (C.1.2.2.2.2 _ tw_325) (fun _ h => h) rfl hname rfl (tyX7_ok 0 (by decide)) rfl rfl (Nat.le_of_ble_eq_true rfl) dX7_init_9 (fun H locs hP hD hS => ?_)
  have hW : WR g A s.heap H locs ([(q, .inr (8, [.ref q1, .int 0, .int 0, .int 0, .int 0, .int 0, .int 0, .int 0, .int 0, .int 0])), (q1, .inl (g.2.1 0, 60, .inl (fun _ => 0)))] : va_W) := ⟨hP, hD, hS⟩
  subst hQ9
  exact end_r C hr hlocks q1 hW trivial dX7_init_12

set_option maxHeartbeats 40000000 in
set_option maxRecDepth 100000 in
theorem k_X10_init (l : Launch) (g : gG) (q : Nat) (sz : Nat) : Met l yX10_init (WS yX10_init cX10_init 1 none) (RM (2) 2 120) (PCr g [.ref q] ([(q, .inr (11, [.null, .null, .int 0, .int 0, .int 0]))] : va_W) sz) (va_Qv (fun (u : Nat × Nat) => True) (fun u t => at_r g (va_A ([(q, .inr (11, [.null, .null, .int 0, .int 0, .int 0]))] : va_W) sz) ([(q, .inr (11, [.ref u.1, .ref u.2, .int 0, .int 0, .int 0])), (u.1, .inl (g.2.1 0, 60, .inl (fun _ => 0))), (u.2, .inl (g.2.1 0, 60, .inl (fun _ => 0)))]) t) (va_A ([(q, .inr (11, [.null, .null, .int 0, .int 0, .int 0]))] : va_W) sz)) 2 120 (va_A ([(q, .inr (11, [.null, .null, .int 0, .int 0, .int 0]))] : va_W) sz) := by
  refine entr (by decide +kernel) (Nat.le_of_ble_eq_true rfl) ?_
  intro p e s m below meth c ls hsz C hW hr hlocks hname hl
  generalize va_A ([(q, .inr (11, [.null, .null, .int 0, .int 0, .int 0]))] : va_W) sz = A at C hW ⊢
  generalize hQ9 : (va_Qv (fun (u : Nat × Nat) => True) (fun u t => at_r g A ([(q, .inr (11, [.ref u.1, .ref u.2, .int 0, .int 0, .int 0])), (u.1, .inl (g.2.1 0, 60, .inl (fun _ => 0))), (u.2, .inl (g.2.1 0, 60, .inl (fun _ => 0)))]) t) A) = Q9
  have hx := C.1.1
  have hb := C.1.2.1
  have hts := C.1.2.2.2.2
  have hl : lv_has ls 1 [(0, .ref q)] := hl
  obtain ⟨H, hH⟩ : ∃ H : Heap, H = s.heap := ⟨_, rfl⟩
  obtain ⟨locs, hlocs⟩ : ∃ q : List Loc, q = [] := ⟨_, rfl⟩
  have hW : WR g A s.heap H locs ([(q, .inr (11, [.null, .null, .int 0, .int 0, .int 0]))] : va_W) := by rw [hH, hlocs]; exact hW
  refine start_ hH hlocs ?_
  refine lv_aload_n hx hb dX10_init_0 rfl (lv_at hl 0 rfl) ?_
  refine W.objInit hx hb C.1.2.2.2.1 (hts _ tw_299) (hts _ tw_97) (hts _ tw_oi2) rfl (by rw [C.1.2.2.1]; exact hl.1) rfl dX10_init_1 (Nat.le_of_ble_eq_true rfl) (Nat.le_of_ble_eq_true rfl) ?_
  show W p l e (RM (2) 2 120) s m ([.ref q] : List Value).toArray below meth c H locs 0 0 (MQ below Q9 ([.ref q] : List Value).toArray s 2 120 A) (F0 m 4 ls [])
  refine lv_aload_n hx hb dX10_init_4 rfl (lv_at hl 0 rfl) ?_
  refine lv_bipush (v := 60) hx hb dX10_init_5 (by decide) ?_
  refine r_newi (N' := 60) C hW tw_318 (by decide) (by decide) (Nat.le_of_ble_eq_true rfl) ⟨Nat.le_of_ble_eq_true rfl, Nat.le_of_ble_eq_true rfl⟩ dX10_init_7 (fun q1 H hW => ?_)
  have hW : WR g A s.heap H locs ([(q, .inr (11, [.null, .null, .int 0, .int 0, .int 0])), (q1, .inl (g.2.1 0, 60, .inl (fun _ => 0)))] : va_W) := hW
  refine va_putF C.1.1 C.1.2.1 C.1.2.2.2.2 in_X10 tyX10 tyX10_ok nmX10 C.1.2.2.2.1 C.2.1 hW.1 hW.2.1 hW.2.2 0 rfl rfl 0 (by decide) (C.1.2.2.2.2 _ tw_300) (fun _ h => h) rfl hname rfl (tyX10_ok 0 (by decide)) rfl rfl (Nat.le_of_ble_eq_true rfl) dX10_init_9 (fun H locs hP hD hS => ?_)
  have hW : WR g A s.heap H locs ([(q, .inr (11, [.ref q1, .null, .int 0, .int 0, .int 0])), (q1, .inl (g.2.1 0, 60, .inl (fun _ => 0)))] : va_W) := ⟨hP, hD, hS⟩
  refine lv_aload_n hx hb dX10_init_12 rfl (lv_at hl 0 rfl) ?_
  refine lv_bipush (v := 60) hx hb dX10_init_13 (by decide) ?_
  refine r_newi (N' := 60) C hW tw_318 (by decide) (by decide) (Nat.le_of_ble_eq_true rfl) ⟨Nat.le_of_ble_eq_true rfl, Nat.le_of_ble_eq_true rfl⟩ dX10_init_15 (fun q2 H hW => ?_)
  have hW : WR g A s.heap H locs ([(q, .inr (11, [.ref q1, .null, .int 0, .int 0, .int 0])), (q1, .inl (g.2.1 0, 60, .inl (fun _ => 0))), (q2, .inl (g.2.1 0, 60, .inl (fun _ => 0)))] : va_W) := hW
  refine va_putF C.1.1 C.1.2.1 C.1.2.2.2.2 in_X10 tyX10 tyX10_ok nmX10 C.1.2.2.2.1 C.2.1 hW.1 hW.2.1 hW.2.2 0 rfl rfl 1 (by decide) (C.1.2.2.2.2 _ tw_301) (fun _ h => h) rfl hname rfl (tyX10_ok 1 (by decide)) rfl rfl (Nat.le_of_ble_eq_true rfl) dX10_init_17 (fun H locs hP hD hS => ?_)
  have hW : WR g A s.heap H locs ([(q, .inr (11, [.ref q1, .ref q2, .int 0, .int 0, .int 0])), (q1, .inl (g.2.1 0, 60, .inl (fun _ => 0))), (q2, .inl (g.2.1 0, 60, .inl (fun _ => 0)))] : va_W) := ⟨hP, hD, hS⟩
  subst hQ9
  exact end_r C hr hlocks (q1, q2) hW trivial dX10_init_20
