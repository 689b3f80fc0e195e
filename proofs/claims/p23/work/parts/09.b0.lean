theorem mem_nel {r : Nat} : ∀ {R : List Nat}, r ∈ R → nel r R = true
  | y :: t, h => by
    unfold nel
    cases q : Nat.beq r y with
    | true => rfl
    | false =>
      rcases List.mem_cons.mp h with e | h
      · rw [e, Nat.beq_refl] at q; cases q
      · exact mem_nel h
theorem wdl_app {g : gG} {S : sS} {d1 d2 : List (Nat × Nat)} : wdl g S (d1 ++ d2) = wdl g S d1 ++ wdl g S d2 := by simp [wdl]
theorem pL {D : va_G} {cl : List vw_C} {w1 w2 : va_W} {H : Heap} (h : va_P D cl (w1 ++ w2) H) : va_P D cl w1 H := fun k q hk => h k q (by rw [List.getElem?_append_left (List.getElem?_eq_some_iff.mp hk).1]; exact hk)
theorem pR {D : va_G} {cl : List vw_C} {w1 w2 : va_W} {H : Heap} (h : va_P D cl (w1 ++ w2) H) : va_P D cl w2 H := fun k q hk => h (w1.length + k) q (by rw [List.getElem?_append_right (by omega), Nat.add_sub_cancel_left]; exact hk)
theorem dL {A : Nat → Prop} {w1 w2 : va_W} (h : va_D A (w1 ++ w2)) : va_D A w1 := by
  have e : ∀ (k : Nat) (q : Nat × va_E), w1[k]? = some q → (w1 ++ w2)[k]? = some q := fun k q hk => by rw [List.getElem?_append_left (List.getElem?_eq_some_iff.mp hk).1]; exact hk
  exact ⟨fun i j p q hi hj he => h.1 i j p q (e i p hi) (e j q hj) he, fun k q hk => h.2 k q (e k q hk)⟩
theorem eR {w1 w2 : va_W} (k : Nat) (q : Nat × va_E) (hk : w2[k]? = some q) : (w1 ++ w2)[w1.length + k]? = some q := by rw [List.getElem?_append_right (by omega), Nat.add_sub_cancel_left]; exact hk
theorem dR {A : Nat → Prop} {w1 w2 : va_W} (h : va_D A (w1 ++ w2)) : va_D A w2 :=
  ⟨fun i j p q hi hj he => by have := h.1 _ _ p q (eR i p hi) (eR j q hj) he; omega, fun k q hk => h.2 _ q (eR k q hk)⟩
theorem dX_ {A : Nat → Prop} {w1 w2 : va_W} (h : va_D A (w1 ++ w2)) {i j : Nat} {p q : Nat × va_E} (hi : w1[i]? = some p) (hj : w2[j]? = some q) : p.1 ≠ q.1 := fun he => by
  have hl := (List.getElem?_eq_some_iff.mp hi).1
  have := h.1 i _ p q (by rw [List.getElem?_append_left hl]; exact hi) (eR j q hj) he
  omega
theorem okdL {g : gG} {d1 d2 : List (Nat × Nat)} (h : okd g (d1 ++ d2)) : okd g d1 := fun x hx => h x (List.mem_append_left _ hx)
theorem okdR {g : gG} {d1 d2 : List (Nat × Nat)} (h : okd g (d1 ++ d2)) : okd g d2 := fun x hx => h x (List.mem_append_right _ hx)
theorem WB_L {g : gG} {A : Nat → Prop} {H0 H : Heap} {locs : List Loc} {S : sS} {d1 d2 : List (Nat × Nat)} (h : WB g A H0 H locs S (d1 ++ d2)) : WB g A H0 H locs S d1 := by
  unfold WB at *
  rw [wdl_app] at h
  exact ⟨pL h.1, dL h.2.1, h.2.2.1, okdL h.2.2.2⟩
theorem WB_R {g : gG} {A : Nat → Prop} {H0 H : Heap} {locs : List Loc} {S : sS} {d1 d2 : List (Nat × Nat)} (h : WB g A H0 H locs S (d1 ++ d2)) : WB g A H0 H locs S d2 := by
  unfold WB at *
  rw [wdl_app] at h
  exact ⟨pR h.1, dR h.2.1, h.2.2.1, okdR h.2.2.2⟩
theorem joinL {g : gG} {A : Nat → Prop} {H0 H H1 : Heap} {locs locs1 : List Loc} {S S1 : sS} {d1 d1' d2 : List (Nat × Nat)} (hW : WB g A H0 H locs S (d1 ++ d2)) (hB : va_P g.1 vwCl (wdl g S1 d1') H1 ∧ va_D (FR g (S, d1) H.size) (wdl g S1 d1') ∧ okd g d1') (hk : ∀ q, q < H.size → ¬ FR g (S, d1) H.size q → H1[q]? = H[q]?) (hS : va_S A H0 H1 locs1) (hfr : ∀ q, FR g (S, d1) H.size q → A q) (hc : ∀ x ∈ d2, cel g S1 x.1 x.2 = cel g S x.1 x.2) : WB g A H0 H1 locs1 S1 (d1' ++ d2) := by
  obtain ⟨hP, hD, -, hO⟩ := hW
  rw [wdl_app] at hP hD
  have e2 : wdl g S1 d2 = wdl g S d2 := List.map_congr_left fun x hx => by rw [hc x hx]
  have hn : ∀ (k : Nat) (q : Nat × va_E), (wdl g S d2)[k]? = some q → q.1 < H.size ∧ ¬ FR g (S, d1) H.size q.1 := by
    intro k q hq
    have hlt : q.1 < H.size := (pR hP k q hq).lt
    refine ⟨hlt, fun h => ?_⟩
    rcases h with ⟨k2, e, h⟩ | h
    · exact dX_ hD h hq rfl
    · omega
  unfold WB
  rw [wdl_app, e2]
  refine ⟨hB.1.app ((pR hP).kept fun k q hq => hk q.1 (hn k q hq).1 (hn k q hq).2), va_D.app (hB.2.1.weaken fun _ q _ h => hfr q.1 h) (dR hD) (fun i j p q hi hj he => (hn j q hj).2 (he ▸ hB.2.1.2 i p hi)), hS, fun x hx => ?_⟩
  rcases List.mem_append.mp hx with h | h
  · exact hB.2.2 x h
  · exact okdR hO x h
theorem joinR {g : gG} {A : Nat → Prop} {H0 H H1 : Heap} {locs locs1 : List Loc} {S S1 : sS} {d1 d2 d2' : List (Nat × Nat)} (hW : WB g A H0 H locs S (d1 ++ d2)) (hB : va_P g.1 vwCl (wdl g S1 d2') H1 ∧ va_D (FR g (S, d2) H.size) (wdl g S1 d2') ∧ okd g d2') (hk : ∀ q, q < H.size → ¬ FR g (S, d2) H.size q → H1[q]? = H[q]?) (hS : va_S A H0 H1 locs1) (hfr : ∀ q, FR g (S, d2) H.size q → A q) (hc : ∀ x ∈ d1, cel g S1 x.1 x.2 = cel g S x.1 x.2) : WB g A H0 H1 locs1 S1 (d1 ++ d2') := by
  obtain ⟨hP, hD, -, hO⟩ := hW
  rw [wdl_app] at hP hD
  have e2 : wdl g S1 d1 = wdl g S d1 := List.map_congr_left fun x hx => by rw [hc x hx]
  have hn : ∀ (k : Nat) (q : Nat × va_E), (wdl g S d1)[k]? = some q → q.1 < H.size ∧ ¬ FR g (S, d2) H.size q.1 := by
    intro k q hq
    have hlt : q.1 < H.size := (pL hP k q hq).lt
    refine ⟨hlt, fun h => ?_⟩
    rcases h with ⟨k2, e, h⟩ | h
    · exact dX_ hD hq h rfl
    · omega
  unfold WB
  rw [wdl_app, e2]
  refine ⟨((pL hP).kept fun k q hq => hk q.1 (hn k q hq).1 (hn k q hq).2).app hB.1, va_D.app (dL hD) (hB.2.1.weaken fun _ q _ h => hfr q.1 h) (fun i j p q hi hj he => (hn i p hi).2 (he.symm ▸ hB.2.1.2 j q hj)), hS, fun x hx => ?_⟩
  rcases List.mem_append.mp hx with h | h
  · exact okdL hO x h
  · exact hB.2.2 x h
theorem sgl_m : ∀ r ∈ mroles, sgl r = true := List.all_eq_true.mp (by decide +kernel)
/-- none of the class's cells has a role of the reference's -/
theorem notm {g : gG} {A : Nat → Prop} {H0 H : Heap} {locs : List Loc} {S : sS} {d1 : List (Nat × Nat)} (hW : WB g A H0 H locs S (d1 ++ sgM g)) : ∀ x ∈ d1, nel x.1 mroles = false := by
  intro x hx
  cases hq : nel x.1 mroles with
  | false => rfl
  | true =>
    have ha : x.2 = g.2.2.1 x.1 := hW.2.2.2 x (List.mem_append_left _ hx) (sgl_m _ (nel_mem hq))
    obtain ⟨i, hi⟩ := List.getElem?_of_mem hx
    obtain ⟨j, hj⟩ := List.getElem?_of_mem (mm_ (g := g) hq)
    have hD := hW.2.1
    rw [wdl_app] at hD
    exact absurd ha (dX_ hD (wdl_at (g := g) (S := S) hi) (wdl_at (g := g) (S := S) hj))
theorem nel2_no {r f : Nat} : ∀ {F : List (Nat × Nat)}, (∀ x ∈ F, Nat.beq r x.1 = false) → nel2 r f F = false
  | [], _ => rfl
  | y :: t, h => by
    unfold nel2
    rw [h y List.mem_cons_self]
    exact nel2_no fun x hx => h x (List.mem_cons_of_mem _ hx)
theorem beq_fn {r k : Nat} (h : r ≠ k) : Nat.beq r k = false := beq_no h
theorem hv_out {α : Type} {J G : Nat → Nat → α} {R : List Nat} {F : List (Nat × Nat)} {r : Nat} (h1 : nel r R = false) (h2 : ∀ x ∈ F, Nat.beq r x.1 = false) : hv J R F G r = J r := by
  unfold hv
  rw [h1]
  funext f
  show (bif nel2 r f F then _ else _) = _
  rw [nel2_no h2]; rfl
theorem nel_no {r : Nat} : ∀ {R : List Nat}, (∀ x ∈ R, r ≠ x) → nel r R = false
  | [], _ => rfl
  | y :: t, h => by
    unfold nel
    rw [beq_fn (h y List.mem_cons_self)]
    exact nel_no fun x hx => h x (List.mem_cons_of_mem _ hx)
/-- what the class writes the reference doesn't see -/
theorem hv_m {α : Type} {J G : Nat → Nat → α} {R : List Nat} {F : List (Nat × Nat)} {r : Nat} (hd : R.all (fun r => !nel r mroles) = true) (hf : F.all (fun x => !nel x.1 mroles) = true) (h : nel r mroles = true) : hv J R F G r = J r := by
  refine hv_out (nel_no fun x hx e => ?_) (fun x hx => beq_fn fun e => ?_)
  · have := List.all_eq_true.mp hd x hx; rw [← e, h] at this; cases this
  · have := List.all_eq_true.mp hf x hx; rw [← e, h] at this; cases this
/-- what the reference writes the class doesn't see -/
theorem hv_x {α : Type} {J G : Nat → Nat → α} {R : List Nat} {F : List (Nat × Nat)} {r : Nat} (hd : R.all (fun r => nel r mroles) = true) (hf : F.all (fun x => nel x.1 mroles) = true) (h : nel r mroles = false) : hv J R F G r = J r := by
  refine hv_out (nel_no fun x hx e => ?_) (fun x hx => beq_fn fun e => ?_)
  · have := List.all_eq_true.mp hd x hx; rw [← e, h] at this; cases this
  · have := List.all_eq_true.mp hf x hx; rw [← e, h] at this; cases this
set_option maxRecDepth 100000 in
theorem celm_ : ∀ r ∈ mroles, ∀ (g : gG) (j : Nat → Int32) (l : Nat → Int64) (i i' : Nat → Int32) (p p' : Nat → Option Nat) (e e' : Option Nat) (n n' : Nat), celc g j l i p e n r = celc g j l i' p' e' n' r := List.forall_mem_cons.mpr ⟨fun _ _ _ _ _ _ _ _ _ _ _ => rfl, List.forall_mem_cons.mpr ⟨fun _ _ _ _ _ _ _ _ _ _ _ => rfl, List.forall_mem_cons.mpr ⟨fun _ _ _ _ _ _ _ _ _ _ _ => rfl, List.forall_mem_cons.mpr ⟨fun _ _ _ _ _ _ _ _ _ _ _ => rfl, List.forall_mem_cons.mpr ⟨fun _ _ _ _ _ _ _ _ _ _ _ => rfl, List.forall_mem_cons.mpr ⟨fun _ _ _ _ _ _ _ _ _ _ _ => rfl, List.forall_mem_cons.mpr ⟨fun _ _ _ _ _ _ _ _ _ _ _ => rfl, List.forall_mem_cons.mpr ⟨fun _ _ _ _ _ _ _ _ _ _ _ => rfl, List.forall_mem_cons.mpr ⟨fun _ _ _ _ _ _ _ _ _ _ _ => rfl, List.forall_mem_cons.mpr ⟨fun _ _ _ _ _ _ _ _ _ _ _ => rfl, List.forall_mem_cons.mpr ⟨fun _ _ _ _ _ _ _ _ _ _ _ => rfl, List.forall_mem_cons.mpr ⟨fun _ _ _ _ _ _ _ _ _ _ _ => rfl, List.forall_mem_cons.mpr ⟨fun _ _ _ _ _ _ _ _ _ _ _ => rfl, List.forall_mem_cons.mpr ⟨fun _ _ _ _ _ _ _ _ _ _ _ => rfl, List.forall_mem_cons.mpr ⟨fun _ _ _ _ _ _ _ _ _ _ _ => rfl, List.forall_mem_cons.mpr ⟨fun _ _ _ _ _ _ _ _ _ _ _ => rfl, List.forall_mem_cons.mpr ⟨fun _ _ _ _ _ _ _ _ _ _ _ => rfl, List.forall_mem_cons.mpr ⟨fun _ _ _ _ _ _ _ _ _ _ _ => rfl, List.forall_mem_cons.mpr ⟨fun _ _ _ _ _ _ _ _ _ _ _ => rfl, List.forall_mem_cons.mpr ⟨fun _ _ _ _ _ _ _ _ _ _ _ => rfl, List.forall_mem_cons.mpr ⟨fun _ _ _ _ _ _ _ _ _ _ _ => rfl, List.forall_mem_cons.mpr ⟨fun _ _ _ _ _ _ _ _ _ _ _ => rfl, List.forall_mem_cons.mpr ⟨fun _ _ _ _ _ _ _ _ _ _ _ => rfl, List.forall_mem_cons.mpr ⟨fun _ _ _ _ _ _ _ _ _ _ _ => rfl, List.forall_mem_cons.mpr ⟨fun _ _ _ _ _ _ _ _ _ _ _ => rfl, List.forall_mem_cons.mpr ⟨fun _ _ _ _ _ _ _ _ _ _ _ => rfl, List.forall_mem_cons.mpr ⟨fun _ _ _ _ _ _ _ _ _ _ _ => rfl, List.forall_mem_cons.mpr ⟨fun _ _ _ _ _ _ _ _ _ _ _ => rfl, List.forall_mem_cons.mpr ⟨fun _ _ _ _ _ _ _ _ _ _ _ => rfl, List.forall_mem_cons.mpr ⟨fun _ _ _ _ _ _ _ _ _ _ _ => rfl, List.forall_mem_cons.mpr ⟨fun _ _ _ _ _ _ _ _ _ _ _ => rfl, List.forall_mem_cons.mpr ⟨fun _ _ _ _ _ _ _ _ _ _ _ => rfl, List.forall_mem_cons.mpr ⟨fun _ _ _ _ _ _ _ _ _ _ _ => rfl, List.forall_mem_cons.mpr ⟨fun _ _ _ _ _ _ _ _ _ _ _ => rfl, List.forall_mem_cons.mpr ⟨fun _ _ _ _ _ _ _ _ _ _ _ => rfl, List.forall_mem_cons.mpr ⟨fun _ _ _ _ _ _ _ _ _ _ _ => rfl, List.forall_mem_cons.mpr ⟨fun _ _ _ _ _ _ _ _ _ _ _ => rfl, List.forall_mem_cons.mpr ⟨fun _ _ _ _ _ _ _ _ _ _ _ => rfl, List.forall_mem_cons.mpr ⟨fun _ _ _ _ _ _ _ _ _ _ _ => rfl, List.forall_mem_cons.mpr ⟨fun _ _ _ _ _ _ _ _ _ _ _ => rfl, List.forall_mem_cons.mpr ⟨fun _ _ _ _ _ _ _ _ _ _ _ => rfl, List.forall_mem_cons.mpr ⟨fun _ _ _ _ _ _ _ _ _ _ _ => rfl, List.forall_mem_cons.mpr ⟨fun _ _ _ _ _ _ _ _ _ _ _ => rfl, List.forall_mem_cons.mpr ⟨fun _ _ _ _ _ _ _ _ _ _ _ => rfl, List.forall_mem_cons.mpr ⟨fun _ _ _ _ _ _ _ _ _ _ _ => rfl, List.forall_mem_cons.mpr ⟨fun _ _ _ _ _ _ _ _ _ _ _ => rfl, fun _ h => absurd h List.not_mem_nil⟩⟩⟩⟩⟩⟩⟩⟩⟩⟩⟩⟩⟩⟩⟩⟩⟩⟩⟩⟩⟩⟩⟩⟩⟩⟩⟩⟩⟩⟩⟩⟩⟩⟩⟩⟩⟩⟩⟩⟩⟩⟩⟩⟩⟩⟩
theorem cel_m {g : gG} {S S1 : sS} {r a : Nat} (h : nel r mroles = true) (hJ : S1.1 r = S.1 r) (hL : S1.2.1 r = S.2.1 r) : cel g S1 r a = cel g S r a := by
  show celc g (S1.1 r) (S1.2.1 r) _ _ _ _ r = celc g (S.1 r) (S.2.1 r) _ _ _ _ r
  rw [hJ, hL]
  exact celm_ r (nel_mem h) _ _ _ _ _ _ _ _ _ _ _
theorem cel_x {g : gG} {J J1 : Nat → Nat → Int32} {X} {r a : Nat} (h : J1 r = J r) : cel g (J1, X) r a = cel g (J, X) r a := by
  simp only [cel, h]
theorem okM {g : gG} {A : Nat → Prop} {H0 H : Heap} {locs : List Loc} {S S1 : sS} {d1 : List (Nat × Nat)} (hW : WB g A H0 H locs S (d1 ++ sgM g)) (hJ : ∀ r, nel r mroles = true → S1.1 r = S.1 r) (hL : ∀ r, nel r mroles = true → S1.2.1 r = S.2.1 r) : ∀ x ∈ sgM g, cel g S1 x.1 x.2 = cel g S x.1 x.2 := by
  intro x hx
  obtain ⟨r, hr, rfl⟩ := List.mem_map.mp hx
  exact cel_m (mem_nel hr) (hJ r (mem_nel hr)) (hL r (mem_nel hr))
section LAWC
variable {p : Program} {l : Launch} {e : Env} {R : Room} {s : State} {m : MethodId} {args : Array Value} {below : List Frame} {meth : Method} {c : Code} {H : Heap} {locs : List Loc} {cells slots : Nat} {Q : State → Prop}
variable {pc : Nat} {ls : Array Slot} {rest : List Value} {cc : ByteArray} {nL : Nat} {own : String} {g : gG} {A : Nat → Prop}
variable {mc ms : Nat} {T : sT} {st0 : List Value}
theorem ci2_ {U : Type} {post : Int32 → U → Prop} {st : U → sT} {a0 : Array Value} (C : CC g A p m c cc nL s args own) (hW : WB g A s.heap H locs T.1 T.2) (hr : va_Run p l e R s m args below meth c H locs cells slots mc ms (F0 m pc ls st0) rest (va_Qi post (fun u t => at_ g (FR g T H.size) (st u) t) (FR g T H.size) a0) (FR g T H.size))
    (kk : ∀ (r : Int32) (u : U) (H1 : Heap) (locs1 : List Loc), post r u → (va_P g.1 vwCl (wdl g (st u).1 (st u).2) H1 ∧ va_D (FR g T H.size) (wdl g (st u).1 (st u).2) ∧ okd g (st u).2) → (∀ q, q < H.size → ¬ FR g T H.size q → H1[q]? = H[q]?) → va_S A s.heap H1 locs1 → W p l e R s m args below meth c H1 locs1 (cells + mc) (slots + ms) Q (F0 m (pc + 3) ls (.int r :: rest))) : W p l e R s m args below meth c H locs cells slots Q (F0 m pc ls st0) :=
  va_calli hr hW.2.2.1 (fun q _ h => frsub C hW q h) (frsub C hW) (fun r u t H1 locs1 ht _ hp hB _ hk hS => kk r u H1 locs1 hp ⟨ht ▸ hB.1, hB.2.2.1, hB.2.2.2⟩ hk hS)
theorem cl2_ {U : Type} {post : Int64 → U → Prop} {st : U → sT} {a0 : Array Value} (C : CC g A p m c cc nL s args own) (hW : WB g A s.heap H locs T.1 T.2) (hr : va_Run p l e R s m args below meth c H locs cells slots mc ms (F0 m pc ls st0) rest (va_Ql post (fun u t => at_ g (FR g T H.size) (st u) t) (FR g T H.size) a0) (FR g T H.size))
    (kk : ∀ (r : Int64) (u : U) (H1 : Heap) (locs1 : List Loc), post r u → (va_P g.1 vwCl (wdl g (st u).1 (st u).2) H1 ∧ va_D (FR g T H.size) (wdl g (st u).1 (st u).2) ∧ okd g (st u).2) → (∀ q, q < H.size → ¬ FR g T H.size q → H1[q]? = H[q]?) → va_S A s.heap H1 locs1 → W p l e R s m args below meth c H1 locs1 (cells + mc) (slots + ms) Q (F0 m (pc + 3) ls (.long r :: rest))) : W p l e R s m args below meth c H locs cells slots Q (F0 m pc ls st0) :=
  va_calll hr hW.2.2.1 (fun q _ h => frsub C hW q h) (frsub C hW) (fun r u t H1 locs1 ht _ hp hB _ hk hS => kk r u H1 locs1 hp ⟨ht ▸ hB.1, hB.2.2.1, hB.2.2.2⟩ hk hS)
end LAWC
