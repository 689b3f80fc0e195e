/-- the letters by their fields -/
def SCL (k h v s m w a n : Int32) : Int → Int32 := fun c => if c = 107 then k else if c = 104 then h else if c = 118 then v else if c = 115 then s else if c = 109 then m else if c = 119 then w else if c = 97 then a else n
/-- the stack's row holds the list, its first on top -/
def SK (u : Nat → Int32) : List Int32 → Prop
  | [] => True
  | v :: t => u t.length = v ∧ SK u t
theorem sk_congr {u v : Nat → Int32} : ∀ {st : List Int32}, SK u st → (∀ i, i < st.length → v i = u i) → SK v st
  | [], _, _ => trivial
  | x :: t, h, e => ⟨(e _ (Nat.lt_succ_self _)).trans h.1, sk_congr h.2 (fun i hi => e i (Nat.lt_succ_of_lt hi))⟩
theorem sk_push {u v : Nat → Int32} {st : List Int32} {x : Int32} (h : SK u st) (e : ∀ i, i < st.length → v i = u i) (hx : v st.length = x) : SK v (x :: st) := ⟨hx, sk_congr h e⟩
theorem up_eq {J : Nat → Nat → Int32} {i k : Nat} {x y : Int32} (e : i = k) (h : x = y) : up2 J 45 i x 45 = up2 J 45 k y 45 := by subst e; subst h; rfl
theorem jn_v {s : Int} {l r p q x : Int32} {w y z : Int64} (ex : x = z.toInt32) (ey : y = if w < 1000000000 then w else 1000000000) (ez : z = if y < (-1000000000 : Int64) then -1000000000 else y) (hw : w = wk64 s l.toInt64 r.toInt64) (el : l = p) (er : r = q) : x = opj s p q := by
  subst el; subst er
  rw [ex, hl_cl ey ez, hw]; rfl
theorem cs_ge {x : Nat → Int32} {a b : Nat} (h : b ≤ a) : cs x a b = [] := by
  unfold cs
  have e : b - a = 0 := by omega
  rw [e]; rfl
section WH
variable {L : Int → Int32} {u v X : Nat → Int32} {st F : List Int32} {a a' b tn : Nat} {top top' m m' : Int} {x : Int32}
theorem fold_step (h : a < b) (h4 : (cs X a b).foldl (ws L) st = F) (ha : a' = a + 1) : (cs X a' b).foldl (ws L) (ws L st (X a).toInt) = F := by
  subst ha
  rw [cs_cons h] at h4; exact h4
theorem ws_num (h : 0 ≤ x.toInt) : ws L st x.toInt = x :: st := by unfold ws; rw [if_pos h, Int32.ofInt_toInt]
theorem ws_let {c : Int} (h : isl (-c)) (hx : x = L (-c)) : ws L st c = x :: st := by unfold ws; rw [if_neg (by omega), if_pos h, hx]
theorem wh_push (hs1 : top = st.length) (hs2 : SK u st) (hs3 : (st.length : Int) ≤ m) (hs4 : (cs X a b).foldl (ws L) st = F) (hab : a < b) (ha : a' = a + 1) (hm : m' = m + 1) (htop : top' = top + 1) (hv : v = up2 (fun _ => u) 45 tn x 45) (htn : (tn : Int) = top) (hx : ws L st (X a).toInt = x :: st) : ∃ st', top' = (st'.length : Nat) ∧ SK v st' ∧ (st'.length : Int) ≤ m' ∧ (cs X a' b).foldl (ws L) st' = F := by
  refine ⟨x :: st, ?_, sk_push hs2 (fun i hi => ?_) ?_, ?_, ?_⟩
  · rw [List.length_cons]; omega
  · rw [hv]; exact up2_f _ _ _ (by omega)
  · have e : st.length = tn := by omega
    rw [hv, e]; exact up2_s _ _ _ _
  · rw [List.length_cons]; omega
  · rw [← hx]; exact fold_step hab hs4 ha
theorem ws_op2 {c : Int} {r l : Int32} {t : List Int32} (h0 : c < 0) (h1 : ¬ isl (-c)) : ws L (r :: l :: t) c = opj (-c) l r :: t := by rw [ws, if_neg (by omega), if_neg h1]
theorem ws_op1 {c : Int} (h0 : c < 0) (h1 : ¬ isl (-c)) (hs : st.length < 2) : ws L st c = st := by
  unfold ws
  rw [if_neg (by omega), if_neg h1]
  match st, hs with
  | [], _ => rfl
  | [_], _ => rfl
  | _ :: _ :: t, hs => rw [List.length_cons, List.length_cons] at hs; omega
theorem wh_join {s : Int} (hs1 : top = st.length) (hs2 : SK u st) (hs3 : (st.length : Int) ≤ m) (hs4 : (cs X a b).foldl (ws L) st = F) (hab : a < b) (ha : a' = a + 1) (hm : m' = m + 1) (hn : (X a).toInt < 0) (hl : ¬ isl (-(X a).toInt)) (hs : s = -(X a).toInt)
    (h0 : top < 2 → top' = top ∧ v = u) (h1 : 2 ≤ top → top' = top - 1 ∧ v = up2 (fun _ => u) 45 (top.toNat - 2) (opj s (u (top.toNat - 2)) (u (top.toNat - 1))) 45) : ∃ st', top' = (st'.length : Nat) ∧ SK v st' ∧ (st'.length : Int) ≤ m' ∧ (cs X a' b).foldl (ws L) st' = F := by
  refine ⟨ws L st (X a).toInt, ?_⟩
  rcases Int.lt_or_le top 2 with q | q
  · obtain ⟨e1, e2⟩ := h0 q
    have e3 : ws L st (X a).toInt = st := ws_op1 hn hl (by omega)
    refine ⟨?_, ?_, ?_, fold_step hab hs4 ha⟩
    · rw [e3, e1]; exact hs1
    · rw [e3, e2]; exact hs2
    · rw [e3]; omega
  · obtain ⟨e1, e2⟩ := h1 q
    match st, hs1, hs2, hs3, hs4 with
    | [], hs1, _, _, _ => rw [List.length_nil] at hs1; omega
    | [_], hs1, _, _, _ => rw [List.length_singleton] at hs1; omega
    | r :: w :: t, hs1, hs2, hs3, hs4 =>
      have e3 : ws L (r :: w :: t) (X a).toInt = opj (-(X a).toInt) w r :: t := ws_op2 hn hl
      rw [List.length_cons, List.length_cons] at hs1 hs3
      obtain ⟨k1, k2, k3⟩ := hs2
      rw [List.length_cons] at k1
      have n1 : top.toNat - 2 = t.length := by omega
      have n2 : top.toNat - 1 = t.length + 1 := by omega
      rw [n1, n2, k1, k2, hs] at e2
      refine ⟨?_, ?_, ?_, fold_step hab hs4 ha⟩
      · rw [e3, List.length_cons]; omega
      · rw [e3, e2]
        exact sk_push k3 (fun i hi => up2_f _ _ _ (by omega)) (up2_s _ _ _ _)
      · rw [e3, List.length_cons]; omega
theorem w_r0 (hs4 : (cs X a b).foldl (ws L) st = F) (hab : b ≤ a) (hs1 : top = st.length) (h : top ≤ 0) : 0 = F.headD 0 := by
  rw [cs_ge hab] at hs4
  have e : st = F := hs4
  match st, hs1, e with
  | [], _, e => rw [← e]; rfl
  | x :: t, hs1, _ => rw [List.length_cons] at hs1; omega
theorem w_r1 {i : Nat} (hs4 : (cs X a b).foldl (ws L) st = F) (hab : b ≤ a) (hs1 : top = st.length) (hs2 : SK u st) (h : (i : Int) + 1 = top) (hx : x = u i) : x = F.headD 0 := by
  rw [cs_ge hab] at hs4
  have e : st = F := hs4
  match st, hs1, hs2, e with
  | [], hs1, _, _ => rw [List.length_nil] at hs1; omega
  | y :: t, hs1, hs2, e =>
    rw [List.length_cons] at hs1
    have ei : i = t.length := by omega
    rw [← e, hx, ei]; exact hs2.1
end WH
/-- what the code in a row is worth -/
def WGH (L : Int → Int32) (c : List Int) : Int32 := (c.foldl (ws L) []).headD 0
theorem wgh_val {L : Int → Int32} {c : List Int} {v : Int32} (h : VAL L c v) : WGH L c = v := by rw [WGH, h]; rfl
set_option maxHeartbeats 4000000 in
set_option maxRecDepth 100000 in
theorem c_X7_letter_e (l : Launch) (g : gG) (J : Nat → Nat → Int32) (L : Nat → Nat → Int64) (I : Nat → Nat → Nat → Int32) (P : Nat → Nat → Nat → Option Nat) (E : Nat → Option Nat) (N : Nat → Nat) (dy : List (Nat × Nat)) (sz : Nat) (a0 : Int32) (hisl : (a0.toInt = 107 ∨ a0.toInt = 104 ∨ a0.toInt = 118 ∨ a0.toInt = 115 ∨ a0.toInt = 109 ∨ a0.toInt = 119 ∨ a0.toInt = 97 ∨ a0.toInt = 110)) : Met l yX7_letter (WS yX7_letter cX7_letter 2 (some .int)) (RM (1) 0 0) (PC g [.ref (g.2.2.1 8), .int a0] ((J, L, I, P, E, N), sgX g ++ dy) sz) (va_Qi (fun (r : Int32) (u : Unit) => (r = SCL (J 8 2) (J 8 3) (J 8 4) (J 8 5) (J 8 6) (J 8 7) (J 8 8) (J 8 9) a0.toInt)) (fun u t => at_ g (FR g ((J, L, I, P, E, N), sgX g ++ dy) sz) ((J, L, I, P, E, N), sgX g ++ dy) t) (FR g ((J, L, I, P, E, N), sgX g ++ dy) sz)) 0 0 (FR g ((J, L, I, P, E, N), sgX g ++ dy) sz) := by
  refine ent (by decide +kernel) (Nat.le_of_ble_eq_true rfl) ?_
  intro p e s m below meth c ls hsz C hW hr hlocks hname hl
  generalize FR g ((J, L, I, P, E, N), sgX g ++ dy) sz = A at C hW ⊢
  have hx := C.1.1
  have hb := C.1.2.1
  have hts := C.1.2.2.2.2
  have hl : lv_has ls 2 [(0, .ref (g.2.2.1 8)), (1, .int a0)] := hl
  obtain ⟨H, hH⟩ : ∃ H : Heap, H = s.heap := ⟨_, rfl⟩
  obtain ⟨locs, hlocs⟩ : ∃ q : List Loc, q = [] := ⟨_, rfl⟩
  have hW : WB g A s.heap H locs (J, L, I, P, E, N) (sgX g ++ dy) := by rw [hH, hlocs]; exact hW
  refine start_ hH hlocs ?_
  refine lv_iload_n hx hb dX7_letter_0 rfl (lv_at hl 1 rfl) ?_
  rcases Int.lt_or_le a0.toInt 97 with c1 | c1
  · refine lv_tableOut (tgt := 143) hx hb dX7_letter_1 (Or.inl c1) (by decide) ?_
    refine lv_aload_n hx hb dX7_letter_143 rfl (lv_at hl 0 rfl) ?_
    refine rg_8_9 C hW (mx_ rfl) tw_341 dX7_letter_144 ?_
    exact end_i C hr hlocks () hW (show (J 8 9) = SCL (J 8 2) (J 8 3) (J 8 4) (J 8 5) (J 8 6) (J 8 7) (J 8 8) (J 8 9) a0.toInt from by first | (rw [c1k]; rfl) | (exfalso; omega)) dX7_letter_147
  · rcases Int.lt_or_le 119 a0.toInt with c1b | c1b
    · refine lv_tableOut (tgt := 143) hx hb dX7_letter_1 (Or.inr c1b) (by decide) ?_
      refine lv_aload_n hx hb dX7_letter_143 rfl (lv_at hl 0 rfl) ?_
      refine rg_8_9 C hW (mx_ rfl) tw_341 dX7_letter_144 ?_
      exact end_i C hr hlocks () hW (show (J 8 9) = SCL (J 8 2) (J 8 3) (J 8 4) (J 8 5) (J 8 6) (J 8 7) (J 8 8) (J 8 9) a0.toInt from by first | (rw [c1k]; rfl) | (exfalso; omega)) dX7_letter_147
    · rcases (show a0.toInt = 97 ∨ a0.toInt = 98 ∨ a0.toInt = 99 ∨ a0.toInt = 100 ∨ a0.toInt = 101 ∨ a0.toInt = 102 ∨ a0.toInt = 103 ∨ a0.toInt = 104 ∨ a0.toInt = 105 ∨ a0.toInt = 106 ∨ a0.toInt = 107 ∨ a0.toInt = 108 ∨ a0.toInt = 109 ∨ a0.toInt = 110 ∨ a0.toInt = 111 ∨ a0.toInt = 112 ∨ a0.toInt = 113 ∨ a0.toInt = 114 ∨ a0.toInt = 115 ∨ a0.toInt = 116 ∨ a0.toInt = 117 ∨ a0.toInt = 118 ∨ a0.toInt = 119 by omega) with c1k | c1k | c1k | c1k | c1k | c1k | c1k | c1k | c1k | c1k | c1k | c1k | c1k | c1k | c1k | c1k | c1k | c1k | c1k | c1k | c1k | c1k | c1k
      · refine lv_tableIn (off := 137) (tgt := 138) hx hb dX7_letter_1 (Int.not_lt.mpr c1) (Int.not_lt.mpr c1b) (by rw [c1k]; rfl) (by decide) ?_
        refine lv_aload_n hx hb dX7_letter_138 rfl (lv_at hl 0 rfl) ?_
        refine rg_8_8 C hW (mx_ rfl) tw_339 dX7_letter_139 ?_
        exact end_i C hr hlocks () hW (show (J 8 8) = SCL (J 8 2) (J 8 3) (J 8 4) (J 8 5) (J 8 6) (J 8 7) (J 8 8) (J 8 9) a0.toInt from by first | (rw [c1k]; rfl) | (exfalso; omega)) dX7_letter_142
      · refine lv_tableIn (off := 142) (tgt := 143) hx hb dX7_letter_1 (Int.not_lt.mpr c1) (Int.not_lt.mpr c1b) (by rw [c1k]; rfl) (by decide) ?_
        refine lv_aload_n hx hb dX7_letter_143 rfl (lv_at hl 0 rfl) ?_
        refine rg_8_9 C hW (mx_ rfl) tw_341 dX7_letter_144 ?_
        exact end_i C hr hlocks () hW (show (J 8 9) = SCL (J 8 2) (J 8 3) (J 8 4) (J 8 5) (J 8 6) (J 8 7) (J 8 8) (J 8 9) a0.toInt from by first | (rw [c1k]; rfl) | (exfalso; omega)) dX7_letter_147
      · refine lv_tableIn (off := 142) (tgt := 143) hx hb dX7_letter_1 (Int.not_lt.mpr c1) (Int.not_lt.mpr c1b) (by rw [c1k]; rfl) (by decide) ?_
        refine lv_aload_n hx hb dX7_letter_143 rfl (lv_at hl 0 rfl) ?_
        refine rg_8_9 C hW (mx_ rfl) tw_341 dX7_letter_144 ?_
        exact end_i C hr hlocks () hW (show (J 8 9) = SCL (J 8 2) (J 8 3) (J 8 4) (J 8 5) (J 8 6) (J 8 7) (J 8 8) (J 8 9) a0.toInt from by first | (rw [c1k]; rfl) | (exfalso; omega)) dX7_letter_147
      · refine lv_tableIn (off := 142) (tgt := 143) hx hb dX7_letter_1 (Int.not_lt.mpr c1) (Int.not_lt.mpr c1b) (by rw [c1k]; rfl) (by decide) ?_
        refine lv_aload_n hx hb dX7_letter_143 rfl (lv_at hl 0 rfl) ?_
        refine rg_8_9 C hW (mx_ rfl) tw_341 dX7_letter_144 ?_
        exact end_i C hr hlocks () hW (show (J 8 9) = SCL (J 8 2) (J 8 3) (J 8 4) (J 8 5) (J 8 6) (J 8 7) (J 8 8) (J 8 9) a0.toInt from by first | (rw [c1k]; rfl) | (exfalso; omega)) dX7_letter_147
      · refine lv_tableIn (off := 142) (tgt := 143) hx hb dX7_letter_1 (Int.not_lt.mpr c1) (Int.not_lt.mpr c1b) (by rw [c1k]; rfl) (by decide) ?_
        refine lv_aload_n hx hb dX7_letter_143 rfl (lv_at hl 0 rfl) ?_
        refine rg_8_9 C hW (mx_ rfl) tw_341 dX7_letter_144 ?_
        exact end_i C hr hlocks () hW (show (J 8 9) = SCL (J 8 2) (J 8 3) (J 8 4) (J 8 5) (J 8 6) (J 8 7) (J 8 8) (J 8 9) a0.toInt from by first | (rw [c1k]; rfl) | (exfalso; omega)) dX7_letter_147
      · refine lv_tableIn (off := 142) (tgt := 143) hx hb dX7_letter_1 (Int.not_lt.mpr c1) (Int.not_lt.mpr c1b) (by rw [c1k]; rfl) (by decide) ?_
        refine lv_aload_n hx hb dX7_letter_143 rfl (lv_at hl 0 rfl) ?_
        refine rg_8_9 C hW (mx_ rfl) tw_341 dX7_letter_144 ?_
        exact end_i C hr hlocks () hW (show (J 8 9) = SCL (J 8 2) (J 8 3) (J 8 4) (J 8 5) (J 8 6) (J 8 7) (J 8 8) (J 8 9) a0.toInt from by first | (rw [c1k]; rfl) | (exfalso; omega)) dX7_letter_147
      · refine lv_tableIn (off := 142) (tgt := 143) hx hb dX7_letter_1 (Int.not_lt.mpr c1) (Int.not_lt.mpr c1b) (by rw [c1k]; rfl) (by decide) ?_
        refine lv_aload_n hx hb dX7_letter_143 rfl (lv_at hl 0 rfl) ?_
        refine rg_8_9 C hW (mx_ rfl) tw_341 dX7_letter_144 ?_
        exact end_i C hr hlocks () hW (show (J 8 9) = SCL (J 8 2) (J 8 3) (J 8 4) (J 8 5) (J 8 6) (J 8 7) (J 8 8) (J 8 9) a0.toInt from by first | (rw [c1k]; rfl) | (exfalso; omega)) dX7_letter_147
      · refine lv_tableIn (off := 112) (tgt := 113) hx hb dX7_letter_1 (Int.not_lt.mpr c1) (Int.not_lt.mpr c1b) (by rw [c1k]; rfl) (by decide) ?_
        refine lv_aload_n hx hb dX7_letter_113 rfl (lv_at hl 0 rfl) ?_
        refine rg_8_3 C hW (mx_ rfl) tw_329 dX7_letter_114 ?_
        exact end_i C hr hlocks () hW (show (J 8 3) = SCL (J 8 2) (J 8 3) (J 8 4) (J 8 5) (J 8 6) (J 8 7) (J 8 8) (J 8 9) a0.toInt from by first | (rw [c1k]; rfl) | (exfalso; omega)) dX7_letter_117
      · refine lv_tableIn (off := 142) (tgt := 143) hx hb dX7_letter_1 (Int.not_lt.mpr c1) (Int.not_lt.mpr c1b) (by rw [c1k]; rfl) (by decide) ?_
        refine lv_aload_n hx hb dX7_letter_143 rfl (lv_at hl 0 rfl) ?_
        refine rg_8_9 C hW (mx_ rfl) tw_341 dX7_letter_144 ?_
        exact end_i C hr hlocks () hW (show (J 8 9) = SCL (J 8 2) (J 8 3) (J 8 4) (J 8 5) (J 8 6) (J 8 7) (J 8 8) (J 8 9) a0.toInt from by first | (rw [c1k]; rfl) | (exfalso; omega)) dX7_letter_147
      · refine lv_tableIn (off := 142) (tgt := 143) hx hb dX7_letter_1 (Int.not_lt.mpr c1) (Int.not_lt.mpr c1b) (by rw [c1k]; rfl) (by decide) ?_
        refine lv_aload_n hx hb dX7_letter_143 rfl (lv_at hl 0 rfl) ?_
        refine rg_8_9 C hW (mx_ rfl) tw_341 dX7_letter_144 ?_
        exact end_i C hr hlocks () hW (show (J 8 9) = SCL (J 8 2) (J 8 3) (J 8 4) (J 8 5) (J 8 6) (J 8 7) (J 8 8) (J 8 9) a0.toInt from by first | (rw [c1k]; rfl) | (exfalso; omega)) dX7_letter_147
      · refine lv_tableIn (off := 107) (tgt := 108) hx hb dX7_letter_1 (Int.not_lt.mpr c1) (Int.not_lt.mpr c1b) (by rw [c1k]; rfl) (by decide) ?_
        refine lv_aload_n hx hb dX7_letter_108 rfl (lv_at hl 0 rfl) ?_
        refine rg_8_2 C hW (mx_ rfl) tw_327 dX7_letter_109 ?_
        exact end_i C hr hlocks () hW (show (J 8 2) = SCL (J 8 2) (J 8 3) (J 8 4) (J 8 5) (J 8 6) (J 8 7) (J 8 8) (J 8 9) a0.toInt from by first | (rw [c1k]; rfl) | (exfalso; omega)) dX7_letter_112
      · refine lv_tableIn (off := 142) (tgt := 143) hx hb dX7_letter_1 (Int.not_lt.mpr c1) (Int.not_lt.mpr c1b) (by rw [c1k]; rfl) (by decide) ?_
        refine lv_aload_n hx hb dX7_letter_143 rfl (lv_at hl 0 rfl) ?_
        refine rg_8_9 C hW (mx_ rfl) tw_341 dX7_letter_144 ?_
        exact end_i C hr hlocks () hW (show (J 8 9) = SCL (J 8 2) (J 8 3) (J 8 4) (J 8 5) (J 8 6) (J 8 7) (J 8 8) (J 8 9) a0.toInt from by first | (rw [c1k]; rfl) | (exfalso; omega)) dX7_letter_147
      · refine lv_tableIn (off := 127) (tgt := 128) hx hb dX7_letter_1 (Int.not_lt.mpr c1) (Int.not_lt.mpr c1b) (by rw [c1k]; rfl) (by decide) ?_
        refine lv_aload_n hx hb dX7_letter_128 rfl (lv_at hl 0 rfl) ?_
        refine rg_8_6 C hW (mx_ rfl) tw_335 dX7_letter_129 ?_
        exact end_i C hr hlocks () hW (show (J 8 6) = SCL (J 8 2) (J 8 3) (J 8 4) (J 8 5) (J 8 6) (J 8 7) (J 8 8) (J 8 9) a0.toInt from by first | (rw [c1k]; rfl) | (exfalso; omega)) dX7_letter_132
      · refine lv_tableIn (off := 142) (tgt := 143) hx hb dX7_letter_1 (Int.not_lt.mpr c1) (Int.not_lt.mpr c1b) (by rw [c1k]; rfl) (by decide) ?_
        refine lv_aload_n hx hb dX7_letter_143 rfl (lv_at hl 0 rfl) ?_
        refine rg_8_9 C hW (mx_ rfl) tw_341 dX7_letter_144 ?_
        exact end_i C hr hlocks () hW (show (J 8 9) = SCL (J 8 2) (J 8 3) (J 8 4) (J 8 5) (J 8 6) (J 8 7) (J 8 8) (J 8 9) a0.toInt from by first | (rw [c1k]; rfl) | (exfalso; omega)) dX7_letter_147
      · refine lv_tableIn (off := 142) (tgt := 143) hx hb dX7_letter_1 (Int.not_lt.mpr c1) (Int.not_lt.mpr c1b) (by rw [c1k]; rfl) (by decide) ?_
        refine lv_aload_n hx hb dX7_letter_143 rfl (lv_at hl 0 rfl) ?_
        refine rg_8_9 C hW (mx_ rfl) tw_341 dX7_letter_144 ?_
        exact end_i C hr hlocks () hW (show (J 8 9) = SCL (J 8 2) (J 8 3) (J 8 4) (J 8 5) (J 8 6) (J 8 7) (J 8 8) (J 8 9) a0.toInt from by first | (rw [c1k]; rfl) | (exfalso; omega)) dX7_letter_147
      · refine lv_tableIn (off := 142) (tgt := 143) hx hb dX7_letter_1 (Int.not_lt.mpr c1) (Int.not_lt.mpr c1b) (by rw [c1k]; rfl) (by decide) ?_
        refine lv_aload_n hx hb dX7_letter_143 rfl (lv_at hl 0 rfl) ?_
        refine rg_8_9 C hW (mx_ rfl) tw_341 dX7_letter_144 ?_
        exact end_i C hr hlocks () hW (show (J 8 9) = SCL (J 8 2) (J 8 3) (J 8 4) (J 8 5) (J 8 6) (J 8 7) (J 8 8) (J 8 9) a0.toInt from by first | (rw [c1k]; rfl) | (exfalso; omega)) dX7_letter_147
      · refine lv_tableIn (off := 142) (tgt := 143) hx hb dX7_letter_1 (Int.not_lt.mpr c1) (Int.not_lt.mpr c1b) (by rw [c1k]; rfl) (by decide) ?_
        refine lv_aload_n hx hb dX7_letter_143 rfl (lv_at hl 0 rfl) ?_
        refine rg_8_9 C hW (mx_ rfl) tw_341 dX7_letter_144 ?_
        exact end_i C hr hlocks () hW (show (J 8 9) = SCL (J 8 2) (J 8 3) (J 8 4) (J 8 5) (J 8 6) (J 8 7) (J 8 8) (J 8 9) a0.toInt from by first | (rw [c1k]; rfl) | (exfalso; omega)) dX7_letter_147
      · refine lv_tableIn (off := 142) (tgt := 143) hx hb dX7_letter_1 (Int.not_lt.mpr c1) (Int.not_lt.mpr c1b) (by rw [c1k]; rfl) (by decide) ?_
        refine lv_aload_n hx hb dX7_letter_143 rfl (lv_at hl 0 rfl) ?_
        refine rg_8_9 C hW (mx_ rfl) tw_341 dX7_letter_144 ?_
        exact end_i C hr hlocks () hW (show (J 8 9) = SCL (J 8 2) (J 8 3) (J 8 4) (J 8 5) (J 8 6) (J 8 7) (J 8 8) (J 8 9) a0.toInt from by first | (rw [c1k]; rfl) | (exfalso; omega)) dX7_letter_147
      · refine lv_tableIn (off := 122) (tgt := 123) hx hb dX7_letter_1 (Int.not_lt.mpr c1) (Int.not_lt.mpr c1b) (by rw [c1k]; rfl) (by decide) ?_
        refine lv_aload_n hx hb dX7_letter_123 rfl (lv_at hl 0 rfl) ?_
        refine rg_8_5 C hW (mx_ rfl) tw_333 dX7_letter_124 ?_
        exact end_i C hr hlocks () hW (show (J 8 5) = SCL (J 8 2) (J 8 3) (J 8 4) (J 8 5) (J 8 6) (J 8 7) (J 8 8) (J 8 9) a0.toInt from by first | (rw [c1k]; rfl) | (exfalso; omega)) dX7_letter_127
      · refine lv_tableIn (off := 142) (tgt := 143) hx hb dX7_letter_1 (Int.not_lt.mpr c1) (Int.not_lt.mpr c1b) (by rw [c1k]; rfl) (by decide) ?_
        refine lv_aload_n hx hb dX7_letter_143 rfl (lv_at hl 0 rfl) ?_
        refine rg_8_9 C hW (mx_ rfl) tw_341 dX7_letter_144 ?_
        exact end_i C hr hlocks () hW (show (J 8 9) = SCL (J 8 2) (J 8 3) (J 8 4) (J 8 5) (J 8 6) (J 8 7) (J 8 8) (J 8 9) a0.toInt from by first | (rw [c1k]; rfl) | (exfalso; omega)) dX7_letter_147
      · refine lv_tableIn (off := 142) (tgt := 143) hx hb dX7_letter_1 (Int.not_lt.mpr c1) (Int.not_lt.mpr c1b) (by rw [c1k]; rfl) (by decide) ?_
        refine lv_aload_n hx hb dX7_letter_143 rfl (lv_at hl 0 rfl) ?_
        refine rg_8_9 C hW (mx_ rfl) tw_341 dX7_letter_144 ?_
        exact end_i C hr hlocks () hW (show (J 8 9) = SCL (J 8 2) (J 8 3) (J 8 4) (J 8 5) (J 8 6) (J 8 7) (J 8 8) (J 8 9) a0.toInt from by first | (rw [c1k]; rfl) | (exfalso; omega)) dX7_letter_147
      · refine lv_tableIn (off := 117) (tgt := 118) hx hb dX7_letter_1 (Int.not_lt.mpr c1) (Int.not_lt.mpr c1b) (by rw [c1k]; rfl) (by decide) ?_
        refine lv_aload_n hx hb dX7_letter_118 rfl (lv_at hl 0 rfl) ?_
        refine rg_8_4 C hW (mx_ rfl) tw_331 dX7_letter_119 ?_
        exact end_i C hr hlocks () hW (show (J 8 4) = SCL (J 8 2) (J 8 3) (J 8 4) (J 8 5) (J 8 6) (J 8 7) (J 8 8) (J 8 9) a0.toInt from by first | (rw [c1k]; rfl) | (exfalso; omega)) dX7_letter_122
      · refine lv_tableIn (off := 132) (tgt := 133) hx hb dX7_letter_1 (Int.not_lt.mpr c1) (Int.not_lt.mpr c1b) (by rw [c1k]; rfl) (by decide) ?_
        refine lv_aload_n hx hb dX7_letter_133 rfl (lv_at hl 0 rfl) ?_
        refine rg_8_7 C hW (mx_ rfl) tw_337 dX7_letter_134 ?_
        exact end_i C hr hlocks () hW (show (J 8 7) = SCL (J 8 2) (J 8 3) (J 8 4) (J 8 5) (J 8 6) (J 8 7) (J 8 8) (J 8 9) a0.toInt from by first | (rw [c1k]; rfl) | (exfalso; omega)) dX7_letter_137

set_option maxHeartbeats 4000000 in
set_option maxRecDepth 100000 in
theorem c_X7_push_e (l : Launch) (g : gG) (J : Nat → Nat → Int32) (L : Nat → Nat → Int64) (I : Nat → Nat → Nat → Int32) (P : Nat → Nat → Nat → Option Nat) (E : Nat → Option Nat) (N : Nat → Nat) (dy : List (Nat × Nat)) (sz : Nat) (a0 : Int32) (htop : 0 ≤ (J 8 1).toInt ∧ (J 8 1).toInt ≤ 59) : Met l yX7_push (WS yX7_push cX7_push 2 none) (RM (1) 0 0) (PC g [.ref (g.2.2.1 8), .int a0] ((J, L, I, P, E, N), sgX g ++ dy) sz) (va_Qv (fun (u : (Nat → Nat → Int32)) => ((u 8 1).toInt = (J 8 1).toInt + 1) ∧ (u 45 = up2 J 45 (J 8 1).toInt.toNat a0 45)) (fun u t => at_ g (FR g ((J, L, I, P, E, N), sgX g ++ dy) sz) (((hv J [45] [(8, 1)] u), L, I, P, E, N), sgX g ++ dy) t) (FR g ((J, L, I, P, E, N), sgX g ++ dy) sz)) 0 0 (FR g ((J, L, I, P, E, N), sgX g ++ dy) sz) := by
  refine ent (by decide +kernel) (Nat.le_of_ble_eq_true rfl) ?_
  intro p e s m below meth c ls hsz C hW hr hlocks hname hl
  generalize FR g ((J, L, I, P, E, N), sgX g ++ dy) sz = A at C hW ⊢
  have hx := C.1.1
  have hb := C.1.2.1
  have hts := C.1.2.2.2.2
  have hl : lv_has ls 2 [(0, .ref (g.2.2.1 8)), (1, .int a0)] := hl
  obtain ⟨H, hH⟩ : ∃ H : Heap, H = s.heap := ⟨_, rfl⟩
  obtain ⟨locs, hlocs⟩ : ∃ q : List Loc, q = [] := ⟨_, rfl⟩
  have hW : WB g A s.heap H locs (J, L, I, P, E, N) (sgX g ++ dy) := by rw [hH, hlocs]; exact hW
  refine start_ hH hlocs ?_
  refine lv_aload_n hx hb dX7_push_0 rfl (lv_at hl 0 rfl) ?_
  refine rg_8_1 C hW (mx_ rfl) tw_326 dX7_push_1 ?_
  refine lv_if_lt (tgt := 39) hx hb dX7_push_4 (by decide) (fun c1 => ?_) (fun c1 => ?_)
  · have c1 : (J 8 1).toInt < 0 := tlt rfl kp0 c1
    have hWr : WB g A s.heap H locs ((hv J [45] [(8, 1)] J), L, I, P, E, N) (sgX g ++ dy) := by
      rw [← ag_hvE (J := J) (R := [45]) (F := [(8, 1)]) ag_rf]
      exact hW
    exact end_v C hr hlocks J hWr ⟨show (J 8 1).toInt = (J 8 1).toInt + 1 from by first | omega | (exfalso; omega), show J 45 = up2 J 45 (J 8 1).toInt.toNat a0 45 from by first | rfl | (exfalso; omega)⟩ dX7_push_39
  · have c1 : 0 ≤ (J 8 1).toInt := tnlt rfl kp0 c1
    refine lv_aload_n hx hb dX7_push_7 rfl (lv_at hl 0 rfl) ?_
    refine rg_8_1 C hW (mx_ rfl) tw_326 dX7_push_8 ?_
    refine lv_aload_n hx hb dX7_push_11 rfl (lv_at hl 0 rfl) ?_
    refine rg_8_0 C hW (mx_ rfl) tw_325 dX7_push_12 ?_
    refine rl_45 C hW (mx_ rfl) dX7_push_15 ?_
    refine lv_icmp_ge (tgt := 39) hx hb dX7_push_16 (by decide) (fun c2 => ?_) (fun c2 => ?_)
    · have c2 : 60 ≤ (J 8 1).toInt := tle kp60 rfl c2
      have hWr : WB g A s.heap H locs ((hv J [45] [(8, 1)] J), L, I, P, E, N) (sgX g ++ dy) := by
        rw [← ag_hvE (J := J) (R := [45]) (F := [(8, 1)]) ag_rf]
        exact hW
      exact end_v C hr hlocks J hWr ⟨show (J 8 1).toInt = (J 8 1).toInt + 1 from by first | omega | (exfalso; omega), show J 45 = up2 J 45 (J 8 1).toInt.toNat a0 45 from by first | rfl | (exfalso; omega)⟩ dX7_push_39
    · have c2 : (J 8 1).toInt < 60 := tnle kp60 rfl c2
      refine lv_aload_n hx hb dX7_push_19 rfl (lv_at hl 0 rfl) ?_
      refine rg_8_0 C hW (mx_ rfl) tw_325 dX7_push_20 ?_
      refine lv_aload_n hx hb dX7_push_23 rfl (lv_at hl 0 rfl) ?_
      refine rg_8_1 C hW (mx_ rfl) tw_326 dX7_push_24 ?_
      refine lv_iload_n hx hb dX7_push_27 rfl (lv_at hl 1 rfl) ?_
      have hin : vp_in (J 8 1) 60 := tin rfl (by omega)
      refine rs_45 C hW (mx_ rfl) hin dX7_push_28 (fun H locs hW => ?_)
      refine lv_aload_n hx hb dX7_push_29 rfl (lv_at hl 0 rfl) ?_
      refine lv_dup hx hb dX7_push_30 rfl ?_
      refine rg_8_1 C hW (mx_ rfl) tw_326 dX7_push_31 ?_
      refine lv_as (J 8 1) rfl ?_
      refine lv_iconst (v := 1) hx hb dX7_push_34 (by decide) ?_
      refine lv_iadd hx hb dX7_push_35 ?_
      refine lv_topi (fun x3 (e3 : x3 = (J 8 1) + 1) => ?_)
      try have t3 : x3.toInt = (J 8 1).toInt + 1 := tadd e3 rfl kp1 (by omega)
      refine rp_8_1 C hW (mx_ rfl) tw_326 dX7_push_36 (fun H locs hW => ?_)
      have hWr : WB g A s.heap H locs ((hv J [45] [(8, 1)] (up2 (up2 J 45 ((J 8 1).toNatClampNeg) a0) 8 1 x3)), L, I, P, E, N) (sgX g ++ dy) := by
        rw [← ag_hvE (J := J) (R := [45]) (F := [(8, 1)]) (ag_up (Or.inr rfl) (ag_up (Or.inl rfl) ag_rf))]
        exact hW
      exact end_v C hr hlocks (up2 (up2 J 45 ((J 8 1).toNatClampNeg) a0) 8 1 x3) hWr ⟨show (x3).toInt = (J 8 1).toInt + 1 from by first | omega | (exfalso; omega), show (up2 J 45 ((J 8 1).toNatClampNeg) a0) 45 = up2 J 45 (J 8 1).toInt.toNat a0 45 from by first | rfl | (exfalso; omega)⟩ dX7_push_39

set_option maxHeartbeats 4000000 in
set_option maxRecDepth 100000 in
theorem c_X7_work_e (l : Launch) (g : gG) (J : Nat → Nat → Int32) (L : Nat → Nat → Int64) (I : Nat → Nat → Nat → Int32) (P : Nat → Nat → Nat → Option Nat) (E : Nat → Option Nat) (N : Nat → Nat) (dy : List (Nat × Nat)) (sz : Nat) (a0 : Int32) (a1 : Int64) (a2 : Int64)  : Met l yX7_work (WS yX7_work cX7_work 5 (some .long)) (RM (1) 0 0) (PC g [.int a0, .long a1, .long a2] ((J, L, I, P, E, N), sgX g ++ dy) sz) (va_Ql (fun (r : Int64) (u : Unit) => (r = wk64 a0.toInt a1 a2)) (fun u t => at_ g (FR g ((J, L, I, P, E, N), sgX g ++ dy) sz) ((J, L, I, P, E, N), sgX g ++ dy) t) (FR g ((J, L, I, P, E, N), sgX g ++ dy) sz)) 0 0 (FR g ((J, L, I, P, E, N), sgX g ++ dy) sz) := by
  refine ent (by decide +kernel) (Nat.le_of_ble_eq_true rfl) ?_
  intro p e s m below meth c ls hsz C hW hr hlocks hname hl
  generalize FR g ((J, L, I, P, E, N), sgX g ++ dy) sz = A at C hW ⊢
  have hx := C.1.1
  have hb := C.1.2.1
  have hts := C.1.2.2.2.2
  have hl : lv_has ls 5 [(0, .int a0), (1, .long a1), (3, .long a2)] := hl
  obtain ⟨H, hH⟩ : ∃ H : Heap, H = s.heap := ⟨_, rfl⟩
  obtain ⟨locs, hlocs⟩ : ∃ q : List Loc, q = [] := ⟨_, rfl⟩
  have hW : WB g A s.heap H locs (J, L, I, P, E, N) (sgX g ++ dy) := by rw [hH, hlocs]; exact hW
  refine start_ hH hlocs ?_
  refine lv_iload_n hx hb dX7_work_0 rfl (lv_at hl 0 rfl) ?_
  rcases Int.lt_or_le a0.toInt 42 with c1 | c1
  · refine lv_tableOut (tgt := 146) hx hb dX7_work_1 (Or.inl c1) (by decide) ?_
    refine lv_lload_n hx hb dX7_work_146 rfl (lv_at hl 1 rfl) ?_
    refine lv_lload_n hx hb dX7_work_147 rfl (lv_at hl 2 rfl) ?_
    refine W.lcmp hx hb dX7_work_148 ?_
    refine lv_topi (fun x2 (e2 : x2 = lg_cmp a1 a2) => ?_)
    refine lv_if_le (tgt := 156) hx hb dX7_work_149 (by decide) (fun c3 => ?_) (fun c3 => ?_)
    · have c3 : x2.toInt ≤ 0 := tle rfl kp0 c3
      refine lv_lconst (v := 0) hx hb dX7_work_156 (by decide) ?_
      exact end_l C hr hlocks () hW (show (0 : Int64) = wk64 a0.toInt a1 a2 from by first | exact wk_0 e2 (by omega) | exact wk_z e2 c3 (by omega)) dX7_work_157
    · have c3 : 0 < x2.toInt := tnle rfl kp0 c3
      refine lv_lconst (v := 1) hx hb dX7_work_152 (by decide) ?_
      refine lv_goto (tgt := 157) hx hb dX7_work_153 (by decide) ?_
      exact end_l C hr hlocks () hW (show (1 : Int64) = wk64 a0.toInt a1 a2 from by first | exact wk_1 e2 (by omega) | exact wk_z e2 c3 (by omega)) dX7_work_157
  · rcases Int.lt_or_le 61 a0.toInt with c1b | c1b
    · refine lv_tableOut (tgt := 146) hx hb dX7_work_1 (Or.inr c1b) (by decide) ?_
      refine lv_lload_n hx hb dX7_work_146 rfl (lv_at hl 1 rfl) ?_
      refine lv_lload_n hx hb dX7_work_147 rfl (lv_at hl 2 rfl) ?_
      refine W.lcmp hx hb dX7_work_148 ?_
      refine lv_topi (fun x4 (e4 : x4 = lg_cmp a1 a2) => ?_)
      refine lv_if_le (tgt := 156) hx hb dX7_work_149 (by decide) (fun c5 => ?_) (fun c5 => ?_)
      · have c5 : x4.toInt ≤ 0 := tle rfl kp0 c5
        refine lv_lconst (v := 0) hx hb dX7_work_156 (by decide) ?_
        exact end_l C hr hlocks () hW (show (0 : Int64) = wk64 a0.toInt a1 a2 from by first | exact wk_0 e4 (by omega) | exact wk_z e4 c5 (by omega)) dX7_work_157
      · have c5 : 0 < x4.toInt := tnle rfl kp0 c5
        refine lv_lconst (v := 1) hx hb dX7_work_152 (by decide) ?_
        refine lv_goto (tgt := 157) hx hb dX7_work_153 (by decide) ?_
        exact end_l C hr hlocks () hW (show (1 : Int64) = wk64 a0.toInt a1 a2 from by first | exact wk_1 e4 (by omega) | exact wk_z e4 c5 (by omega)) dX7_work_157
    · rcases (show a0.toInt = 42 ∨ a0.toInt = 43 ∨ a0.toInt = 44 ∨ a0.toInt = 45 ∨ a0.toInt = 46 ∨ a0.toInt = 47 ∨ a0.toInt = 48 ∨ a0.toInt = 49 ∨ a0.toInt = 50 ∨ a0.toInt = 51 ∨ a0.toInt = 52 ∨ a0.toInt = 53 ∨ a0.toInt = 54 ∨ a0.toInt = 55 ∨ a0.toInt = 56 ∨ a0.toInt = 57 ∨ a0.toInt = 58 ∨ a0.toInt = 59 ∨ a0.toInt = 60 ∨ a0.toInt = 61 by omega) with c1k | c1k | c1k | c1k | c1k | c1k | c1k | c1k | c1k | c1k | c1k | c1k | c1k | c1k | c1k | c1k | c1k | c1k | c1k | c1k
      · refine lv_tableIn (off := 103) (tgt := 104) hx hb dX7_work_1 (Int.not_lt.mpr c1) (Int.not_lt.mpr c1b) (by rw [c1k]; rfl) (by decide) ?_
        refine lv_lload_n hx hb dX7_work_104 rfl (lv_at hl 1 rfl) ?_
        refine lv_lload_n hx hb dX7_work_105 rfl (lv_at hl 2 rfl) ?_
        refine lv_lmul hx hb dX7_work_106 ?_
        refine lv_topl (fun z6 ez6 => ?_)
        exact end_l C hr hlocks () hW (show z6 = wk64 a0.toInt a1 a2 from by first | exact ez6.trans (wk_42 (by omega)).symm | exact ez6.trans (wk_43 (by omega)).symm | exact ez6.trans (wk_45 (by omega)).symm | exact ez6.trans (wk_47 e13 c14 (by omega)).symm) dX7_work_107
      · refine lv_tableIn (off := 95) (tgt := 96) hx hb dX7_work_1 (Int.not_lt.mpr c1) (Int.not_lt.mpr c1b) (by rw [c1k]; rfl) (by decide) ?_
        refine lv_lload_n hx hb dX7_work_96 rfl (lv_at hl 1 rfl) ?_
        refine lv_lload_n hx hb dX7_work_97 rfl (lv_at hl 2 rfl) ?_
        refine lv_ladd hx hb dX7_work_98 ?_
        refine lv_topl (fun z7 ez7 => ?_)
        exact end_l C hr hlocks () hW (show z7 = wk64 a0.toInt a1 a2 from by first | exact ez7.trans (wk_42 (by omega)).symm | exact ez7.trans (wk_43 (by omega)).symm | exact ez7.trans (wk_45 (by omega)).symm | exact ez7.trans (wk_47 e13 c14 (by omega)).symm) dX7_work_99
      · refine lv_tableIn (off := 145) (tgt := 146) hx hb dX7_work_1 (Int.not_lt.mpr c1) (Int.not_lt.mpr c1b) (by rw [c1k]; rfl) (by decide) ?_
        refine lv_lload_n hx hb dX7_work_146 rfl (lv_at hl 1 rfl) ?_
        refine lv_lload_n hx hb dX7_work_147 rfl (lv_at hl 2 rfl) ?_
        refine W.lcmp hx hb dX7_work_148 ?_
        refine lv_topi (fun x8 (e8 : x8 = lg_cmp a1 a2) => ?_)
        refine lv_if_le (tgt := 156) hx hb dX7_work_149 (by decide) (fun c9 => ?_) (fun c9 => ?_)
        · have c9 : x8.toInt ≤ 0 := tle rfl kp0 c9
          refine lv_lconst (v := 0) hx hb dX7_work_156 (by decide) ?_
          exact end_l C hr hlocks () hW (show (0 : Int64) = wk64 a0.toInt a1 a2 from by first | exact wk_0 e8 (by omega) | exact wk_z e8 c9 (by omega)) dX7_work_157
        · have c9 : 0 < x8.toInt := tnle rfl kp0 c9
          refine lv_lconst (v := 1) hx hb dX7_work_152 (by decide) ?_
          refine lv_goto (tgt := 157) hx hb dX7_work_153 (by decide) ?_
          exact end_l C hr hlocks () hW (show (1 : Int64) = wk64 a0.toInt a1 a2 from by first | exact wk_1 e8 (by omega) | exact wk_z e8 c9 (by omega)) dX7_work_157
      · refine lv_tableIn (off := 99) (tgt := 100) hx hb dX7_work_1 (Int.not_lt.mpr c1) (Int.not_lt.mpr c1b) (by rw [c1k]; rfl) (by decide) ?_
        refine lv_lload_n hx hb dX7_work_100 rfl (lv_at hl 1 rfl) ?_
        refine lv_lload_n hx hb dX7_work_101 rfl (lv_at hl 2 rfl) ?_
        refine lv_lsub hx hb dX7_work_102 ?_
        refine lv_topl (fun z10 ez10 => ?_)
        exact end_l C hr hlocks () hW (show z10 = wk64 a0.toInt a1 a2 from by first | exact ez10.trans (wk_42 (by omega)).symm | exact ez10.trans (wk_43 (by omega)).symm | exact ez10.trans (wk_45 (by omega)).symm | exact ez10.trans (wk_47 e13 c14 (by omega)).symm) dX7_work_103
      · refine lv_tableIn (off := 145) (tgt := 146) hx hb dX7_work_1 (Int.not_lt.mpr c1) (Int.not_lt.mpr c1b) (by rw [c1k]; rfl) (by decide) ?_
        refine lv_lload_n hx hb dX7_work_146 rfl (lv_at hl 1 rfl) ?_
        refine lv_lload_n hx hb dX7_work_147 rfl (lv_at hl 2 rfl) ?_
        refine W.lcmp hx hb dX7_work_148 ?_
        refine lv_topi (fun x11 (e11 : x11 = lg_cmp a1 a2) => ?_)
        refine lv_if_le (tgt := 156) hx hb dX7_work_149 (by decide) (fun c12 => ?_) (fun c12 => ?_)
        · have c12 : x11.toInt ≤ 0 := tle rfl kp0 c12
          refine lv_lconst (v := 0) hx hb dX7_work_156 (by decide) ?_
          exact end_l C hr hlocks () hW (show (0 : Int64) = wk64 a0.toInt a1 a2 from by first | exact wk_0 e11 (by omega) | exact wk_z e11 c12 (by omega)) dX7_work_157
        · have c12 : 0 < x11.toInt := tnle rfl kp0 c12
          refine lv_lconst (v := 1) hx hb dX7_work_152 (by decide) ?_
          refine lv_goto (tgt := 157) hx hb dX7_work_153 (by decide) ?_
          exact end_l C hr hlocks () hW (show (1 : Int64) = wk64 a0.toInt a1 a2 from by first | exact wk_1 e11 (by omega) | exact wk_z e11 c12 (by omega)) dX7_work_157
      · refine lv_tableIn (off := 107) (tgt := 108) hx hb dX7_work_1 (Int.not_lt.mpr c1) (Int.not_lt.mpr c1b) (by rw [c1k]; rfl) (by decide) ?_
        refine lv_lload_n hx hb dX7_work_108 rfl (lv_at hl 2 rfl) ?_
        refine lv_lconst (v := 0) hx hb dX7_work_109 (by decide) ?_
        refine W.lcmp hx hb dX7_work_110 ?_
        refine lv_topi (fun x13 (e13 : x13 = lg_cmp a2 (0 : Int64)) => ?_)
        refine lv_if_ne (tgt := 118) hx hb dX7_work_111 (by decide) (fun c14 => ?_) (fun c14 => ?_)
        · have c14 : ¬ x13.toInt = 0 := tne rfl kp0 c14
          refine lv_lload_n hx hb dX7_work_118 rfl (lv_at hl 1 rfl) ?_
          refine lv_lload_n hx hb dX7_work_119 rfl (lv_at hl 2 rfl) ?_
          refine lv_ldiv hx hb dX7_work_120 (by intro h; have q := (lg_cmp_eq a2 0).mpr h; rw [← e13] at q; exact c14 (by rw [q]; rfl)) ?_
          refine lv_topl (fun z15 ez15 => ?_)
          exact end_l C hr hlocks () hW (show z15 = wk64 a0.toInt a1 a2 from by first | exact ez15.trans (wk_42 (by omega)).symm | exact ez15.trans (wk_43 (by omega)).symm | exact ez15.trans (wk_45 (by omega)).symm | exact ez15.trans (wk_47 e13 c14 (by omega)).symm) dX7_work_121
        · have c14 : x13.toInt = 0 := teq rfl kp0 c14
          refine lv_lconst (v := 0) hx hb dX7_work_114 (by decide) ?_
          refine lv_goto (tgt := 121) hx hb dX7_work_115 (by decide) ?_
          exact end_l C hr hlocks () hW (show (0 : Int64) = wk64 a0.toInt a1 a2 from by first | exact wk_0 e13 (by omega) | exact wk_z e13 c14 (by omega)) dX7_work_121
      · refine lv_tableIn (off := 145) (tgt := 146) hx hb dX7_work_1 (Int.not_lt.mpr c1) (Int.not_lt.mpr c1b) (by rw [c1k]; rfl) (by decide) ?_
        refine lv_lload_n hx hb dX7_work_146 rfl (lv_at hl 1 rfl) ?_
        refine lv_lload_n hx hb dX7_work_147 rfl (lv_at hl 2 rfl) ?_
        refine W.lcmp hx hb dX7_work_148 ?_
        refine lv_topi (fun x16 (e16 : x16 = lg_cmp a1 a2) => ?_)
        refine lv_if_le (tgt := 156) hx hb dX7_work_149 (by decide) (fun c17 => ?_) (fun c17 => ?_)
        · have c17 : x16.toInt ≤ 0 := tle rfl kp0 c17
          refine lv_lconst (v := 0) hx hb dX7_work_156 (by decide) ?_
          exact end_l C hr hlocks () hW (show (0 : Int64) = wk64 a0.toInt a1 a2 from by first | exact wk_0 e16 (by omega) | exact wk_z e16 c17 (by omega)) dX7_work_157
        · have c17 : 0 < x16.toInt := tnle rfl kp0 c17
          refine lv_lconst (v := 1) hx hb dX7_work_152 (by decide) ?_
          refine lv_goto (tgt := 157) hx hb dX7_work_153 (by decide) ?_
          exact end_l C hr hlocks () hW (show (1 : Int64) = wk64 a0.toInt a1 a2 from by first | exact wk_1 e16 (by omega) | exact wk_z e16 c17 (by omega)) dX7_work_157
      · refine lv_tableIn (off := 145) (tgt := 146) hx hb dX7_work_1 (Int.not_lt.mpr c1) (Int.not_lt.mpr c1b) (by rw [c1k]; rfl) (by decide) ?_
        refine lv_lload_n hx hb dX7_work_146 rfl (lv_at hl 1 rfl) ?_
        refine lv_lload_n hx hb dX7_work_147 rfl (lv_at hl 2 rfl) ?_
        refine W.lcmp hx hb dX7_work_148 ?_
        refine lv_topi (fun x18 (e18 : x18 = lg_cmp a1 a2) => ?_)
        refine lv_if_le (tgt := 156) hx hb dX7_work_149 (by decide) (fun c19 => ?_) (fun c19 => ?_)
        · have c19 : x18.toInt ≤ 0 := tle rfl kp0 c19
          refine lv_lconst (v := 0) hx hb dX7_work_156 (by decide) ?_
          exact end_l C hr hlocks () hW (show (0 : Int64) = wk64 a0.toInt a1 a2 from by first | exact wk_0 e18 (by omega) | exact wk_z e18 c19 (by omega)) dX7_work_157
        · have c19 : 0 < x18.toInt := tnle rfl kp0 c19
          refine lv_lconst (v := 1) hx hb dX7_work_152 (by decide) ?_
          refine lv_goto (tgt := 157) hx hb dX7_work_153 (by decide) ?_
          exact end_l C hr hlocks () hW (show (1 : Int64) = wk64 a0.toInt a1 a2 from by first | exact wk_1 e18 (by omega) | exact wk_z e18 c19 (by omega)) dX7_work_157
      · refine lv_tableIn (off := 145) (tgt := 146) hx hb dX7_work_1 (Int.not_lt.mpr c1) (Int.not_lt.mpr c1b) (by rw [c1k]; rfl) (by decide) ?_
        refine lv_lload_n hx hb dX7_work_146 rfl (lv_at hl 1 rfl) ?_
        refine lv_lload_n hx hb dX7_work_147 rfl (lv_at hl 2 rfl) ?_
        refine W.lcmp hx hb dX7_work_148 ?_
        refine lv_topi (fun x20 (e20 : x20 = lg_cmp a1 a2) => ?_)
        refine lv_if_le (tgt := 156) hx hb dX7_work_149 (by decide) (fun c21 => ?_) (fun c21 => ?_)
        · have c21 : x20.toInt ≤ 0 := tle rfl kp0 c21
          refine lv_lconst (v := 0) hx hb dX7_work_156 (by decide) ?_
          exact end_l C hr hlocks () hW (show (0 : Int64) = wk64 a0.toInt a1 a2 from by first | exact wk_0 e20 (by omega) | exact wk_z e20 c21 (by omega)) dX7_work_157
        · have c21 : 0 < x20.toInt := tnle rfl kp0 c21
          refine lv_lconst (v := 1) hx hb dX7_work_152 (by decide) ?_
          refine lv_goto (tgt := 157) hx hb dX7_work_153 (by decide) ?_
          exact end_l C hr hlocks () hW (show (1 : Int64) = wk64 a0.toInt a1 a2 from by first | exact wk_1 e20 (by omega) | exact wk_z e20 c21 (by omega)) dX7_work_157
      · refine lv_tableIn (off := 145) (tgt := 146) hx hb dX7_work_1 (Int.not_lt.mpr c1) (Int.not_lt.mpr c1b) (by rw [c1k]; rfl) (by decide) ?_
        refine lv_lload_n hx hb dX7_work_146 rfl (lv_at hl 1 rfl) ?_
        refine lv_lload_n hx hb dX7_work_147 rfl (lv_at hl 2 rfl) ?_
        refine W.lcmp hx hb dX7_work_148 ?_
        refine lv_topi (fun x22 (e22 : x22 = lg_cmp a1 a2) => ?_)
        refine lv_if_le (tgt := 156) hx hb dX7_work_149 (by decide) (fun c23 => ?_) (fun c23 => ?_)
        · have c23 : x22.toInt ≤ 0 := tle rfl kp0 c23
          refine lv_lconst (v := 0) hx hb dX7_work_156 (by decide) ?_
          exact end_l C hr hlocks () hW (show (0 : Int64) = wk64 a0.toInt a1 a2 from by first | exact wk_0 e22 (by omega) | exact wk_z e22 c23 (by omega)) dX7_work_157
        · have c23 : 0 < x22.toInt := tnle rfl kp0 c23
          refine lv_lconst (v := 1) hx hb dX7_work_152 (by decide) ?_
          refine lv_goto (tgt := 157) hx hb dX7_work_153 (by decide) ?_
          exact end_l C hr hlocks () hW (show (1 : Int64) = wk64 a0.toInt a1 a2 from by first | exact wk_1 e22 (by omega) | exact wk_z e22 c23 (by omega)) dX7_work_157
      · refine lv_tableIn (off := 145) (tgt := 146) hx hb dX7_work_1 (Int.not_lt.mpr c1) (Int.not_lt.mpr c1b) (by rw [c1k]; rfl) (by decide) ?_
        refine lv_lload_n hx hb dX7_work_146 rfl (lv_at hl 1 rfl) ?_
        refine lv_lload_n hx hb dX7_work_147 rfl (lv_at hl 2 rfl) ?_
        refine W.lcmp hx hb dX7_work_148 ?_
        refine lv_topi (fun x24 (e24 : x24 = lg_cmp a1 a2) => ?_)
        refine lv_if_le (tgt := 156) hx hb dX7_work_149 (by decide) (fun c25 => ?_) (fun c25 => ?_)
        · have c25 : x24.toInt ≤ 0 := tle rfl kp0 c25
          refine lv_lconst (v := 0) hx hb dX7_work_156 (by decide) ?_
          exact end_l C hr hlocks () hW (show (0 : Int64) = wk64 a0.toInt a1 a2 from by first | exact wk_0 e24 (by omega) | exact wk_z e24 c25 (by omega)) dX7_work_157
        · have c25 : 0 < x24.toInt := tnle rfl kp0 c25
          refine lv_lconst (v := 1) hx hb dX7_work_152 (by decide) ?_
          refine lv_goto (tgt := 157) hx hb dX7_work_153 (by decide) ?_
          exact end_l C hr hlocks () hW (show (1 : Int64) = wk64 a0.toInt a1 a2 from by first | exact wk_1 e24 (by omega) | exact wk_z e24 c25 (by omega)) dX7_work_157
      · refine lv_tableIn (off := 145) (tgt := 146) hx hb dX7_work_1 (Int.not_lt.mpr c1) (Int.not_lt.mpr c1b) (by rw [c1k]; rfl) (by decide) ?_
        refine lv_lload_n hx hb dX7_work_146 rfl (lv_at hl 1 rfl) ?_
        refine lv_lload_n hx hb dX7_work_147 rfl (lv_at hl 2 rfl) ?_
        refine W.lcmp hx hb dX7_work_148 ?_
        refine lv_topi (fun x26 (e26 : x26 = lg_cmp a1 a2) => ?_)
        refine lv_if_le (tgt := 156) hx hb dX7_work_149 (by decide) (fun c27 => ?_) (fun c27 => ?_)
        · have c27 : x26.toInt ≤ 0 := tle rfl kp0 c27
          refine lv_lconst (v := 0) hx hb dX7_work_156 (by decide) ?_
          exact end_l C hr hlocks () hW (show (0 : Int64) = wk64 a0.toInt a1 a2 from by first | exact wk_0 e26 (by omega) | exact wk_z e26 c27 (by omega)) dX7_work_157
        · have c27 : 0 < x26.toInt := tnle rfl kp0 c27
          refine lv_lconst (v := 1) hx hb dX7_work_152 (by decide) ?_
          refine lv_goto (tgt := 157) hx hb dX7_work_153 (by decide) ?_
          exact end_l C hr hlocks () hW (show (1 : Int64) = wk64 a0.toInt a1 a2 from by first | exact wk_1 e26 (by omega) | exact wk_z e26 c27 (by omega)) dX7_work_157
      · refine lv_tableIn (off := 145) (tgt := 146) hx hb dX7_work_1 (Int.not_lt.mpr c1) (Int.not_lt.mpr c1b) (by rw [c1k]; rfl) (by decide) ?_
        refine lv_lload_n hx hb dX7_work_146 rfl (lv_at hl 1 rfl) ?_
        refine lv_lload_n hx hb dX7_work_147 rfl (lv_at hl 2 rfl) ?_
        refine W.lcmp hx hb dX7_work_148 ?_
        refine lv_topi (fun x28 (e28 : x28 = lg_cmp a1 a2) => ?_)
        refine lv_if_le (tgt := 156) hx hb dX7_work_149 (by decide) (fun c29 => ?_) (fun c29 => ?_)
        · have c29 : x28.toInt ≤ 0 := tle rfl kp0 c29
          refine lv_lconst (v := 0) hx hb dX7_work_156 (by decide) ?_
          exact end_l C hr hlocks () hW (show (0 : Int64) = wk64 a0.toInt a1 a2 from by first | exact wk_0 e28 (by omega) | exact wk_z e28 c29 (by omega)) dX7_work_157
        · have c29 : 0 < x28.toInt := tnle rfl kp0 c29
          refine lv_lconst (v := 1) hx hb dX7_work_152 (by decide) ?_
          refine lv_goto (tgt := 157) hx hb dX7_work_153 (by decide) ?_
          exact end_l C hr hlocks () hW (show (1 : Int64) = wk64 a0.toInt a1 a2 from by first | exact wk_1 e28 (by omega) | exact wk_z e28 c29 (by omega)) dX7_work_157
      · refine lv_tableIn (off := 145) (tgt := 146) hx hb dX7_work_1 (Int.not_lt.mpr c1) (Int.not_lt.mpr c1b) (by rw [c1k]; rfl) (by decide) ?_
        refine lv_lload_n hx hb dX7_work_146 rfl (lv_at hl 1 rfl) ?_
        refine lv_lload_n hx hb dX7_work_147 rfl (lv_at hl 2 rfl) ?_
        refine W.lcmp hx hb dX7_work_148 ?_
        refine lv_topi (fun x30 (e30 : x30 = lg_cmp a1 a2) => ?_)
        refine lv_if_le (tgt := 156) hx hb dX7_work_149 (by decide) (fun c31 => ?_) (fun c31 => ?_)
        · have c31 : x30.toInt ≤ 0 := tle rfl kp0 c31
          refine lv_lconst (v := 0) hx hb dX7_work_156 (by decide) ?_
          exact end_l C hr hlocks () hW (show (0 : Int64) = wk64 a0.toInt a1 a2 from by first | exact wk_0 e30 (by omega) | exact wk_z e30 c31 (by omega)) dX7_work_157
        · have c31 : 0 < x30.toInt := tnle rfl kp0 c31
          refine lv_lconst (v := 1) hx hb dX7_work_152 (by decide) ?_
          refine lv_goto (tgt := 157) hx hb dX7_work_153 (by decide) ?_
          exact end_l C hr hlocks () hW (show (1 : Int64) = wk64 a0.toInt a1 a2 from by first | exact wk_1 e30 (by omega) | exact wk_z e30 c31 (by omega)) dX7_work_157
      · refine lv_tableIn (off := 145) (tgt := 146) hx hb dX7_work_1 (Int.not_lt.mpr c1) (Int.not_lt.mpr c1b) (by rw [c1k]; rfl) (by decide) ?_
        refine lv_lload_n hx hb dX7_work_146 rfl (lv_at hl 1 rfl) ?_
        refine lv_lload_n hx hb dX7_work_147 rfl (lv_at hl 2 rfl) ?_
        refine W.lcmp hx hb dX7_work_148 ?_
        refine lv_topi (fun x32 (e32 : x32 = lg_cmp a1 a2) => ?_)
        refine lv_if_le (tgt := 156) hx hb dX7_work_149 (by decide) (fun c33 => ?_) (fun c33 => ?_)
        · have c33 : x32.toInt ≤ 0 := tle rfl kp0 c33
          refine lv_lconst (v := 0) hx hb dX7_work_156 (by decide) ?_
          exact end_l C hr hlocks () hW (show (0 : Int64) = wk64 a0.toInt a1 a2 from by first | exact wk_0 e32 (by omega) | exact wk_z e32 c33 (by omega)) dX7_work_157
        · have c33 : 0 < x32.toInt := tnle rfl kp0 c33
          refine lv_lconst (v := 1) hx hb dX7_work_152 (by decide) ?_
          refine lv_goto (tgt := 157) hx hb dX7_work_153 (by decide) ?_
          exact end_l C hr hlocks () hW (show (1 : Int64) = wk64 a0.toInt a1 a2 from by first | exact wk_1 e32 (by omega) | exact wk_z e32 c33 (by omega)) dX7_work_157
      · refine lv_tableIn (off := 145) (tgt := 146) hx hb dX7_work_1 (Int.not_lt.mpr c1) (Int.not_lt.mpr c1b) (by rw [c1k]; rfl) (by decide) ?_
        refine lv_lload_n hx hb dX7_work_146 rfl (lv_at hl 1 rfl) ?_
        refine lv_lload_n hx hb dX7_work_147 rfl (lv_at hl 2 rfl) ?_
        refine W.lcmp hx hb dX7_work_148 ?_
        refine lv_topi (fun x34 (e34 : x34 = lg_cmp a1 a2) => ?_)
        refine lv_if_le (tgt := 156) hx hb dX7_work_149 (by decide) (fun c35 => ?_) (fun c35 => ?_)
        · have c35 : x34.toInt ≤ 0 := tle rfl kp0 c35
          refine lv_lconst (v := 0) hx hb dX7_work_156 (by decide) ?_
          exact end_l C hr hlocks () hW (show (0 : Int64) = wk64 a0.toInt a1 a2 from by first | exact wk_0 e34 (by omega) | exact wk_z e34 c35 (by omega)) dX7_work_157
        · have c35 : 0 < x34.toInt := tnle rfl kp0 c35
          refine lv_lconst (v := 1) hx hb dX7_work_152 (by decide) ?_
          refine lv_goto (tgt := 157) hx hb dX7_work_153 (by decide) ?_
          exact end_l C hr hlocks () hW (show (1 : Int64) = wk64 a0.toInt a1 a2 from by first | exact wk_1 e34 (by omega) | exact wk_z e34 c35 (by omega)) dX7_work_157
      · refine lv_tableIn (off := 145) (tgt := 146) hx hb dX7_work_1 (Int.not_lt.mpr c1) (Int.not_lt.mpr c1b) (by rw [c1k]; rfl) (by decide) ?_
        refine lv_lload_n hx hb dX7_work_146 rfl (lv_at hl 1 rfl) ?_
        refine lv_lload_n hx hb dX7_work_147 rfl (lv_at hl 2 rfl) ?_
        refine W.lcmp hx hb dX7_work_148 ?_
        refine lv_topi (fun x36 (e36 : x36 = lg_cmp a1 a2) => ?_)
        refine lv_if_le (tgt := 156) hx hb dX7_work_149 (by decide) (fun c37 => ?_) (fun c37 => ?_)
        · have c37 : x36.toInt ≤ 0 := tle rfl kp0 c37
          refine lv_lconst (v := 0) hx hb dX7_work_156 (by decide) ?_
          exact end_l C hr hlocks () hW (show (0 : Int64) = wk64 a0.toInt a1 a2 from by first | exact wk_0 e36 (by omega) | exact wk_z e36 c37 (by omega)) dX7_work_157
        · have c37 : 0 < x36.toInt := tnle rfl kp0 c37
          refine lv_lconst (v := 1) hx hb dX7_work_152 (by decide) ?_
          refine lv_goto (tgt := 157) hx hb dX7_work_153 (by decide) ?_
          exact end_l C hr hlocks () hW (show (1 : Int64) = wk64 a0.toInt a1 a2 from by first | exact wk_1 e36 (by omega) | exact wk_z e36 c37 (by omega)) dX7_work_157
      · refine lv_tableIn (off := 145) (tgt := 146) hx hb dX7_work_1 (Int.not_lt.mpr c1) (Int.not_lt.mpr c1b) (by rw [c1k]; rfl) (by decide) ?_
        refine lv_lload_n hx hb dX7_work_146 rfl (lv_at hl 1 rfl) ?_
        refine lv_lload_n hx hb dX7_work_147 rfl (lv_at hl 2 rfl) ?_
        refine W.lcmp hx hb dX7_work_148 ?_
        refine lv_topi (fun x38 (e38 : x38 = lg_cmp a1 a2) => ?_)
        refine lv_if_le (tgt := 156) hx hb dX7_work_149 (by decide) (fun c39 => ?_) (fun c39 => ?_)
        · have c39 : x38.toInt ≤ 0 := tle rfl kp0 c39
          refine lv_lconst (v := 0) hx hb dX7_work_156 (by decide) ?_
          exact end_l C hr hlocks () hW (show (0 : Int64) = wk64 a0.toInt a1 a2 from by first | exact wk_0 e38 (by omega) | exact wk_z e38 c39 (by omega)) dX7_work_157
        · have c39 : 0 < x38.toInt := tnle rfl kp0 c39
          refine lv_lconst (v := 1) hx hb dX7_work_152 (by decide) ?_
          refine lv_goto (tgt := 157) hx hb dX7_work_153 (by decide) ?_
          exact end_l C hr hlocks () hW (show (1 : Int64) = wk64 a0.toInt a1 a2 from by first | exact wk_1 e38 (by omega) | exact wk_z e38 c39 (by omega)) dX7_work_157
      · refine lv_tableIn (off := 121) (tgt := 122) hx hb dX7_work_1 (Int.not_lt.mpr c1) (Int.not_lt.mpr c1b) (by rw [c1k]; rfl) (by decide) ?_
        refine lv_lload_n hx hb dX7_work_122 rfl (lv_at hl 1 rfl) ?_
        refine lv_lload_n hx hb dX7_work_123 rfl (lv_at hl 2 rfl) ?_
        refine W.lcmp hx hb dX7_work_124 ?_
        refine lv_topi (fun x40 (e40 : x40 = lg_cmp a1 a2) => ?_)
        refine lv_if_ge (tgt := 132) hx hb dX7_work_125 (by decide) (fun c41 => ?_) (fun c41 => ?_)
        · have c41 : 0 ≤ x40.toInt := tle kp0 rfl c41
          refine lv_lconst (v := 0) hx hb dX7_work_132 (by decide) ?_
          exact end_l C hr hlocks () hW (show (0 : Int64) = wk64 a0.toInt a1 a2 from by first | exact wk_0 e40 (by omega) | exact wk_z e40 c41 (by omega)) dX7_work_133
        · have c41 : x40.toInt < 0 := tnle kp0 rfl c41
          refine lv_lconst (v := 1) hx hb dX7_work_128 (by decide) ?_
          refine lv_goto (tgt := 133) hx hb dX7_work_129 (by decide) ?_
          exact end_l C hr hlocks () hW (show (1 : Int64) = wk64 a0.toInt a1 a2 from by first | exact wk_1 e40 (by omega) | exact wk_z e40 c41 (by omega)) dX7_work_133
      · refine lv_tableIn (off := 133) (tgt := 134) hx hb dX7_work_1 (Int.not_lt.mpr c1) (Int.not_lt.mpr c1b) (by rw [c1k]; rfl) (by decide) ?_
        refine lv_lload_n hx hb dX7_work_134 rfl (lv_at hl 1 rfl) ?_
        refine lv_lload_n hx hb dX7_work_135 rfl (lv_at hl 2 rfl) ?_
        refine W.lcmp hx hb dX7_work_136 ?_
        refine lv_topi (fun x42 (e42 : x42 = lg_cmp a1 a2) => ?_)
        refine lv_if_ne (tgt := 144) hx hb dX7_work_137 (by decide) (fun c43 => ?_) (fun c43 => ?_)
        · have c43 : ¬ x42.toInt = 0 := tne rfl kp0 c43
          refine lv_lconst (v := 0) hx hb dX7_work_144 (by decide) ?_
          exact end_l C hr hlocks () hW (show (0 : Int64) = wk64 a0.toInt a1 a2 from by first | exact wk_0 e42 (by omega) | exact wk_z e42 c43 (by omega)) dX7_work_145
        · have c43 : x42.toInt = 0 := teq rfl kp0 c43
          refine lv_lconst (v := 1) hx hb dX7_work_140 (by decide) ?_
          refine lv_goto (tgt := 145) hx hb dX7_work_141 (by decide) ?_
          exact end_l C hr hlocks () hW (show (1 : Int64) = wk64 a0.toInt a1 a2 from by first | exact wk_1 e42 (by omega) | exact wk_z e42 c43 (by omega)) dX7_work_145

set_option maxHeartbeats 4000000 in
set_option maxRecDepth 100000 in
theorem c_X7_join_e (l : Launch) (g : gG) (J : Nat → Nat → Int32) (L : Nat → Nat → Int64) (I : Nat → Nat → Nat → Int32) (P : Nat → Nat → Nat → Option Nat) (E : Nat → Option Nat) (N : Nat → Nat) (dy : List (Nat × Nat)) (sz : Nat) (a0 : Int32) (htop : 0 ≤ (J 8 1).toInt ∧ (J 8 1).toInt ≤ 60) : Met l yX7_join (WS yX7_join cX7_join 4 none) (RM (2) 0 0) (PC g [.ref (g.2.2.1 8), .int a0] ((J, L, I, P, E, N), sgX g ++ dy) sz) (va_Qv (fun (u : (Nat → Nat → Int32)) => ((J 8 1).toInt < 2 → (u 8 1).toInt = (J 8 1).toInt ∧ u 45 = J 45) ∧ (2 ≤ (J 8 1).toInt → (u 8 1).toInt = (J 8 1).toInt - 1 ∧ u 45 = up2 J 45 ((J 8 1).toInt.toNat - 2) (opj a0.toInt (J 45 ((J 8 1).toInt.toNat - 2)) (J 45 ((J 8 1).toInt.toNat - 1))) 45)) (fun u t => at_ g (FR g ((J, L, I, P, E, N), sgX g ++ dy) sz) (((hv J [45] [(8, 1)] u), L, I, P, E, N), sgX g ++ dy) t) (FR g ((J, L, I, P, E, N), sgX g ++ dy) sz)) 0 0 (FR g ((J, L, I, P, E, N), sgX g ++ dy) sz) := by
  refine ent (by decide +kernel) (Nat.le_of_ble_eq_true rfl) ?_
  intro p e s m below meth c ls hsz C hW hr hlocks hname hl
  generalize FR g ((J, L, I, P, E, N), sgX g ++ dy) sz = A at C hW ⊢
  have hx := C.1.1
  have hb := C.1.2.1
  have hts := C.1.2.2.2.2
  have hl : lv_has ls 4 [(0, .ref (g.2.2.1 8)), (1, .int a0)] := hl
  obtain ⟨H, hH⟩ : ∃ H : Heap, H = s.heap := ⟨_, rfl⟩
  obtain ⟨locs, hlocs⟩ : ∃ q : List Loc, q = [] := ⟨_, rfl⟩
  have hW : WB g A s.heap H locs (J, L, I, P, E, N) (sgX g ++ dy) := by rw [hH, hlocs]; exact hW
  refine start_ hH hlocs ?_
  refine lv_aload_n hx hb dX7_join_0 rfl (lv_at hl 0 rfl) ?_
  refine rg_8_1 C hW (mx_ rfl) tw_326 dX7_join_1 ?_
  refine lv_iconst (v := 2) hx hb dX7_join_4 (by decide) ?_
  refine lv_icmp_lt (tgt := 20) hx hb dX7_join_5 (by decide) (fun c1 => ?_) (fun c1 => ?_)
  · have c1 : (J 8 1).toInt < 2 := tlt rfl kp2 c1
    have hWr : WB g A s.heap H locs ((hv J [45] [(8, 1)] J), L, I, P, E, N) (sgX g ++ dy) := by
      rw [← ag_hvE (J := J) (R := [45]) (F := [(8, 1)]) ag_rf]
      exact hW
    exact end_v C hr hlocks J hWr ⟨show (J 8 1).toInt < 2 → (J 8 1).toInt = (J 8 1).toInt ∧ J 45 = J 45 from by first | exact fun _ => ⟨rfl, rfl⟩ | (intro h9; exfalso; omega), show 2 ≤ (J 8 1).toInt → (J 8 1).toInt = (J 8 1).toInt - 1 ∧ J 45 = up2 J 45 ((J 8 1).toInt.toNat - 2) (opj a0.toInt (J 45 ((J 8 1).toInt.toNat - 2)) (J 45 ((J 8 1).toInt.toNat - 1))) 45 from by first | (intro h9; exfalso; omega) | (intro h9; exact ⟨by omega, up_eq (by show x9.toInt.toNat = _; omega) (jn_v e12 ez10 ez11 hw (e4.trans (congrArg (J 45) (show x3.toInt.toNat = _ by omega))) (e6.trans (congrArg (J 45) (show x5.toInt.toNat = _ by omega))))⟩)⟩ dX7_join_20
  · have c1 : 2 ≤ (J 8 1).toInt := tnlt rfl kp2 c1
    refine lv_aload_n hx hb dX7_join_8 rfl (lv_at hl 0 rfl) ?_
    refine rg_8_1 C hW (mx_ rfl) tw_326 dX7_join_9 ?_
    refine lv_aload_n hx hb dX7_join_12 rfl (lv_at hl 0 rfl) ?_
    refine rg_8_0 C hW (mx_ rfl) tw_325 dX7_join_13 ?_
    refine rl_45 C hW (mx_ rfl) dX7_join_16 ?_
    refine lv_icmp_le (tgt := 21) hx hb dX7_join_17 (by decide) (fun c2 => ?_) (fun c2 => ?_)
    · have c2 : (J 8 1).toInt ≤ 60 := tle rfl kp60 c2
      refine lv_iload_n hx hb dX7_join_21 rfl (lv_at hl 1 rfl) ?_
      refine lv_aload_n hx hb dX7_join_22 rfl (lv_at hl 0 rfl) ?_
      refine rg_8_0 C hW (mx_ rfl) tw_325 dX7_join_23 ?_
      refine lv_aload_n hx hb dX7_join_26 rfl (lv_at hl 0 rfl) ?_
      refine rg_8_1 C hW (mx_ rfl) tw_326 dX7_join_27 ?_
      refine lv_iconst (v := 2) hx hb dX7_join_30 (by decide) ?_
      refine lv_isub hx hb dX7_join_31 ?_
      refine lv_topi (fun x3 (e3 : x3 = (J 8 1) - 2) => ?_)
      try have t3 : x3.toInt = (J 8 1).toInt - 2 := tsub e3 rfl kp2 (by omega)
      have hin : vp_in x3 60 := tin rfl (by omega)
      refine ra_45 C hW (mx_ rfl) hin dX7_join_32 ?_
      refine lv_topi (fun x4 (e4 : x4 = J 45 x3.toNatClampNeg) => ?_)
      refine lv_i2l (v := x4.toInt64) hx hb dX7_join_33 rfl ?_
      refine lv_aload_n hx hb dX7_join_34 rfl (lv_at hl 0 rfl) ?_
      refine rg_8_0 C hW (mx_ rfl) tw_325 dX7_join_35 ?_
      refine lv_aload_n hx hb dX7_join_38 rfl (lv_at hl 0 rfl) ?_
      refine rg_8_1 C hW (mx_ rfl) tw_326 dX7_join_39 ?_
      refine lv_iconst (v := 1) hx hb dX7_join_42 (by decide) ?_
      refine lv_isub hx hb dX7_join_43 ?_
      refine lv_topi (fun x5 (e5 : x5 = (J 8 1) - 1) => ?_)
      try have t5 : x5.toInt = (J 8 1).toInt - 1 := tsub e5 rfl kp1 (by omega)
      have hin : vp_in x5 60 := tin rfl (by omega)
      refine ra_45 C hW (mx_ rfl) hin dX7_join_44 ?_
      refine lv_topi (fun x6 (e6 : x6 = J 45 x5.toNatClampNeg) => ?_)
      refine lv_i2l (v := x6.toInt64) hx hb dX7_join_45 rfl ?_
      refine cl_ C hW (runS (As := [.int a0, .long x4.toInt64, .long x6.toInt64]) (rest := []) (T := ((J, L, I, P, E, N), sgX g ++ dy)) C hW (c_X7_work_e l g J L I P E N dy H.size a0 x4.toInt64 x6.toInt64 ) mi_X7_work tw_685 ⟨rfl, rfl, Nat.le_of_ble_eq_true rfl, Nat.le_of_ble_eq_true rfl⟩ rfl hl.1 rfl (Nat.le_of_ble_eq_true rfl) dX7_join_46 ⟨Nat.le_of_ble_eq_true rfl, Nat.le_of_ble_eq_true rfl⟩) (fun z7 u7 H locs hp7 hW => ?_)
      have hf7_0 : (z7 = wk64 a0.toInt x4.toInt64 x6.toInt64) := hp7
      clear hp7
      have hW : WB g A s.heap H locs (J, L, I, P, E, N) (sgX g ++ dy) := hW
      have hw := hf7_0
      refine lv_lstore_n (lv' := [(2, .long z7), (0, .ref (g.2.2.1 8)), (1, .int a0)]) hx hb dX7_join_49 rfl hl (by decide) rfl (fun ls hl => ?_)
      refine lv_aload_n hx hb dX7_join_50 rfl (lv_at hl 1 rfl) ?_
      refine lv_dup hx hb dX7_join_51 rfl ?_
      refine rg_8_1 C hW (mx_ rfl) tw_326 dX7_join_52 ?_
      refine lv_iconst (v := 1) hx hb dX7_join_55 (by decide) ?_
      refine lv_isub hx hb dX7_join_56 ?_
      refine lv_topi (fun x8 (e8 : x8 = (J 8 1) - 1) => ?_)
      try have t8 : x8.toInt = (J 8 1).toInt - 1 := tsub e8 rfl kp1 (by omega)
      refine rp_8_1 C hW (mx_ rfl) tw_326 dX7_join_57 (fun H locs hW => ?_)
      refine lv_aload_n hx hb dX7_join_60 rfl (lv_at hl 1 rfl) ?_
      refine rg_8_0 C hW (mx_ rfl) tw_325 dX7_join_61 ?_
      refine lv_aload_n hx hb dX7_join_64 rfl (lv_at hl 1 rfl) ?_
      refine rg_8_1 C hW (mx_ rfl) tw_326 dX7_join_65 ?_
      refine lv_as x8 rfl ?_
      refine lv_iconst (v := 1) hx hb dX7_join_68 (by decide) ?_
      refine lv_isub hx hb dX7_join_69 ?_
      refine lv_topi (fun x9 (e9 : x9 = x8 - 1) => ?_)
      try have t9 : x9.toInt = x8.toInt - 1 := tsub e9 rfl kp1 (by omega)
      refine lv_ldc2 hx hb C.1.2.2.2.1 (hts _ tw_688) dX7_join_70 ?_
      refine lv_ldc2 hx hb C.1.2.2.2.1 (hts _ tw_689) dX7_join_73 ?_
      refine lv_lload_n hx hb dX7_join_76 rfl (lv_at hl 0 rfl) ?_
      refine va_mmin_long hx hb (C.1.2.2.1.trans hl.1.symm) C.1.2.2.2.1 (hts _ tw_690) (hts _ tw_691) (hts _ tw_74) (hts _ tw_692) (Nat.le_of_ble_eq_true rfl) (Nat.le_of_ble_eq_true rfl) (Nat.le_of_ble_eq_true rfl) (Nat.le_of_ble_eq_true rfl) dX7_join_77 ?_
      refine lv_topl (fun z10 ez10 => ?_)
      refine va_mmax_long hx hb (C.1.2.2.1.trans hl.1.symm) C.1.2.2.2.1 (hts _ tw_693) (hts _ tw_694) (hts _ tw_74) (hts _ tw_695) (Nat.le_of_ble_eq_true rfl) (Nat.le_of_ble_eq_true rfl) (Nat.le_of_ble_eq_true rfl) (Nat.le_of_ble_eq_true rfl) dX7_join_80 ?_
      refine lv_topl (fun z11 ez11 => ?_)
      refine lv_l2i (v := z11.toInt32) hx hb dX7_join_83 rfl ?_
      refine lv_topi (fun x12 (e12 : x12 = z11.toInt32) => ?_)
      have hin : vp_in x9 60 := tin rfl (by omega)
      refine rs_45 C hW (mx_ rfl) hin dX7_join_84 (fun H locs hW => ?_)
      have hWr : WB g A s.heap H locs ((hv J [45] [(8, 1)] (up2 (up2 J 8 1 x8) 45 x9.toNatClampNeg x12)), L, I, P, E, N) (sgX g ++ dy) := by
        rw [← ag_hvE (J := J) (R := [45]) (F := [(8, 1)]) (ag_up (Or.inl rfl) (ag_up (Or.inr rfl) ag_rf))]
        exact hW
      exact end_v C hr hlocks (up2 (up2 J 8 1 x8) 45 x9.toNatClampNeg x12) hWr ⟨show (J 8 1).toInt < 2 → (x8).toInt = (J 8 1).toInt ∧ (up2 J 45 x9.toNatClampNeg x12) 45 = J 45 from by first | exact fun _ => ⟨rfl, rfl⟩ | (intro h9; exfalso; omega), show 2 ≤ (J 8 1).toInt → (x8).toInt = (J 8 1).toInt - 1 ∧ (up2 J 45 x9.toNatClampNeg x12) 45 = up2 J 45 ((J 8 1).toInt.toNat - 2) (opj a0.toInt (J 45 ((J 8 1).toInt.toNat - 2)) (J 45 ((J 8 1).toInt.toNat - 1))) 45 from by first | (intro h9; exfalso; omega) | (intro h9; exact ⟨by omega, up_eq (by show x9.toInt.toNat = _; omega) (jn_v e12 ez10 ez11 hw (e4.trans (congrArg (J 45) (show x3.toInt.toNat = _ by omega))) (e6.trans (congrArg (J 45) (show x5.toInt.toNat = _ by omega))))⟩)⟩ dX7_join_85
    · have c2 : 60 < (J 8 1).toInt := tnle rfl kp60 c2
      have hWr : WB g A s.heap H locs ((hv J [45] [(8, 1)] J), L, I, P, E, N) (sgX g ++ dy) := by
        rw [← ag_hvE (J := J) (R := [45]) (F := [(8, 1)]) ag_rf]
        exact hW
      exact end_v C hr hlocks J hWr ⟨show (J 8 1).toInt < 2 → (J 8 1).toInt = (J 8 1).toInt ∧ J 45 = J 45 from by first | exact fun _ => ⟨rfl, rfl⟩ | (intro h9; exfalso; omega), show 2 ≤ (J 8 1).toInt → (J 8 1).toInt = (J 8 1).toInt - 1 ∧ J 45 = up2 J 45 ((J 8 1).toInt.toNat - 2) (opj a0.toInt (J 45 ((J 8 1).toInt.toNat - 2)) (J 45 ((J 8 1).toInt.toNat - 1))) 45 from by first | (intro h9; exfalso; omega) | (intro h9; exact ⟨by omega, up_eq (by show x9.toInt.toNat = _; omega) (jn_v e12 ez10 ez11 hw (e4.trans (congrArg (J 45) (show x3.toInt.toNat = _ by omega))) (e6.trans (congrArg (J 45) (show x5.toInt.toNat = _ by omega))))⟩)⟩ dX7_join_20

set_option maxHeartbeats 4000000 in
set_option maxRecDepth 100000 in
theorem c_X7_weigh_e (l : Launch) (g : gG) (J : Nat → Nat → Int32) (L : Nat → Nat → Int64) (I : Nat → Nat → Nat → Int32) (P : Nat → Nat → Nat → Option Nat) (E : Nat → Option Nat) (N : Nat → Nat) (dy : List (Nat × Nat)) (sz : Nat) (a0 : Nat) (hm0 : (46, a0) ∈ dy) (hN : N a0 ≤ 60) (hco : ∀ i : Nat, i < N a0 → -200 ≤ (I 46 i a0).toInt) : Met l yX7_weigh (WS yX7_weigh cX7_weigh 6 (some .int)) (RM (3) 0 0) (PC g [.ref (g.2.2.1 8), .ref a0] ((J, L, I, P, E, N), sgX g ++ dy) sz) (va_Qi (fun (r : Int32) (u : (Nat → Nat → Int32)) => (r = WGH (SCL (J 8 2) (J 8 3) (J 8 4) (J 8 5) (J 8 6) (J 8 7) (J 8 8) (J 8 9)) (cs (fun i => I 46 i a0) 0 (N a0)))) (fun u t => at_ g (FR g ((J, L, I, P, E, N), sgX g ++ dy) sz) (((hv J [45] [(8, 1)] u), L, I, P, E, N), sgX g ++ dy) t) (FR g ((J, L, I, P, E, N), sgX g ++ dy) sz)) 0 0 (FR g ((J, L, I, P, E, N), sgX g ++ dy) sz) := by
  refine ent (by decide +kernel) (Nat.le_of_ble_eq_true rfl) ?_
  intro p e s m below meth c ls hsz C hW hr hlocks hname hl
  generalize FR g ((J, L, I, P, E, N), sgX g ++ dy) sz = A at C hW ⊢
  have hx := C.1.1
  have hb := C.1.2.1
  have hts := C.1.2.2.2.2
  have hl : lv_has ls 6 [(0, .ref (g.2.2.1 8)), (1, .ref a0)] := hl
  obtain ⟨H, hH⟩ : ∃ H : Heap, H = s.heap := ⟨_, rfl⟩
  obtain ⟨locs, hlocs⟩ : ∃ q : List Loc, q = [] := ⟨_, rfl⟩
  have hW : WB g A s.heap H locs (J, L, I, P, E, N) (sgX g ++ dy) := by rw [hH, hlocs]; exact hW
  refine start_ hH hlocs ?_
  refine lv_aload_n hx hb dX7_weigh_0 rfl (lv_at hl 0 rfl) ?_
  refine lv_iconst (v := 0) hx hb dX7_weigh_1 (by decide) ?_
  refine rp_8_1 C hW (mx_ rfl) tw_326 dX7_weigh_2 (fun H locs hW => ?_)
  refine lv_aload_n hx hb dX7_weigh_5 rfl (lv_at hl 1 rfl) ?_
  refine lv_astore_n (lv' := [(2, .ref a0), (0, .ref (g.2.2.1 8)), (1, .ref a0)]) hx hb dX7_weigh_6 rfl hl (by decide) rfl (fun ls hl => ?_)
  refine lv_aload_n hx hb dX7_weigh_7 rfl (lv_at hl 0 rfl) ?_
  obtain ⟨x1, e1⟩ : ∃ y : Int32, y = Int32.ofNat (N a0) := ⟨_, rfl⟩
  have t1 : x1.toInt = (N a0 : Int) := by rw [e1]; exact Int32.toInt_ofNat_of_lt (by omega)
  refine g_alen (t0 := 0) C hW (List.mem_append_right _ hm0) rfl rfl e1.symm dX7_weigh_8 ?_
  refine lv_istore_n (lv' := [(3, .int x1), (2, .ref a0), (0, .ref (g.2.2.1 8)), (1, .ref a0)]) hx hb dX7_weigh_9 rfl hl (by decide) rfl (fun ls hl => ?_)
  refine lv_iconst (v := 0) hx hb dX7_weigh_10 (by decide) ?_
  refine lv_istore (lv' := [(4, .int 0), (3, .int x1), (2, .ref a0), (0, .ref (g.2.2.1 8)), (1, .ref a0)]) hx hb dX7_weigh_11 hl (by decide) rfl (fun ls hl => ?_)
  have loop13 : ∀ (n : Nat) (m4 : Int32) (Gl2 : Nat → Nat → Int32) (H : Heap) (locs : List Loc) (ls : Array Slot), ((N a0 : Int) - m4.toInt).toNat < n → 0 ≤ m4.toInt ∧ m4.toInt ≤ (N a0 : Int) → (∃ st : List Int32, (Gl2 8 1).toInt = (st.length : Nat) ∧ SK (Gl2 45) st ∧ (st.length : Int) ≤ m4.toInt ∧ (cs (fun i => I 46 i a0) m4.toInt.toNat (N a0)).foldl (ws (SCL (J 8 2) (J 8 3) (J 8 4) (J 8 5) (J 8 6) (J 8 7) (J 8 8) (J 8 9))) st = (cs (fun i => I 46 i a0) 0 (N a0)).foldl (ws (SCL (J 8 2) (J 8 3) (J 8 4) (J 8 5) (J 8 6) (J 8 7) (J 8 8) (J 8 9))) []) → WB g A s.heap H locs ((hv (up2 J 8 1 0) [45] [(8, 1)] Gl2), L, I, P, E, N) (sgX g ++ dy) → lv_has ls 6 [(4, .int m4), (3, .int x1), (2, .ref a0), (0, .ref (g.2.2.1 8)), (1, .ref a0)] → W p l e (RM (3) 0 0) s m ([.ref (g.2.2.1 8), .ref a0] : List Value).toArray below meth c H locs 0 0 (MQ below (va_Qi (fun (r : Int32) (u : (Nat → Nat → Int32)) => (r = WGH (SCL (J 8 2) (J 8 3) (J 8 4) (J 8 5) (J 8 6) (J 8 7) (J 8 8) (J 8 9)) (cs (fun i => I 46 i a0) 0 (N a0)))) (fun u t => at_ g A (((hv J [45] [(8, 1)] u), L, I, P, E, N), sgX g ++ dy) t) A) ([.ref (g.2.2.1 8), .ref a0] : List Value).toArray s 0 0 A) (F0 m 13 ls []) := by
    intro n
    induction n with
    | zero => intro m4 Gl2 H locs ls hmeas; exact absurd hmeas (Nat.not_lt_zero _)
    | succ n ih =>
      intro m4 Gl2 H locs ls hmeas hi hst hW hl
      obtain ⟨st, hs1, hs2, hs3, hs4⟩ := hst
      refine lv_iload hx hb dX7_weigh_13 (lv_at hl 0 rfl) ?_
      refine lv_iload_n hx hb dX7_weigh_15 rfl (lv_at hl 1 rfl) ?_
      refine lv_icmp_ge (tgt := 75) hx hb dX7_weigh_16 (by decide) (fun c3 => ?_) (fun c3 => ?_)
      · have c3 : x1.toInt ≤ m4.toInt := tle rfl rfl c3
        refine lv_aload_n hx hb dX7_weigh_75 rfl (lv_at hl 3 rfl) ?_
        refine rg_8_1 C hW (mx_ rfl) tw_326 dX7_weigh_76 ?_
        refine lv_as (Gl2 8 1) rfl ?_
        refine lv_if_le (tgt := 108) hx hb dX7_weigh_79 (by decide) (fun c4 => ?_) (fun c4 => ?_)
        · have c4 : (Gl2 8 1).toInt ≤ 0 := tle rfl kp0 c4
          refine lv_iconst (v := 0) hx hb dX7_weigh_108 (by decide) ?_
          have hWr : WB g A s.heap H locs ((hv J [45] [(8, 1)] (hv (up2 J 8 1 0) [45] [(8, 1)] Gl2)), L, I, P, E, N) (sgX g ++ dy) := by
            rw [← ag_hvE (J := J) (R := [45]) (F := [(8, 1)]) (ag_hv rfl rfl (ag_up (Or.inr rfl) ag_rf))]
            exact hW
          exact end_i C hr hlocks (hv (up2 J 8 1 0) [45] [(8, 1)] Gl2) hWr (show 0 = WGH (SCL (J 8 2) (J 8 3) (J 8 4) (J 8 5) (J 8 6) (J 8 7) (J 8 8) (J 8 9)) (cs (fun i => I 46 i a0) 0 (N a0)) from by first | exact w_r0 hs4 (by omega) hs1 (by omega) | (exfalso; omega) | exact w_r1 hs4 (by omega) hs1 hs2 (show ((Int.toNat _ : Nat) : Int) + 1 = _ by omega) e7) dX7_weigh_109
        · have c4 : 0 < (Gl2 8 1).toInt := tnle rfl kp0 c4
          refine lv_aload_n hx hb dX7_weigh_82 rfl (lv_at hl 3 rfl) ?_
          refine rg_8_1 C hW (mx_ rfl) tw_326 dX7_weigh_83 ?_
          refine lv_as (Gl2 8 1) rfl ?_
          refine lv_aload_n hx hb dX7_weigh_86 rfl (lv_at hl 3 rfl) ?_
          refine rg_8_0 C hW (mx_ rfl) tw_325 dX7_weigh_87 ?_
          refine rl_45 C hW (mx_ rfl) dX7_weigh_90 ?_
          refine lv_icmp_gt (tgt := 108) hx hb dX7_weigh_91 (by decide) (fun c5 => ?_) (fun c5 => ?_)
          · have c5 : 60 < (Gl2 8 1).toInt := tlt kp60 rfl c5
            refine lv_iconst (v := 0) hx hb dX7_weigh_108 (by decide) ?_
            have hWr : WB g A s.heap H locs ((hv J [45] [(8, 1)] (hv (up2 J 8 1 0) [45] [(8, 1)] Gl2)), L, I, P, E, N) (sgX g ++ dy) := by
              rw [← ag_hvE (J := J) (R := [45]) (F := [(8, 1)]) (ag_hv rfl rfl (ag_up (Or.inr rfl) ag_rf))]
              exact hW
            exact end_i C hr hlocks (hv (up2 J 8 1 0) [45] [(8, 1)] Gl2) hWr (show 0 = WGH (SCL (J 8 2) (J 8 3) (J 8 4) (J 8 5) (J 8 6) (J 8 7) (J 8 8) (J 8 9)) (cs (fun i => I 46 i a0) 0 (N a0)) from by first | exact w_r0 hs4 (by omega) hs1 (by omega) | (exfalso; omega) | exact w_r1 hs4 (by omega) hs1 hs2 (show ((Int.toNat _ : Nat) : Int) + 1 = _ by omega) e7) dX7_weigh_109
          · have c5 : (Gl2 8 1).toInt ≤ 60 := tnlt kp60 rfl c5
            refine lv_aload_n hx hb dX7_weigh_94 rfl (lv_at hl 3 rfl) ?_
            refine rg_8_0 C hW (mx_ rfl) tw_325 dX7_weigh_95 ?_
            refine lv_aload_n hx hb dX7_weigh_98 rfl (lv_at hl 3 rfl) ?_
            refine rg_8_1 C hW (mx_ rfl) tw_326 dX7_weigh_99 ?_
            refine lv_as (Gl2 8 1) rfl ?_
            refine lv_iconst (v := 1) hx hb dX7_weigh_102 (by decide) ?_
            refine lv_isub hx hb dX7_weigh_103 ?_
            refine lv_topi (fun x6 (e6 : x6 = (Gl2 8 1) - 1) => ?_)
            try have t6 : x6.toInt = (Gl2 8 1).toInt - 1 := tsub e6 rfl kp1 (by omega)
            have hin : vp_in x6 60 := tin rfl (by omega)
            refine ra_45 C hW (mx_ rfl) hin dX7_weigh_104 ?_
            refine lv_topi (fun x7 (e7 : x7 = Gl2 45 x6.toNatClampNeg) => ?_)
            refine lv_goto (tgt := 109) hx hb dX7_weigh_105 (by decide) ?_
            have hWr : WB g A s.heap H locs ((hv J [45] [(8, 1)] (hv (up2 J 8 1 0) [45] [(8, 1)] Gl2)), L, I, P, E, N) (sgX g ++ dy) := by
              rw [← ag_hvE (J := J) (R := [45]) (F := [(8, 1)]) (ag_hv rfl rfl (ag_up (Or.inr rfl) ag_rf))]
              exact hW
            exact end_i C hr hlocks (hv (up2 J 8 1 0) [45] [(8, 1)] Gl2) hWr (show x7 = WGH (SCL (J 8 2) (J 8 3) (J 8 4) (J 8 5) (J 8 6) (J 8 7) (J 8 8) (J 8 9)) (cs (fun i => I 46 i a0) 0 (N a0)) from by first | exact w_r0 hs4 (by omega) hs1 (by omega) | (exfalso; omega) | exact w_r1 hs4 (by omega) hs1 hs2 (show ((Int.toNat _ : Nat) : Int) + 1 = _ by omega) e7) dX7_weigh_109
      · have c3 : m4.toInt < x1.toInt := tnle rfl rfl c3
        refine lv_aload_n hx hb dX7_weigh_19 rfl (lv_at hl 2 rfl) ?_
        refine lv_iload hx hb dX7_weigh_20 (lv_at hl 0 rfl) ?_
        have hin22 : vp_in m4 (N a0) := tin rfl (by omega)
        refine g_iald C hW (List.mem_append_right _ hm0) rfl hin22 dX7_weigh_22 ?_
        refine lv_topi (fun x8 (e8 : x8 = I 46 m4.toNatClampNeg a0) => ?_)
        have hx8 : -200 ≤ x8.toInt := by rw [e8]; exact hco m4.toInt.toNat (by omega)
        refine lv_istore (lv' := [(5, .int x8), (4, .int m4), (3, .int x1), (2, .ref a0), (0, .ref (g.2.2.1 8)), (1, .ref a0)]) hx hb dX7_weigh_23 hl (by decide) rfl (fun ls hl => ?_)
        refine lv_iload hx hb dX7_weigh_25 (lv_at hl 0 rfl) ?_
        refine lv_if_lt (tgt := 39) hx hb dX7_weigh_27 (by decide) (fun c9 => ?_) (fun c9 => ?_)
        · have c9 : x8.toInt < 0 := tlt rfl kp0 c9
          refine lv_iload hx hb dX7_weigh_39 (lv_at hl 0 rfl) ?_
          refine lv_ineg hx hb dX7_weigh_41 ?_
          refine lv_topi (fun x10 (e10 : x10 = -x8) => ?_)
          try have t10 : x10.toInt = -x8.toInt := tneg e10 rfl (by omega)
          refine ci_ C hW (runSN (As := [.int x10]) (rest := []) (T := (((hv (up2 J 8 1 0) [45] [(8, 1)] Gl2), L, I, P, E, N), sgX g ++ dy)) C hW (c_X10_isLetter_e l g (hv (up2 J 8 1 0) [45] [(8, 1)] Gl2) L I P E N dy H.size x10 ) mi_X10_isLetter (List.mem_of_getElem? (i := 3) rfl) ⟨rfl, rfl, Nat.le_of_ble_eq_true rfl, Nat.le_of_ble_eq_true rfl⟩ rfl hl.1 rfl (Nat.le_of_ble_eq_true rfl) dX7_weigh_42 ⟨Nat.le_of_ble_eq_true rfl, Nat.le_of_ble_eq_true rfl⟩) (fun r11 u11 H locs hp11 hW => ?_)
          have hc11 : ((r11.toInt = 1 ∧ ((x10.toInt = 107 ∨ x10.toInt = 104 ∨ x10.toInt = 118 ∨ x10.toInt = 115 ∨ x10.toInt = 109 ∨ x10.toInt = 119 ∨ x10.toInt = 97 ∨ x10.toInt = 110))) ∨ (r11.toInt = 0 ∧ (¬ (x10.toInt = 107 ∨ x10.toInt = 104 ∨ x10.toInt = 118 ∨ x10.toInt = 115 ∨ x10.toInt = 109 ∨ x10.toInt = 119 ∨ x10.toInt = 97 ∨ x10.toInt = 110)))) := hp11
          clear hp11
          have hW : WB g A s.heap H locs ((hv (up2 J 8 1 0) [45] [(8, 1)] Gl2), L, I, P, E, N) (sgX g ++ dy) := hW
          refine lv_if_eq (tgt := 62) hx hb dX7_weigh_45 (by decide) (fun c12 => ?_) (fun c12 => ?_)
          · have c12 : r11.toInt = 0 := teq rfl kp0 c12
            refine lv_aload_n hx hb dX7_weigh_62 rfl (lv_at hl 4 rfl) ?_
            refine lv_iload hx hb dX7_weigh_63 (lv_at hl 0 rfl) ?_
            refine lv_ineg hx hb dX7_weigh_65 ?_
            refine lv_topi (fun x13 (e13 : x13 = -x8) => ?_)
            try have t13 : x13.toInt = -x8.toInt := tneg e13 rfl (by omega)
            refine cv_ C hW (runV (x := (g.2.2.1 8)) (As := [.int x13]) (rest := []) (T := (((hv (up2 J 8 1 0) [45] [(8, 1)] Gl2), L, I, P, E, N), sgX g ++ dy)) C hW (c_X7_join_e l g (hv (up2 J 8 1 0) [45] [(8, 1)] Gl2) L I P E N dy H.size x13 (show 0 ≤ (Gl2 8 1).toInt ∧ (Gl2 8 1).toInt ≤ 60 from by omega)) mi_X7_join tw_681 (recv_ (T := (((hv (up2 J 8 1 0) [45] [(8, 1)] Gl2), L, I, P, E, N), sgX g ++ dy)) C hW (mx_ rfl) rfl rfl) ⟨rfl, rfl, Nat.le_of_ble_eq_true rfl, Nat.le_of_ble_eq_true rfl⟩ rfl hl.1 rfl (Nat.le_of_ble_eq_true rfl) dX7_weigh_66 ⟨Nat.le_of_ble_eq_true rfl, Nat.le_of_ble_eq_true rfl⟩) (fun u14 H locs hp14 hW => ?_)
            obtain ⟨hf14_0, hf14_1⟩ : ((Gl2 8 1).toInt < 2 → (u14 8 1).toInt = (Gl2 8 1).toInt ∧ u14 45 = Gl2 45) ∧ (2 ≤ (Gl2 8 1).toInt → (u14 8 1).toInt = (Gl2 8 1).toInt - 1 ∧ u14 45 = up2 Gl2 45 ((Gl2 8 1).toInt.toNat - 2) (opj x13.toInt (Gl2 45 ((Gl2 8 1).toInt.toNat - 2)) (Gl2 45 ((Gl2 8 1).toInt.toNat - 1))) 45) := hp14
            have hW : WB g A s.heap H locs ((hv (hv (up2 J 8 1 0) [45] [(8, 1)] Gl2) [45] [(8, 1)] u14), L, I, P, E, N) (sgX g ++ dy) := hW
            have hE0 := hf14_0
            have hE1 := hf14_1
            obtain ⟨x15, e15⟩ : ∃ y : Int32, y = m4 + 1 := ⟨_, rfl⟩
            refine lv_iinc (v := x15) (lv' := [(4, .int x15), (5, .int x8), (3, .int x1), (2, .ref a0), (0, .ref (g.2.2.1 8)), (1, .ref a0)]) hx hb dX7_weigh_69 hl (k := 1) rfl (by rw [e15]; rfl) (by decide) rfl (fun ls hl => ?_)
            try have t15 : x15.toInt = m4.toInt + 1 := tadd e15 rfl kp1 (by omega)
            refine lv_goto (tgt := 13) hx hb dX7_weigh_72 (by decide) ?_
            have hWl : WB g A s.heap H locs ((hv (up2 J 8 1 0) [45] [(8, 1)] (hv (hv (up2 J 8 1 0) [45] [(8, 1)] Gl2) [45] [(8, 1)] u14)), L, I, P, E, N) (sgX g ++ dy) := by
              rw [← ag_hvE (J := (up2 J 8 1 0)) (R := [45]) (F := [(8, 1)]) (ag_hv rfl rfl (ag_hv rfl rfl ag_rf))]
              exact hW
            refine ih x15 (hv (hv (up2 J 8 1 0) [45] [(8, 1)] Gl2) [45] [(8, 1)] u14) H locs ls ?_ ?_ ?_ hWl (lv_sub hl [0, 2, 3, 4, 5] rfl)
            · show ((N a0 : Int) - x15.toInt).toNat < n
              omega
            · show 0 ≤ x15.toInt ∧ x15.toInt ≤ (N a0 : Int)
              first | omega | exact hi | assumption
            · show ∃ st : List Int32, (u14 8 1).toInt = (st.length : Nat) ∧ SK (u14 45) st ∧ (st.length : Int) ≤ x15.toInt ∧ (cs (fun i => I 46 i a0) x15.toInt.toNat (N a0)).foldl (ws (SCL (J 8 2) (J 8 3) (J 8 4) (J 8 5) (J 8 6) (J 8 7) (J 8 8) (J 8 9))) st = (cs (fun i => I 46 i a0) 0 (N a0)).foldl (ws (SCL (J 8 2) (J 8 3) (J 8 4) (J 8 5) (J 8 6) (J 8 7) (J 8 8) (J 8 9))) []
              first | exact wh_push hs1 hs2 hs3 hs4 (by omega) (by omega) (by omega) (by first | exact hE0 | omega) hE1 (by omega) (by first | (rw [show (I 46 m4.toInt.toNat a0) = x8 from e8.symm]; exact ws_num (by omega)) | exact ws_let (by rw [show (I 46 m4.toInt.toNat a0) = x8 from e8.symm]; omega) (hL.trans (by congr 1; rw [show (I 46 m4.toInt.toNat a0) = x8 from e8.symm]; omega))) | exact wh_join hs1 hs2 hs3 hs4 (by omega) (by omega) (by omega) (by rw [show (I 46 m4.toInt.toNat a0) = x8 from e8.symm]; omega) (by rw [show (I 46 m4.toInt.toNat a0) = x8 from e8.symm]; omega) (by rw [show (I 46 m4.toInt.toNat a0) = x8 from e8.symm]; omega) hE0 hE1
          · have c12 : ¬ r11.toInt = 0 := tne rfl kp0 c12
            refine lv_aload_n hx hb dX7_weigh_48 rfl (lv_at hl 4 rfl) ?_
            refine lv_aload_n hx hb dX7_weigh_49 rfl (lv_at hl 4 rfl) ?_
            refine lv_iload hx hb dX7_weigh_50 (lv_at hl 0 rfl) ?_
            refine lv_ineg hx hb dX7_weigh_52 ?_
            refine lv_topi (fun x16 (e16 : x16 = -x8) => ?_)
            try have t16 : x16.toInt = -x8.toInt := tneg e16 rfl (by omega)
            refine ci_ C hW (runV (x := (g.2.2.1 8)) (As := [.int x16]) (rest := [.ref (g.2.2.1 8)]) (T := (((hv (up2 J 8 1 0) [45] [(8, 1)] Gl2), L, I, P, E, N), sgX g ++ dy)) C hW (c_X7_letter_e l g (hv (up2 J 8 1 0) [45] [(8, 1)] Gl2) L I P E N dy H.size x16 (show (x16.toInt = 107 ∨ x16.toInt = 104 ∨ x16.toInt = 118 ∨ x16.toInt = 115 ∨ x16.toInt = 109 ∨ x16.toInt = 119 ∨ x16.toInt = 97 ∨ x16.toInt = 110) from by omega)) mi_X7_letter tw_677 (recv_ (T := (((hv (up2 J 8 1 0) [45] [(8, 1)] Gl2), L, I, P, E, N), sgX g ++ dy)) C hW (mx_ rfl) rfl rfl) ⟨rfl, rfl, Nat.le_of_ble_eq_true rfl, Nat.le_of_ble_eq_true rfl⟩ rfl hl.1 rfl (Nat.le_of_ble_eq_true rfl) dX7_weigh_53 ⟨Nat.le_of_ble_eq_true rfl, Nat.le_of_ble_eq_true rfl⟩) (fun r17 u17 H locs hp17 hW => ?_)
            have hf17_0 : (r17 = SCL (J 8 2) (J 8 3) (J 8 4) (J 8 5) (J 8 6) (J 8 7) (J 8 8) (J 8 9) x16.toInt) := hp17
            clear hp17
            have hW : WB g A s.heap H locs ((hv (up2 J 8 1 0) [45] [(8, 1)] Gl2), L, I, P, E, N) (sgX g ++ dy) := hW
            have hL := hf17_0
            refine cv_ C hW (runV (x := (g.2.2.1 8)) (As := [.int r17]) (rest := []) (T := (((hv (up2 J 8 1 0) [45] [(8, 1)] Gl2), L, I, P, E, N), sgX g ++ dy)) C hW (c_X7_push_e l g (hv (up2 J 8 1 0) [45] [(8, 1)] Gl2) L I P E N dy H.size r17 (show 0 ≤ (Gl2 8 1).toInt ∧ (Gl2 8 1).toInt ≤ 59 from by omega)) mi_X7_push tw_670 (recv_ (T := (((hv (up2 J 8 1 0) [45] [(8, 1)] Gl2), L, I, P, E, N), sgX g ++ dy)) C hW (mx_ rfl) rfl rfl) ⟨rfl, rfl, Nat.le_of_ble_eq_true rfl, Nat.le_of_ble_eq_true rfl⟩ rfl hl.1 rfl (Nat.le_of_ble_eq_true rfl) dX7_weigh_56 ⟨Nat.le_of_ble_eq_true rfl, Nat.le_of_ble_eq_true rfl⟩) (fun u18 H locs hp18 hW => ?_)
            obtain ⟨hf18_0, hf18_1⟩ : ((u18 8 1).toInt = (Gl2 8 1).toInt + 1) ∧ (u18 45 = up2 Gl2 45 (Gl2 8 1).toInt.toNat r17 45) := hp18
            have hW : WB g A s.heap H locs ((hv (hv (up2 J 8 1 0) [45] [(8, 1)] Gl2) [45] [(8, 1)] u18), L, I, P, E, N) (sgX g ++ dy) := hW
            have hE0 := hf18_0
            have hE1 := hf18_1
            refine lv_goto (tgt := 69) hx hb dX7_weigh_59 (by decide) ?_
            obtain ⟨x19, e19⟩ : ∃ y : Int32, y = m4 + 1 := ⟨_, rfl⟩
            refine lv_iinc (v := x19) (lv' := [(4, .int x19), (5, .int x8), (3, .int x1), (2, .ref a0), (0, .ref (g.2.2.1 8)), (1, .ref a0)]) hx hb dX7_weigh_69 hl (k := 1) rfl (by rw [e19]; rfl) (by decide) rfl (fun ls hl => ?_)
            try have t19 : x19.toInt = m4.toInt + 1 := tadd e19 rfl kp1 (by omega)
            refine lv_goto (tgt := 13) hx hb dX7_weigh_72 (by decide) ?_
            have hWl : WB g A s.heap H locs ((hv (up2 J 8 1 0) [45] [(8, 1)] (hv (hv (up2 J 8 1 0) [45] [(8, 1)] Gl2) [45] [(8, 1)] u18)), L, I, P, E, N) (sgX g ++ dy) := by
              rw [← ag_hvE (J := (up2 J 8 1 0)) (R := [45]) (F := [(8, 1)]) (ag_hv rfl rfl (ag_hv rfl rfl ag_rf))]
              exact hW
            refine ih x19 (hv (hv (up2 J 8 1 0) [45] [(8, 1)] Gl2) [45] [(8, 1)] u18) H locs ls ?_ ?_ ?_ hWl (lv_sub hl [0, 2, 3, 4, 5] rfl)
            · show ((N a0 : Int) - x19.toInt).toNat < n
              omega
            · show 0 ≤ x19.toInt ∧ x19.toInt ≤ (N a0 : Int)
              first | omega | exact hi | assumption
            · show ∃ st : List Int32, (u18 8 1).toInt = (st.length : Nat) ∧ SK (u18 45) st ∧ (st.length : Int) ≤ x19.toInt ∧ (cs (fun i => I 46 i a0) x19.toInt.toNat (N a0)).foldl (ws (SCL (J 8 2) (J 8 3) (J 8 4) (J 8 5) (J 8 6) (J 8 7) (J 8 8) (J 8 9))) st = (cs (fun i => I 46 i a0) 0 (N a0)).foldl (ws (SCL (J 8 2) (J 8 3) (J 8 4) (J 8 5) (J 8 6) (J 8 7) (J 8 8) (J 8 9))) []
              first | exact wh_push hs1 hs2 hs3 hs4 (by omega) (by omega) (by omega) (by first | exact hE0 | omega) hE1 (by omega) (by first | (rw [show (I 46 m4.toInt.toNat a0) = x8 from e8.symm]; exact ws_num (by omega)) | exact ws_let (by rw [show (I 46 m4.toInt.toNat a0) = x8 from e8.symm]; omega) (hL.trans (by congr 1; rw [show (I 46 m4.toInt.toNat a0) = x8 from e8.symm]; omega))) | exact wh_join hs1 hs2 hs3 hs4 (by omega) (by omega) (by omega) (by rw [show (I 46 m4.toInt.toNat a0) = x8 from e8.symm]; omega) (by rw [show (I 46 m4.toInt.toNat a0) = x8 from e8.symm]; omega) (by rw [show (I 46 m4.toInt.toNat a0) = x8 from e8.symm]; omega) hE0 hE1
        · have c9 : 0 ≤ x8.toInt := tnlt rfl kp0 c9
          refine lv_aload_n hx hb dX7_weigh_30 rfl (lv_at hl 4 rfl) ?_
          refine lv_iload hx hb dX7_weigh_31 (lv_at hl 0 rfl) ?_
          refine cv_ C hW (runV (x := (g.2.2.1 8)) (As := [.int x8]) (rest := []) (T := (((hv (up2 J 8 1 0) [45] [(8, 1)] Gl2), L, I, P, E, N), sgX g ++ dy)) C hW (c_X7_push_e l g (hv (up2 J 8 1 0) [45] [(8, 1)] Gl2) L I P E N dy H.size x8 (show 0 ≤ (Gl2 8 1).toInt ∧ (Gl2 8 1).toInt ≤ 59 from by omega)) mi_X7_push tw_670 (recv_ (T := (((hv (up2 J 8 1 0) [45] [(8, 1)] Gl2), L, I, P, E, N), sgX g ++ dy)) C hW (mx_ rfl) rfl rfl) ⟨rfl, rfl, Nat.le_of_ble_eq_true rfl, Nat.le_of_ble_eq_true rfl⟩ rfl hl.1 rfl (Nat.le_of_ble_eq_true rfl) dX7_weigh_33 ⟨Nat.le_of_ble_eq_true rfl, Nat.le_of_ble_eq_true rfl⟩) (fun u20 H locs hp20 hW => ?_)
          obtain ⟨hf20_0, hf20_1⟩ : ((u20 8 1).toInt = (Gl2 8 1).toInt + 1) ∧ (u20 45 = up2 Gl2 45 (Gl2 8 1).toInt.toNat x8 45) := hp20
          have hW : WB g A s.heap H locs ((hv (hv (up2 J 8 1 0) [45] [(8, 1)] Gl2) [45] [(8, 1)] u20), L, I, P, E, N) (sgX g ++ dy) := hW
          have hE0 := hf20_0
          have hE1 := hf20_1
          refine lv_goto (tgt := 69) hx hb dX7_weigh_36 (by decide) ?_
          obtain ⟨x21, e21⟩ : ∃ y : Int32, y = m4 + 1 := ⟨_, rfl⟩
          refine lv_iinc (v := x21) (lv' := [(4, .int x21), (5, .int x8), (3, .int x1), (2, .ref a0), (0, .ref (g.2.2.1 8)), (1, .ref a0)]) hx hb dX7_weigh_69 hl (k := 1) rfl (by rw [e21]; rfl) (by decide) rfl (fun ls hl => ?_)
          try have t21 : x21.toInt = m4.toInt + 1 := tadd e21 rfl kp1 (by omega)
          refine lv_goto (tgt := 13) hx hb dX7_weigh_72 (by decide) ?_
          have hWl : WB g A s.heap H locs ((hv (up2 J 8 1 0) [45] [(8, 1)] (hv (hv (up2 J 8 1 0) [45] [(8, 1)] Gl2) [45] [(8, 1)] u20)), L, I, P, E, N) (sgX g ++ dy) := by
            rw [← ag_hvE (J := (up2 J 8 1 0)) (R := [45]) (F := [(8, 1)]) (ag_hv rfl rfl (ag_hv rfl rfl ag_rf))]
            exact hW
          refine ih x21 (hv (hv (up2 J 8 1 0) [45] [(8, 1)] Gl2) [45] [(8, 1)] u20) H locs ls ?_ ?_ ?_ hWl (lv_sub hl [0, 2, 3, 4, 5] rfl)
          · show ((N a0 : Int) - x21.toInt).toNat < n
            omega
          · show 0 ≤ x21.toInt ∧ x21.toInt ≤ (N a0 : Int)
            first | omega | exact hi | assumption
          · show ∃ st : List Int32, (u20 8 1).toInt = (st.length : Nat) ∧ SK (u20 45) st ∧ (st.length : Int) ≤ x21.toInt ∧ (cs (fun i => I 46 i a0) x21.toInt.toNat (N a0)).foldl (ws (SCL (J 8 2) (J 8 3) (J 8 4) (J 8 5) (J 8 6) (J 8 7) (J 8 8) (J 8 9))) st = (cs (fun i => I 46 i a0) 0 (N a0)).foldl (ws (SCL (J 8 2) (J 8 3) (J 8 4) (J 8 5) (J 8 6) (J 8 7) (J 8 8) (J 8 9))) []
            first | exact wh_push hs1 hs2 hs3 hs4 (by omega) (by omega) (by omega) (by first | exact hE0 | omega) hE1 (by omega) (by first | (rw [show (I 46 m4.toInt.toNat a0) = x8 from e8.symm]; exact ws_num (by omega)) | exact ws_let (by rw [show (I 46 m4.toInt.toNat a0) = x8 from e8.symm]; omega) (hL.trans (by congr 1; rw [show (I 46 m4.toInt.toNat a0) = x8 from e8.symm]; omega))) | exact wh_join hs1 hs2 hs3 hs4 (by omega) (by omega) (by omega) (by rw [show (I 46 m4.toInt.toNat a0) = x8 from e8.symm]; omega) (by rw [show (I 46 m4.toInt.toNat a0) = x8 from e8.symm]; omega) (by rw [show (I 46 m4.toInt.toNat a0) = x8 from e8.symm]; omega) hE0 hE1
  -- into the loop
  have hWl : WB g A s.heap H locs ((hv (up2 J 8 1 0) [45] [(8, 1)] (up2 J 8 1 0)), L, I, P, E, N) (sgX g ++ dy) := by
    rw [← ag_hvE (J := (up2 J 8 1 0)) (R := [45]) (F := [(8, 1)]) ag_rf]
    exact hW
  refine loop13 (((N a0 : Int) - (0 : Int32).toInt).toNat + 1) 0 (up2 J 8 1 0) H locs ls ?_ ?_ ?_ hWl (lv_sub hl [0, 1, 2, 3, 4] rfl)
  · exact Nat.lt_succ_self _
  · show 0 ≤ (0 : Int32).toInt ∧ (0 : Int32).toInt ≤ (N a0 : Int)
    try rw [kp0]
    first | omega | exact hi | assumption
  · show ∃ st : List Int32, ((0 : Int32)).toInt = (st.length : Nat) ∧ SK (J 45) st ∧ (st.length : Int) ≤ (0 : Int32).toInt ∧ (cs (fun i => I 46 i a0) (0 : Int32).toInt.toNat (N a0)).foldl (ws (SCL (J 8 2) (J 8 3) (J 8 4) (J 8 5) (J 8 6) (J 8 7) (J 8 8) (J 8 9))) st = (cs (fun i => I 46 i a0) 0 (N a0)).foldl (ws (SCL (J 8 2) (J 8 3) (J 8 4) (J 8 5) (J 8 6) (J 8 7) (J 8 8) (J 8 9))) []
    try rw [kp0]
    exact ⟨[], kp0, trivial, Int.le_refl _, rfl⟩
