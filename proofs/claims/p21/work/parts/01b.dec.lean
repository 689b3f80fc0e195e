/-- the bytes of a code from a place on, as numbers -/
def dk_b (c : ByteArray) (pc : Nat) (l : List Nat) : Bool := ((c.data.toList.drop pc).take l.length).map UInt8.toNat == l
abbrev dk_R (A : Type) := Reader DecodeError A
theorem dk_u1 {c : ByteArray} {pc : Nat} (h : pc < c.size) : (Reader.u1 : dk_R Nat) c pc = .ok (c[pc].toNat, pc + 1) := by
  show (dite (pc < c.size) (fun h => (do set (pc + 1); pure c[pc].toNat : dk_R Nat)) (fun _ => throw (HasTruncated.truncated pc)) : dk_R Nat) c pc = _
  rw [dif_pos h]; rfl
theorem dk_h {c : ByteArray} {pc x : Nat} {r : List Nat} (h : dk_b c pc (x :: r) = true) : (Reader.u1 : dk_R Nat) c pc = .ok (x, pc + 1) ∧ dk_b c (pc + 1) r = true := by
  obtain ⟨⟨l⟩⟩ := c
  have h : ((l.drop pc).take (r.length + 1)).map UInt8.toNat = x :: r := eq_of_beq h
  cases e : l.drop pc with
  | nil => rw [e] at h; simp at h
  | cons y t =>
    rw [e, List.take_succ_cons, List.map_cons, List.cons.injEq] at h
    obtain ⟨h1, h2⟩ := h
    have hl : pc < l.length := by
      have h3 := congrArg List.length e
      rw [List.length_drop, List.length_cons] at h3; omega
    have h4 := List.drop_eq_getElem_cons hl
    rw [e] at h4
    have hy : l[pc] = y := (List.cons.inj h4).1.symm
    have ht : l.drop (pc + 1) = t := (List.cons.inj h4).2.symm
    refine ⟨?_, ?_⟩
    · have hu := dk_u1 (c := ByteArray.mk ⟨l⟩) (pc := pc) hl
      rw [hu]
      show Except.ok (l[pc].toNat, pc + 1) = _
      rw [hy, h1]
    · show (((l.drop (pc + 1)).take r.length).map UInt8.toNat == r) = true
      rw [ht, h2]; exact beq_self_eq_true r
theorem dk_bind {A B : Type} (r : dk_R A) (k : A → dk_R B) (c : ByteArray) (pc : Nat) : (r >>= k) c pc = Except.bind (r c pc) (fun q => k q.1 c q.2) := by
  show Except.bind (r c pc) _ = _
  cases r c pc with
  | error e => rfl
  | ok q => rfl
theorem dk_bok {A B : Type} {r : dk_R A} {k : A → dk_R B} {c : ByteArray} {pc n : Nat} {a : A} (h : r c pc = .ok (a, n)) : (r >>= k) c pc = k a c n := by
  rw [dk_bind, h]; rfl
theorem dk_map {A B : Type} {r : dk_R A} {g : A → B} {c : ByteArray} {pc n : Nat} {a : A} (h : r c pc = .ok (a, n)) : (g <$> r : dk_R B) c pc = .ok (g a, n) := by
  show Except.bind (r c pc) _ = _
  rw [h]; rfl
noncomputable def dk_k (pc : Nat) : {k : Nat → dk_R Instr // (Decoder.instr pc : dk_R Instr) = ((Reader.u1 : dk_R Nat) >>= k)} := ⟨_, rfl⟩
theorem dk_1 {c : ByteArray} {pc op : Nat} {X : Except DecodeError (Instr × Nat)} (h : (Reader.u1 : dk_R Nat) c pc = .ok (op, pc + 1)) (hX : (dk_k pc).1 op c (pc + 1) = X) : (Decoder.instr pc : dk_R Instr) c pc = X := (congrArg (fun r : dk_R Instr => r c pc) (dk_k pc).2).trans ((dk_bok h).trans hX)
theorem dk_d {c : ByteArray} {pc n m : Nat} {i : Instr} (h : (Decoder.instr pc : dk_R Instr) c pc = .ok (i, n)) (hm : n - pc = m) : decode c pc = .ok (i, m) := by
  unfold decode
  show Except.bind ((Decoder.instr pc : dk_R Instr) c pc) _ = _
  rw [h]
  show Except.ok (i, n - pc) = _
  rw [hm]
theorem dk_z {c : ByteArray} {pc op n m : Nat} {r : List Nat} {i : Instr} (h : dk_b c pc (op :: r) = true) (hX : dk_b c (pc + 1) r = true → (dk_k pc).1 op c (pc + 1) = .ok (i, n)) (hm : n - pc = m) : decode c pc = .ok (i, m) := dk_d (dk_1 (dk_h h).1 (hX (dk_h h).2)) hm
theorem dk_u2 {c : ByteArray} {pc a b : Nat} {r : List Nat} (h : dk_b c pc (a :: b :: r) = true) : (Reader.u2 : dk_R Nat) c pc = .ok (a * 256 + b, pc + 2) := by
  obtain ⟨h1, h2⟩ := dk_h h
  obtain ⟨h3, -⟩ := dk_h h2
  show ((Reader.u1 : dk_R Nat) >>= fun hi => (Reader.u1 : dk_R Nat) >>= fun lo => (pure (hi * 256 + lo) : dk_R Nat)) c pc = _
  rw [dk_bok h1, dk_bok h3]; rfl
theorem dk_s1 {c : ByteArray} {pc m : Nat} {n : Int} (hn : -128 ≤ n ∧ n < 128) (h : (Reader.u1 : dk_R Nat) c pc = .ok ((n % 256).toNat, m)) : (Reader.s1 : dk_R Int) c pc = .ok (n, m) := by
  show (Reader.signed 8 <$> (Reader.u1 : dk_R Nat)) c pc = _
  rw [dk_map h]
  have e : Reader.signed 8 (n % 256).toNat = n := by
    show (if (n % 256).toNat < 128 then (((n % 256).toNat : Nat) : Int) else (((n % 256).toNat : Nat) : Int) - ((256 : Nat) : Int)) = n
    split <;> omega
  rw [e]
theorem dk_s2 {c : ByteArray} {pc m : Nat} {n : Int} (hn : -32768 ≤ n ∧ n < 32768) (h : (Reader.u2 : dk_R Nat) c pc = .ok ((n % 65536).toNat, m)) : (Reader.s2 : dk_R Int) c pc = .ok (n, m) := by
  show (Reader.signed 16 <$> (Reader.u2 : dk_R Nat)) c pc = _
  rw [dk_map h]
  have e : Reader.signed 16 (n % 65536).toNat = n := by
    show (if (n % 65536).toNat < 32768 then (((n % 65536).toNat : Nat) : Int) else (((n % 65536).toNat : Nat) : Int) - ((65536 : Nat) : Int)) = n
    split <;> omega
  rw [e]
theorem dk_0 {c : ByteArray} {pc op : Nat} {i : Instr} (hf : (dk_k pc).1 op = (pure i : dk_R Instr)) (h : dk_b c pc [op] = true) : decode c pc = .ok (i, 1) := dk_z (n := pc + 1) h (fun _ => by rw [hf]; rfl) (by omega)
theorem dk_1u {c : ByteArray} {pc op n : Nat} {f : Nat → Instr} (hf : (dk_k pc).1 op = ((Reader.u1 : dk_R Nat) >>= fun x => (pure (f x) : dk_R Instr))) (h : dk_b c pc [op, n] = true) : decode c pc = .ok (f n, 2) := dk_z (n := pc + 2) h (fun q => by rw [hf, dk_bok (dk_h q).1]; rfl) (by omega)
theorem dk_2u {c : ByteArray} {pc op n : Nat} {f : Nat → Instr} (hf : (dk_k pc).1 op = ((Reader.u2 : dk_R Nat) >>= fun x => (pure (f x) : dk_R Instr))) (h : dk_b c pc [op, n / 256, n % 256] = true) : decode c pc = .ok (f n, 3) := dk_z (n := pc + 3) h (fun q => by rw [hf, dk_bok (dk_u2 q), show n / 256 * 256 + n % 256 = n by omega]; rfl) (by omega)
theorem dk_1s {c : ByteArray} {pc op : Nat} {n : Int} {f : Int → Instr} (hf : (dk_k pc).1 op = ((Reader.s1 : dk_R Int) >>= fun x => (pure (f x) : dk_R Instr))) (h : (decide (-128 ≤ n ∧ n < 128) && dk_b c pc [op, (n % 256).toNat]) = true) : decode c pc = .ok (f n, 2) := by
  rw [Bool.and_eq_true] at h
  have hn := of_decide_eq_true h.1
  exact dk_z (n := pc + 2) h.2 (fun q => by rw [hf, dk_bok (dk_s1 hn (dk_h q).1)]; rfl) (by omega)
theorem dk_2s {c : ByteArray} {pc op : Nat} {n : Int} {f : Int → Instr} (hf : (dk_k pc).1 op = ((Reader.s2 : dk_R Int) >>= fun x => (pure (f x) : dk_R Instr))) (h : (decide (-32768 ≤ n ∧ n < 32768) && dk_b c pc [op, (n % 65536).toNat / 256, (n % 65536).toNat % 256]) = true) : decode c pc = .ok (f n, 3) := by
  rw [Bool.and_eq_true] at h
  have hn := of_decide_eq_true h.1
  refine dk_z (n := pc + 3) h.2 (fun q => ?_) (by omega)
  have h2 := dk_u2 q
  rw [show (n % 65536).toNat / 256 * 256 + (n % 65536).toNat % 256 = (n % 65536).toNat by omega] at h2
  rw [hf, dk_bok (dk_s2 hn h2)]; rfl
theorem dk_iinc {c : ByteArray} {pc i : Nat} {n : Int} (h : (decide (-128 ≤ n ∧ n < 128) && dk_b c pc [132, i, (n % 256).toNat]) = true) : decode c pc = .ok (.iinc i n, 3) := by
  rw [Bool.and_eq_true] at h
  have hn := of_decide_eq_true h.1
  have hf : (dk_k pc).1 132 = ((Reader.u1 : dk_R Nat) >>= fun x => (Reader.s1 : dk_R Int) >>= fun y => (pure (.iinc x y) : dk_R Instr)) := rfl
  refine dk_z (n := pc + 3) h.2 (fun q => ?_) (by omega)
  obtain ⟨h1, h2⟩ := dk_h q
  rw [hf, dk_bok h1, dk_bok (dk_s1 hn (dk_h h2).1)]; rfl
theorem dk_aconst_null {c : ByteArray} {pc : Nat} (h : dk_b c pc [1] = true) : decode c pc = .ok (.aconst_null, 1) := dk_0 rfl h
theorem dk_iaload {c : ByteArray} {pc : Nat} (h : dk_b c pc [46] = true) : decode c pc = .ok (.iaload, 1) := dk_0 rfl h
theorem dk_laload {c : ByteArray} {pc : Nat} (h : dk_b c pc [47] = true) : decode c pc = .ok (.laload, 1) := dk_0 rfl h
theorem dk_aaload {c : ByteArray} {pc : Nat} (h : dk_b c pc [50] = true) : decode c pc = .ok (.aaload, 1) := dk_0 rfl h
theorem dk_baload {c : ByteArray} {pc : Nat} (h : dk_b c pc [51] = true) : decode c pc = .ok (.baload, 1) := dk_0 rfl h
theorem dk_iastore {c : ByteArray} {pc : Nat} (h : dk_b c pc [79] = true) : decode c pc = .ok (.iastore, 1) := dk_0 rfl h
theorem dk_lastore {c : ByteArray} {pc : Nat} (h : dk_b c pc [80] = true) : decode c pc = .ok (.lastore, 1) := dk_0 rfl h
theorem dk_aastore {c : ByteArray} {pc : Nat} (h : dk_b c pc [83] = true) : decode c pc = .ok (.aastore, 1) := dk_0 rfl h
theorem dk_bastore {c : ByteArray} {pc : Nat} (h : dk_b c pc [84] = true) : decode c pc = .ok (.bastore, 1) := dk_0 rfl h
theorem dk_pop {c : ByteArray} {pc : Nat} (h : dk_b c pc [87] = true) : decode c pc = .ok (.pop, 1) := dk_0 rfl h
theorem dk_dup {c : ByteArray} {pc : Nat} (h : dk_b c pc [89] = true) : decode c pc = .ok (.dup, 1) := dk_0 rfl h
theorem dk_dup_x1 {c : ByteArray} {pc : Nat} (h : dk_b c pc [90] = true) : decode c pc = .ok (.dup_x1, 1) := dk_0 rfl h
theorem dk_dup2 {c : ByteArray} {pc : Nat} (h : dk_b c pc [92] = true) : decode c pc = .ok (.dup2, 1) := dk_0 rfl h
theorem dk_iadd {c : ByteArray} {pc : Nat} (h : dk_b c pc [96] = true) : decode c pc = .ok (.iadd, 1) := dk_0 rfl h
theorem dk_ladd {c : ByteArray} {pc : Nat} (h : dk_b c pc [97] = true) : decode c pc = .ok (.ladd, 1) := dk_0 rfl h
theorem dk_isub {c : ByteArray} {pc : Nat} (h : dk_b c pc [100] = true) : decode c pc = .ok (.isub, 1) := dk_0 rfl h
theorem dk_lsub {c : ByteArray} {pc : Nat} (h : dk_b c pc [101] = true) : decode c pc = .ok (.lsub, 1) := dk_0 rfl h
theorem dk_imul {c : ByteArray} {pc : Nat} (h : dk_b c pc [104] = true) : decode c pc = .ok (.imul, 1) := dk_0 rfl h
theorem dk_lmul {c : ByteArray} {pc : Nat} (h : dk_b c pc [105] = true) : decode c pc = .ok (.lmul, 1) := dk_0 rfl h
theorem dk_idiv {c : ByteArray} {pc : Nat} (h : dk_b c pc [108] = true) : decode c pc = .ok (.idiv, 1) := dk_0 rfl h
theorem dk_ldiv {c : ByteArray} {pc : Nat} (h : dk_b c pc [109] = true) : decode c pc = .ok (.ldiv, 1) := dk_0 rfl h
theorem dk_irem {c : ByteArray} {pc : Nat} (h : dk_b c pc [112] = true) : decode c pc = .ok (.irem, 1) := dk_0 rfl h
theorem dk_ineg {c : ByteArray} {pc : Nat} (h : dk_b c pc [116] = true) : decode c pc = .ok (.ineg, 1) := dk_0 rfl h
theorem dk_ishl {c : ByteArray} {pc : Nat} (h : dk_b c pc [120] = true) : decode c pc = .ok (.ishl, 1) := dk_0 rfl h
theorem dk_lshl {c : ByteArray} {pc : Nat} (h : dk_b c pc [121] = true) : decode c pc = .ok (.lshl, 1) := dk_0 rfl h
theorem dk_ishr {c : ByteArray} {pc : Nat} (h : dk_b c pc [122] = true) : decode c pc = .ok (.ishr, 1) := dk_0 rfl h
theorem dk_lshr {c : ByteArray} {pc : Nat} (h : dk_b c pc [123] = true) : decode c pc = .ok (.lshr, 1) := dk_0 rfl h
theorem dk_iushr {c : ByteArray} {pc : Nat} (h : dk_b c pc [124] = true) : decode c pc = .ok (.iushr, 1) := dk_0 rfl h
theorem dk_lushr {c : ByteArray} {pc : Nat} (h : dk_b c pc [125] = true) : decode c pc = .ok (.lushr, 1) := dk_0 rfl h
theorem dk_iand {c : ByteArray} {pc : Nat} (h : dk_b c pc [126] = true) : decode c pc = .ok (.iand, 1) := dk_0 rfl h
theorem dk_land {c : ByteArray} {pc : Nat} (h : dk_b c pc [127] = true) : decode c pc = .ok (.land, 1) := dk_0 rfl h
theorem dk_ior {c : ByteArray} {pc : Nat} (h : dk_b c pc [128] = true) : decode c pc = .ok (.ior, 1) := dk_0 rfl h
theorem dk_lor {c : ByteArray} {pc : Nat} (h : dk_b c pc [129] = true) : decode c pc = .ok (.lor, 1) := dk_0 rfl h
theorem dk_ixor {c : ByteArray} {pc : Nat} (h : dk_b c pc [130] = true) : decode c pc = .ok (.ixor, 1) := dk_0 rfl h
theorem dk_i2l {c : ByteArray} {pc : Nat} (h : dk_b c pc [133] = true) : decode c pc = .ok (.i2l, 1) := dk_0 rfl h
theorem dk_l2i {c : ByteArray} {pc : Nat} (h : dk_b c pc [136] = true) : decode c pc = .ok (.l2i, 1) := dk_0 rfl h
theorem dk_lcmp {c : ByteArray} {pc : Nat} (h : dk_b c pc [148] = true) : decode c pc = .ok (.lcmp, 1) := dk_0 rfl h
theorem dk_ireturn {c : ByteArray} {pc : Nat} (h : dk_b c pc [172] = true) : decode c pc = .ok (.ireturn, 1) := dk_0 rfl h
theorem dk_lreturn {c : ByteArray} {pc : Nat} (h : dk_b c pc [173] = true) : decode c pc = .ok (.lreturn, 1) := dk_0 rfl h
theorem dk_areturn {c : ByteArray} {pc : Nat} (h : dk_b c pc [176] = true) : decode c pc = .ok (.areturn, 1) := dk_0 rfl h
theorem dk_return_ {c : ByteArray} {pc : Nat} (h : dk_b c pc [177] = true) : decode c pc = .ok (.return_, 1) := dk_0 rfl h
theorem dk_arraylength {c : ByteArray} {pc : Nat} (h : dk_b c pc [190] = true) : decode c pc = .ok (.arraylength, 1) := dk_0 rfl h
theorem dk_iload_n_0 {c : ByteArray} {pc : Nat} (h : dk_b c pc [26] = true) : decode c pc = .ok (.iload_n 0, 1) := dk_0 rfl h
theorem dk_iload_n_1 {c : ByteArray} {pc : Nat} (h : dk_b c pc [27] = true) : decode c pc = .ok (.iload_n 1, 1) := dk_0 rfl h
theorem dk_iload_n_2 {c : ByteArray} {pc : Nat} (h : dk_b c pc [28] = true) : decode c pc = .ok (.iload_n 2, 1) := dk_0 rfl h
theorem dk_iload_n_3 {c : ByteArray} {pc : Nat} (h : dk_b c pc [29] = true) : decode c pc = .ok (.iload_n 3, 1) := dk_0 rfl h
theorem dk_lload_n_0 {c : ByteArray} {pc : Nat} (h : dk_b c pc [30] = true) : decode c pc = .ok (.lload_n 0, 1) := dk_0 rfl h
theorem dk_lload_n_1 {c : ByteArray} {pc : Nat} (h : dk_b c pc [31] = true) : decode c pc = .ok (.lload_n 1, 1) := dk_0 rfl h
theorem dk_lload_n_2 {c : ByteArray} {pc : Nat} (h : dk_b c pc [32] = true) : decode c pc = .ok (.lload_n 2, 1) := dk_0 rfl h
theorem dk_lload_n_3 {c : ByteArray} {pc : Nat} (h : dk_b c pc [33] = true) : decode c pc = .ok (.lload_n 3, 1) := dk_0 rfl h
theorem dk_aload_n_0 {c : ByteArray} {pc : Nat} (h : dk_b c pc [42] = true) : decode c pc = .ok (.aload_n 0, 1) := dk_0 rfl h
theorem dk_aload_n_1 {c : ByteArray} {pc : Nat} (h : dk_b c pc [43] = true) : decode c pc = .ok (.aload_n 1, 1) := dk_0 rfl h
theorem dk_aload_n_2 {c : ByteArray} {pc : Nat} (h : dk_b c pc [44] = true) : decode c pc = .ok (.aload_n 2, 1) := dk_0 rfl h
theorem dk_aload_n_3 {c : ByteArray} {pc : Nat} (h : dk_b c pc [45] = true) : decode c pc = .ok (.aload_n 3, 1) := dk_0 rfl h
theorem dk_istore_n_0 {c : ByteArray} {pc : Nat} (h : dk_b c pc [59] = true) : decode c pc = .ok (.istore_n 0, 1) := dk_0 rfl h
theorem dk_istore_n_1 {c : ByteArray} {pc : Nat} (h : dk_b c pc [60] = true) : decode c pc = .ok (.istore_n 1, 1) := dk_0 rfl h
theorem dk_istore_n_2 {c : ByteArray} {pc : Nat} (h : dk_b c pc [61] = true) : decode c pc = .ok (.istore_n 2, 1) := dk_0 rfl h
theorem dk_istore_n_3 {c : ByteArray} {pc : Nat} (h : dk_b c pc [62] = true) : decode c pc = .ok (.istore_n 3, 1) := dk_0 rfl h
theorem dk_lstore_n_0 {c : ByteArray} {pc : Nat} (h : dk_b c pc [63] = true) : decode c pc = .ok (.lstore_n 0, 1) := dk_0 rfl h
theorem dk_lstore_n_2 {c : ByteArray} {pc : Nat} (h : dk_b c pc [65] = true) : decode c pc = .ok (.lstore_n 2, 1) := dk_0 rfl h
theorem dk_lstore_n_3 {c : ByteArray} {pc : Nat} (h : dk_b c pc [66] = true) : decode c pc = .ok (.lstore_n 3, 1) := dk_0 rfl h
theorem dk_astore_n_1 {c : ByteArray} {pc : Nat} (h : dk_b c pc [76] = true) : decode c pc = .ok (.astore_n 1, 1) := dk_0 rfl h
theorem dk_astore_n_2 {c : ByteArray} {pc : Nat} (h : dk_b c pc [77] = true) : decode c pc = .ok (.astore_n 2, 1) := dk_0 rfl h
theorem dk_astore_n_3 {c : ByteArray} {pc : Nat} (h : dk_b c pc [78] = true) : decode c pc = .ok (.astore_n 3, 1) := dk_0 rfl h
theorem dk_iconst_m1 {c : ByteArray} {pc : Nat} (h : dk_b c pc [2] = true) : decode c pc = .ok (.iconst (-1), 1) := dk_0 rfl h
theorem dk_iconst_0 {c : ByteArray} {pc : Nat} (h : dk_b c pc [3] = true) : decode c pc = .ok (.iconst 0, 1) := dk_0 rfl h
theorem dk_iconst_1 {c : ByteArray} {pc : Nat} (h : dk_b c pc [4] = true) : decode c pc = .ok (.iconst 1, 1) := dk_0 rfl h
theorem dk_iconst_2 {c : ByteArray} {pc : Nat} (h : dk_b c pc [5] = true) : decode c pc = .ok (.iconst 2, 1) := dk_0 rfl h
theorem dk_iconst_3 {c : ByteArray} {pc : Nat} (h : dk_b c pc [6] = true) : decode c pc = .ok (.iconst 3, 1) := dk_0 rfl h
theorem dk_iconst_4 {c : ByteArray} {pc : Nat} (h : dk_b c pc [7] = true) : decode c pc = .ok (.iconst 4, 1) := dk_0 rfl h
theorem dk_iconst_5 {c : ByteArray} {pc : Nat} (h : dk_b c pc [8] = true) : decode c pc = .ok (.iconst 5, 1) := dk_0 rfl h
theorem dk_lconst_0 {c : ByteArray} {pc : Nat} (h : dk_b c pc [9] = true) : decode c pc = .ok (.lconst 0, 1) := dk_0 rfl h
theorem dk_lconst_1 {c : ByteArray} {pc : Nat} (h : dk_b c pc [10] = true) : decode c pc = .ok (.lconst 1, 1) := dk_0 rfl h
theorem dk_iload {c : ByteArray} {pc n : Nat} (h : dk_b c pc [21, n] = true) : decode c pc = .ok (.iload n, 2) := dk_1u (f := fun x => .iload x) rfl h
theorem dk_lload {c : ByteArray} {pc n : Nat} (h : dk_b c pc [22, n] = true) : decode c pc = .ok (.lload n, 2) := dk_1u (f := fun x => .lload x) rfl h
theorem dk_aload {c : ByteArray} {pc n : Nat} (h : dk_b c pc [25, n] = true) : decode c pc = .ok (.aload n, 2) := dk_1u (f := fun x => .aload x) rfl h
theorem dk_istore {c : ByteArray} {pc n : Nat} (h : dk_b c pc [54, n] = true) : decode c pc = .ok (.istore n, 2) := dk_1u (f := fun x => .istore x) rfl h
theorem dk_lstore {c : ByteArray} {pc n : Nat} (h : dk_b c pc [55, n] = true) : decode c pc = .ok (.lstore n, 2) := dk_1u (f := fun x => .lstore x) rfl h
theorem dk_astore {c : ByteArray} {pc n : Nat} (h : dk_b c pc [58, n] = true) : decode c pc = .ok (.astore n, 2) := dk_1u (f := fun x => .astore x) rfl h
theorem dk_ldc {c : ByteArray} {pc n : Nat} (h : dk_b c pc [18, n] = true) : decode c pc = .ok (.ldc n, 2) := dk_1u (f := fun x => .ldc x) rfl h
theorem dk_getfield {c : ByteArray} {pc n : Nat} (h : dk_b c pc [180, n / 256, n % 256] = true) : decode c pc = .ok (.getfield n, 3) := dk_2u (f := fun x => .getfield x) rfl h
theorem dk_putfield {c : ByteArray} {pc n : Nat} (h : dk_b c pc [181, n / 256, n % 256] = true) : decode c pc = .ok (.putfield n, 3) := dk_2u (f := fun x => .putfield x) rfl h
theorem dk_getstatic {c : ByteArray} {pc n : Nat} (h : dk_b c pc [178, n / 256, n % 256] = true) : decode c pc = .ok (.getstatic n, 3) := dk_2u (f := fun x => .getstatic x) rfl h
theorem dk_invokevirtual {c : ByteArray} {pc n : Nat} (h : dk_b c pc [182, n / 256, n % 256] = true) : decode c pc = .ok (.invokevirtual n, 3) := dk_2u (f := fun x => .invokevirtual x) rfl h
theorem dk_invokespecial {c : ByteArray} {pc n : Nat} (h : dk_b c pc [183, n / 256, n % 256] = true) : decode c pc = .ok (.invokespecial n, 3) := dk_2u (f := fun x => .invokespecial x) rfl h
theorem dk_invokestatic {c : ByteArray} {pc n : Nat} (h : dk_b c pc [184, n / 256, n % 256] = true) : decode c pc = .ok (.invokestatic n, 3) := dk_2u (f := fun x => .invokestatic x) rfl h
theorem dk_new {c : ByteArray} {pc n : Nat} (h : dk_b c pc [187, n / 256, n % 256] = true) : decode c pc = .ok (.new n, 3) := dk_2u (f := fun x => .new x) rfl h
theorem dk_anewarray {c : ByteArray} {pc n : Nat} (h : dk_b c pc [189, n / 256, n % 256] = true) : decode c pc = .ok (.anewarray n, 3) := dk_2u (f := fun x => .anewarray x) rfl h
theorem dk_checkcast {c : ByteArray} {pc n : Nat} (h : dk_b c pc [192, n / 256, n % 256] = true) : decode c pc = .ok (.checkcast n, 3) := dk_2u (f := fun x => .checkcast x) rfl h
theorem dk_ldc_w {c : ByteArray} {pc n : Nat} (h : dk_b c pc [19, n / 256, n % 256] = true) : decode c pc = .ok (.ldc_w n, 3) := dk_2u (f := fun x => .ldc_w x) rfl h
theorem dk_ldc2_w {c : ByteArray} {pc n : Nat} (h : dk_b c pc [20, n / 256, n % 256] = true) : decode c pc = .ok (.ldc2_w n, 3) := dk_2u (f := fun x => .ldc2_w x) rfl h
theorem dk_bipush {c : ByteArray} {pc : Nat} {n : Int} (h : (decide (-128 ≤ n ∧ n < 128) && dk_b c pc [16, (n % 256).toNat]) = true) : decode c pc = .ok (.bipush n, 2) := dk_1s (f := fun x => .bipush x) rfl h
theorem dk_sipush {c : ByteArray} {pc : Nat} {n : Int} (h : (decide (-32768 ≤ n ∧ n < 32768) && dk_b c pc [17, (n % 65536).toNat / 256, (n % 65536).toNat % 256]) = true) : decode c pc = .ok (.sipush n, 3) := dk_2s (f := fun x => .sipush x) rfl h
theorem dk_goto {c : ByteArray} {pc : Nat} {n : Int} (h : (decide (-32768 ≤ n ∧ n < 32768) && dk_b c pc [167, (n % 65536).toNat / 256, (n % 65536).toNat % 256]) = true) : decode c pc = .ok (.goto n, 3) := dk_2s (f := fun x => .goto x) rfl h
theorem dk_if_acmp_eq {c : ByteArray} {pc : Nat} {n : Int} (h : (decide (-32768 ≤ n ∧ n < 32768) && dk_b c pc [165, (n % 65536).toNat / 256, (n % 65536).toNat % 256]) = true) : decode c pc = .ok (.if_acmp .eq n, 3) := dk_2s (f := fun x => .if_acmp .eq x) rfl h
theorem dk_if_acmp_ne {c : ByteArray} {pc : Nat} {n : Int} (h : (decide (-32768 ≤ n ∧ n < 32768) && dk_b c pc [166, (n % 65536).toNat / 256, (n % 65536).toNat % 256]) = true) : decode c pc = .ok (.if_acmp .ne n, 3) := dk_2s (f := fun x => .if_acmp .ne x) rfl h
theorem dk_ifnull {c : ByteArray} {pc : Nat} {n : Int} (h : (decide (-32768 ≤ n ∧ n < 32768) && dk_b c pc [198, (n % 65536).toNat / 256, (n % 65536).toNat % 256]) = true) : decode c pc = .ok (.ifnull n, 3) := dk_2s (f := fun x => .ifnull x) rfl h
theorem dk_ifnonnull {c : ByteArray} {pc : Nat} {n : Int} (h : (decide (-32768 ≤ n ∧ n < 32768) && dk_b c pc [199, (n % 65536).toNat / 256, (n % 65536).toNat % 256]) = true) : decode c pc = .ok (.ifnonnull n, 3) := dk_2s (f := fun x => .ifnonnull x) rfl h
theorem dk_ifCond_eq {c : ByteArray} {pc : Nat} {n : Int} (h : (decide (-32768 ≤ n ∧ n < 32768) && dk_b c pc [153, (n % 65536).toNat / 256, (n % 65536).toNat % 256]) = true) : decode c pc = .ok (.ifCond .eq n, 3) := dk_2s (f := fun x => .ifCond .eq x) rfl h
theorem dk_if_icmp_eq {c : ByteArray} {pc : Nat} {n : Int} (h : (decide (-32768 ≤ n ∧ n < 32768) && dk_b c pc [159, (n % 65536).toNat / 256, (n % 65536).toNat % 256]) = true) : decode c pc = .ok (.if_icmp .eq n, 3) := dk_2s (f := fun x => .if_icmp .eq x) rfl h
theorem dk_ifCond_ne {c : ByteArray} {pc : Nat} {n : Int} (h : (decide (-32768 ≤ n ∧ n < 32768) && dk_b c pc [154, (n % 65536).toNat / 256, (n % 65536).toNat % 256]) = true) : decode c pc = .ok (.ifCond .ne n, 3) := dk_2s (f := fun x => .ifCond .ne x) rfl h
theorem dk_if_icmp_ne {c : ByteArray} {pc : Nat} {n : Int} (h : (decide (-32768 ≤ n ∧ n < 32768) && dk_b c pc [160, (n % 65536).toNat / 256, (n % 65536).toNat % 256]) = true) : decode c pc = .ok (.if_icmp .ne n, 3) := dk_2s (f := fun x => .if_icmp .ne x) rfl h
theorem dk_ifCond_lt {c : ByteArray} {pc : Nat} {n : Int} (h : (decide (-32768 ≤ n ∧ n < 32768) && dk_b c pc [155, (n % 65536).toNat / 256, (n % 65536).toNat % 256]) = true) : decode c pc = .ok (.ifCond .lt n, 3) := dk_2s (f := fun x => .ifCond .lt x) rfl h
theorem dk_if_icmp_lt {c : ByteArray} {pc : Nat} {n : Int} (h : (decide (-32768 ≤ n ∧ n < 32768) && dk_b c pc [161, (n % 65536).toNat / 256, (n % 65536).toNat % 256]) = true) : decode c pc = .ok (.if_icmp .lt n, 3) := dk_2s (f := fun x => .if_icmp .lt x) rfl h
theorem dk_ifCond_ge {c : ByteArray} {pc : Nat} {n : Int} (h : (decide (-32768 ≤ n ∧ n < 32768) && dk_b c pc [156, (n % 65536).toNat / 256, (n % 65536).toNat % 256]) = true) : decode c pc = .ok (.ifCond .ge n, 3) := dk_2s (f := fun x => .ifCond .ge x) rfl h
theorem dk_if_icmp_ge {c : ByteArray} {pc : Nat} {n : Int} (h : (decide (-32768 ≤ n ∧ n < 32768) && dk_b c pc [162, (n % 65536).toNat / 256, (n % 65536).toNat % 256]) = true) : decode c pc = .ok (.if_icmp .ge n, 3) := dk_2s (f := fun x => .if_icmp .ge x) rfl h
theorem dk_ifCond_gt {c : ByteArray} {pc : Nat} {n : Int} (h : (decide (-32768 ≤ n ∧ n < 32768) && dk_b c pc [157, (n % 65536).toNat / 256, (n % 65536).toNat % 256]) = true) : decode c pc = .ok (.ifCond .gt n, 3) := dk_2s (f := fun x => .ifCond .gt x) rfl h
theorem dk_if_icmp_gt {c : ByteArray} {pc : Nat} {n : Int} (h : (decide (-32768 ≤ n ∧ n < 32768) && dk_b c pc [163, (n % 65536).toNat / 256, (n % 65536).toNat % 256]) = true) : decode c pc = .ok (.if_icmp .gt n, 3) := dk_2s (f := fun x => .if_icmp .gt x) rfl h
theorem dk_ifCond_le {c : ByteArray} {pc : Nat} {n : Int} (h : (decide (-32768 ≤ n ∧ n < 32768) && dk_b c pc [158, (n % 65536).toNat / 256, (n % 65536).toNat % 256]) = true) : decode c pc = .ok (.ifCond .le n, 3) := dk_2s (f := fun x => .ifCond .le x) rfl h
theorem dk_if_icmp_le {c : ByteArray} {pc : Nat} {n : Int} (h : (decide (-32768 ≤ n ∧ n < 32768) && dk_b c pc [164, (n % 65536).toNat / 256, (n % 65536).toNat % 256]) = true) : decode c pc = .ok (.if_icmp .le n, 3) := dk_2s (f := fun x => .if_icmp .le x) rfl h
