theorem tw_oi2 : (.code ⟨"java/lang/Object", "<init>", "()V"⟩ ⟨#[0xb1]⟩ 1 none : Cond) ∈ lw_t2 := t2_1 (List.mem_of_getElem? (i := 32) rfl) rfl
def hv1 {α : Type} (E : Nat → α) (R : List Nat) (G : Nat → α) : Nat → α := fun r => bif nel r R then G r else E r
theorem hv1_e {α : Type} {E E' : Nat → α} {R : List Nat} (h : ∀ r, nel r R = false → E' r = E r) : E' = hv1 E R E' := by
  funext r
  unfold hv1
  cases q : nel r R with
  | true => rfl
  | false => exact h r q
theorem up1_ag {α : Type} {E E' : Nat → α} {R : List Nat} {k : Nat} {v : α} (hk : nel k R = true) (h : ∀ r, nel r R = false → E' r = E r) : ∀ r, nel r R = false → up1 E' k v r = E r := fun r hr => by
  rw [up1_n _ _ (fun e => by rw [e, hk] at hr; cases hr)]; exact h r hr
theorem hv1_ag {α : Type} {E E' G : Nat → α} {R R1 : List Nat} (hk : sub1 R1 R = true) (h : ∀ r, nel r R = false → E' r = E r) : ∀ r, nel r R = false → hv1 E' R1 G r = E r := fun r hr => by
  unfold hv1
  cases q : nel r R1 with
  | true => have := List.all_eq_true.mp hk r (nel_mem q); rw [hr] at this; cases this
  | false => exact h r hr
theorem wxf_perm {g : gG} {J : Nat → Nat → Int32} {P : Nat → Nat → Nat → Option Nat} {E : Nat → Option Nat} {N : Nat → Nat} {dy dy' : List (Nat × Nat)} (hd : ∀ x, x ∈ dy ↔ x ∈ dy') (h : WXF g J P E N dy) : WXF g J P E N dy' := by
  have M : ∀ {r er : Nat}, LWF g J P E N dy r er → LWF g J P E N dy' r er := fun h => h.mono3 (fun x hx => (hd x).mp hx) (fun _ _ => rfl) (fun _ _ _ => rfl)
  obtain ⟨⟨h1, h2, h3, h4⟩, ⟨h5, h6, h7, h8⟩, ⟨t1, t2, t3, t4⟩⟩ := h
  exact ⟨⟨M h1, M h2, M h3, M h4⟩, ⟨M h5, M h6, M h7, M h8⟩, fun a ha => (t1 a ((hd _).mpr ha)).imp id fun ⟨b, x, y⟩ => ⟨b, x, (hd _).mp y⟩, fun a ha => (t2 a ((hd _).mpr ha)).imp fun b ⟨x, y⟩ => ⟨x, (hd _).mp y⟩, fun a ha => (t3 a ((hd _).mpr ha)).imp fun b ⟨x, y⟩ => ⟨x, (hd _).mp y⟩, fun a ha => (t4 a ((hd _).mpr ha)).imp fun b ⟨x, y, z⟩ => ⟨x, (hd _).mp y, z⟩⟩
theorem dX5_init_0 : decode cX5_init 0 = .ok (.aload_n 0, 1) := dk_aload_n_0 (by decide +kernel)
theorem dX5_init_1 : decode cX5_init 1 = .ok (.invokespecial 3, 3) := dk_invokespecial (by decide +kernel)
theorem dX5_init_4 : decode cX5_init 4 = .ok (.aload_n 0, 1) := dk_aload_n_0 (by decide +kernel)
theorem dX5_init_5 : decode cX5_init 5 = .ok (.aload_n 1, 1) := dk_aload_n_1 (by decide +kernel)
theorem dX5_init_6 : decode cX5_init 6 = .ok (.putfield 9, 3) := dk_putfield (by decide +kernel)
theorem dX5_init_9 : decode cX5_init 9 = .ok (.aload_n 0, 1) := dk_aload_n_0 (by decide +kernel)
theorem dX5_init_10 : decode cX5_init 10 = .ok (.iload_n 2, 1) := dk_iload_n_2 (by decide +kernel)
theorem dX5_init_11 : decode cX5_init 11 = .ok (.putfield 15, 3) := dk_putfield (by decide +kernel)
theorem dX5_init_14 : decode cX5_init 14 = .ok (.aload_n 1, 1) := dk_aload_n_1 (by decide +kernel)
theorem dX5_init_15 : decode cX5_init 15 = .ok (.ifnull 9, 3) := dk_ifnull (by decide +kernel)
theorem dX5_init_18 : decode cX5_init 18 = .ok (.iload_n 3, 1) := dk_iload_n_3 (by decide +kernel)
theorem dX5_init_19 : decode cX5_init 19 = .ok (.bipush 11, 2) := dk_bipush (by decide +kernel)
theorem dX5_init_21 : decode cX5_init 21 = .ok (.if_icmp .le 7, 3) := dk_if_icmp_le (by decide +kernel)
theorem dX5_init_24 : decode cX5_init 24 = .ok (.iconst 0, 1) := dk_iconst_0 (by decide +kernel)
theorem dX5_init_25 : decode cX5_init 25 = .ok (.goto 6, 3) := dk_goto (by decide +kernel)
theorem dX5_init_28 : decode cX5_init 28 = .ok (.iconst 1, 1) := dk_iconst_1 (by decide +kernel)
theorem dX5_init_29 : decode cX5_init 29 = .ok (.iload_n 3, 1) := dk_iload_n_3 (by decide +kernel)
theorem dX5_init_30 : decode cX5_init 30 = .ok (.ishl, 1) := dk_ishl (by decide +kernel)
theorem dX5_init_31 : decode cX5_init 31 = .ok (.istore 4, 2) := dk_istore (by decide +kernel)
theorem dX5_init_33 : decode cX5_init 33 = .ok (.aload_n 0, 1) := dk_aload_n_0 (by decide +kernel)
theorem dX5_init_34 : decode cX5_init 34 = .ok (.aload_n 1, 1) := dk_aload_n_1 (by decide +kernel)
theorem dX5_init_35 : decode cX5_init 35 = .ok (.ifnonnull 7, 3) := dk_ifnonnull (by decide +kernel)
theorem dX5_init_42 : decode cX5_init 42 = .ok (.aload_n 1, 1) := dk_aload_n_1 (by decide +kernel)
theorem dX5_init_43 : decode cX5_init 43 = .ok (.getfield 19, 3) := dk_getfield (by decide +kernel)
theorem dX5_init_46 : decode cX5_init 46 = .ok (.iload 4, 2) := dk_iload (by decide +kernel)
theorem dX5_init_48 : decode cX5_init 48 = .ok (.ior, 1) := dk_ior (by decide +kernel)
theorem dX5_init_49 : decode cX5_init 49 = .ok (.putfield 19, 3) := dk_putfield (by decide +kernel)
theorem dX5_init_52 : decode cX5_init 52 = .ok (.return_, 1) := dk_return_ (by decide +kernel)
theorem dX5_init_38 : decode cX5_init 38 = .ok (.iconst 0, 1) := dk_iconst_0 (by decide +kernel)
theorem dX5_init_39 : decode cX5_init 39 = .ok (.goto 10, 3) := dk_goto (by decide +kernel)
theorem dX0_init_0 : decode cX0_init 0 = .ok (.aload_n 0, 1) := dk_aload_n_0 (by decide +kernel)
theorem dX0_init_1 : decode cX0_init 1 = .ok (.invokespecial 1, 3) := dk_invokespecial (by decide +kernel)
theorem dX0_init_4 : decode cX0_init 4 = .ok (.aload_n 0, 1) := dk_aload_n_0 (by decide +kernel)
theorem dX0_init_5 : decode cX0_init 5 = .ok (.aload_n 1, 1) := dk_aload_n_1 (by decide +kernel)
theorem dX0_init_6 : decode cX0_init 6 = .ok (.putfield 7, 3) := dk_putfield (by decide +kernel)
theorem dX0_init_9 : decode cX0_init 9 = .ok (.aload_n 0, 1) := dk_aload_n_0 (by decide +kernel)
theorem dX0_init_10 : decode cX0_init 10 = .ok (.iload_n 2, 1) := dk_iload_n_2 (by decide +kernel)
theorem dX0_init_11 : decode cX0_init 11 = .ok (.putfield 13, 3) := dk_putfield (by decide +kernel)
theorem dX0_init_14 : decode cX0_init 14 = .ok (.aload_n 0, 1) := dk_aload_n_0 (by decide +kernel)
theorem dX0_init_15 : decode cX0_init 15 = .ok (.iload_n 3, 1) := dk_iload_n_3 (by decide +kernel)
theorem dX0_init_16 : decode cX0_init 16 = .ok (.putfield 17, 3) := dk_putfield (by decide +kernel)
theorem dX0_init_19 : decode cX0_init 19 = .ok (.return_, 1) := dk_return_ (by decide +kernel)
theorem dX1_init_0 : decode cX1_init 0 = .ok (.aload_n 0, 1) := dk_aload_n_0 (by decide +kernel)
theorem dX1_init_1 : decode cX1_init 1 = .ok (.invokespecial 1, 3) := dk_invokespecial (by decide +kernel)
theorem dX1_init_4 : decode cX1_init 4 = .ok (.aload_n 0, 1) := dk_aload_n_0 (by decide +kernel)
theorem dX1_init_5 : decode cX1_init 5 = .ok (.aload_n 1, 1) := dk_aload_n_1 (by decide +kernel)
theorem dX1_init_6 : decode cX1_init 6 = .ok (.putfield 7, 3) := dk_putfield (by decide +kernel)
theorem dX1_init_9 : decode cX1_init 9 = .ok (.aload_n 0, 1) := dk_aload_n_0 (by decide +kernel)
theorem dX1_init_10 : decode cX1_init 10 = .ok (.iload_n 2, 1) := dk_iload_n_2 (by decide +kernel)
theorem dX1_init_11 : decode cX1_init 11 = .ok (.putfield 13, 3) := dk_putfield (by decide +kernel)
theorem dX1_init_14 : decode cX1_init 14 = .ok (.aload_n 0, 1) := dk_aload_n_0 (by decide +kernel)
theorem dX1_init_15 : decode cX1_init 15 = .ok (.iload_n 3, 1) := dk_iload_n_3 (by decide +kernel)
theorem dX1_init_16 : decode cX1_init 16 = .ok (.putfield 17, 3) := dk_putfield (by decide +kernel)
theorem dX1_init_19 : decode cX1_init 19 = .ok (.aload_n 0, 1) := dk_aload_n_0 (by decide +kernel)
theorem dX1_init_20 : decode cX1_init 20 = .ok (.iload 4, 2) := dk_iload (by decide +kernel)
theorem dX1_init_22 : decode cX1_init 22 = .ok (.putfield 20, 3) := dk_putfield (by decide +kernel)
theorem dX1_init_25 : decode cX1_init 25 = .ok (.return_, 1) := dk_return_ (by decide +kernel)
theorem dX4_init_0 : decode cX4_init 0 = .ok (.aload_n 0, 1) := dk_aload_n_0 (by decide +kernel)
theorem dX4_init_1 : decode cX4_init 1 = .ok (.invokespecial 3, 3) := dk_invokespecial (by decide +kernel)
theorem dX4_init_4 : decode cX4_init 4 = .ok (.aload_n 0, 1) := dk_aload_n_0 (by decide +kernel)
theorem dX4_init_5 : decode cX4_init 5 = .ok (.iconst (-1), 1) := dk_iconst_m1 (by decide +kernel)
theorem dX4_init_6 : decode cX4_init 6 = .ok (.putfield 9, 3) := dk_putfield (by decide +kernel)
theorem dX4_init_9 : decode cX4_init 9 = .ok (.aload_n 0, 1) := dk_aload_n_0 (by decide +kernel)
theorem dX4_init_10 : decode cX4_init 10 = .ok (.iconst (-1), 1) := dk_iconst_m1 (by decide +kernel)
theorem dX4_init_11 : decode cX4_init 11 = .ok (.putfield 15, 3) := dk_putfield (by decide +kernel)
theorem dX4_init_14 : decode cX4_init 14 = .ok (.aload_n 0, 1) := dk_aload_n_0 (by decide +kernel)
theorem dX4_init_15 : decode cX4_init 15 = .ok (.iload_n 1, 1) := dk_iload_n_1 (by decide +kernel)
theorem dX4_init_16 : decode cX4_init 16 = .ok (.putfield 18, 3) := dk_putfield (by decide +kernel)
theorem dX4_init_19 : decode cX4_init 19 = .ok (.return_, 1) := dk_return_ (by decide +kernel)
theorem dX6_init_0 : decode cX6_init 0 = .ok (.aload_n 0, 1) := dk_aload_n_0 (by decide +kernel)
theorem dX6_init_1 : decode cX6_init 1 = .ok (.invokespecial 3, 3) := dk_invokespecial (by decide +kernel)
theorem dX6_init_4 : decode cX6_init 4 = .ok (.aload_n 0, 1) := dk_aload_n_0 (by decide +kernel)
theorem dX6_init_5 : decode cX6_init 5 = .ok (.iconst (-1), 1) := dk_iconst_m1 (by decide +kernel)
theorem dX6_init_6 : decode cX6_init 6 = .ok (.putfield 9, 3) := dk_putfield (by decide +kernel)
theorem dX6_init_9 : decode cX6_init 9 = .ok (.aload_n 0, 1) := dk_aload_n_0 (by decide +kernel)
theorem dX6_init_10 : decode cX6_init 10 = .ok (.iload_n 1, 1) := dk_iload_n_1 (by decide +kernel)
theorem dX6_init_11 : decode cX6_init 11 = .ok (.putfield 15, 3) := dk_putfield (by decide +kernel)
theorem dX6_init_14 : decode cX6_init 14 = .ok (.return_, 1) := dk_return_ (by decide +kernel)
theorem dX11_node_0 : decode cX11_node 0 = .ok (.aload_n 0, 1) := dk_aload_n_0 (by decide +kernel)
theorem dX11_node_1 : decode cX11_node 1 = .ok (.getfield 10, 3) := dk_getfield (by decide +kernel)
theorem dX11_node_4 : decode cX11_node 4 = .ok (.iload_n 1, 1) := dk_iload_n_1 (by decide +kernel)
theorem dX11_node_5 : decode cX11_node 5 = .ok (.invokevirtual 86, 3) := dk_invokevirtual (by decide +kernel)
theorem dX11_node_8 : decode cX11_node 8 = .ok (.astore_n 3, 1) := dk_astore_n_3 (by decide +kernel)
theorem dX11_node_9 : decode cX11_node 9 = .ok (.aload_n 3, 1) := dk_aload_n_3 (by decide +kernel)
theorem dX11_node_10 : decode cX11_node 10 = .ok (.ifnonnull 9, 3) := dk_ifnonnull (by decide +kernel)
theorem dX11_node_13 : decode cX11_node 13 = .ok (.aload_n 0, 1) := dk_aload_n_0 (by decide +kernel)
theorem dX11_node_14 : decode cX11_node 14 = .ok (.iconst (-1), 1) := dk_iconst_m1 (by decide +kernel)
theorem dX11_node_15 : decode cX11_node 15 = .ok (.invokevirtual 67, 3) := dk_invokevirtual (by decide +kernel)
theorem dX11_node_18 : decode cX11_node 18 = .ok (.ireturn, 1) := dk_ireturn (by decide +kernel)
theorem dX11_node_19 : decode cX11_node 19 = .ok (.iload_n 2, 1) := dk_iload_n_2 (by decide +kernel)
theorem dX11_node_20 : decode cX11_node 20 = .ok (.iconst 1, 1) := dk_iconst_1 (by decide +kernel)
theorem dX11_node_21 : decode cX11_node 21 = .ok (.if_icmp .ge 10, 3) := dk_if_icmp_ge (by decide +kernel)
theorem dX11_node_24 : decode cX11_node 24 = .ok (.aload_n 0, 1) := dk_aload_n_0 (by decide +kernel)
theorem dX11_node_25 : decode cX11_node 25 = .ok (.bipush (-4), 2) := dk_bipush (by decide +kernel)
theorem dX11_node_27 : decode cX11_node 27 = .ok (.invokevirtual 67, 3) := dk_invokevirtual (by decide +kernel)
theorem dX11_node_30 : decode cX11_node 30 = .ok (.ireturn, 1) := dk_ireturn (by decide +kernel)
theorem dX11_node_31 : decode cX11_node 31 = .ok (.aload_n 0, 1) := dk_aload_n_0 (by decide +kernel)
theorem dX11_node_32 : decode cX11_node 32 = .ok (.getfield 10, 3) := dk_getfield (by decide +kernel)
theorem dX11_node_35 : decode cX11_node 35 = .ok (.getfield 90, 3) := dk_getfield (by decide +kernel)
theorem dX11_node_38 : decode cX11_node 38 = .ok (.invokevirtual 93, 3) := dk_invokevirtual (by decide +kernel)
theorem dX11_node_41 : decode cX11_node 41 = .ok (.istore 4, 2) := dk_istore (by decide +kernel)
theorem dX11_node_43 : decode cX11_node 43 = .ok (.iload_n 2, 1) := dk_iload_n_2 (by decide +kernel)
theorem dX11_node_44 : decode cX11_node 44 = .ok (.bipush 99, 2) := dk_bipush (by decide +kernel)
theorem dX11_node_46 : decode cX11_node 46 = .ok (.if_icmp .gt 10, 3) := dk_if_icmp_gt (by decide +kernel)
theorem dX11_node_49 : decode cX11_node 49 = .ok (.iload 4, 2) := dk_iload (by decide +kernel)
theorem dX11_node_51 : decode cX11_node 51 = .ok (.bipush 20, 2) := dk_bipush (by decide +kernel)
theorem dX11_node_53 : decode cX11_node 53 = .ok (.if_icmp .lt 10, 3) := dk_if_icmp_lt (by decide +kernel)
theorem dX11_node_56 : decode cX11_node 56 = .ok (.aload_n 0, 1) := dk_aload_n_0 (by decide +kernel)
theorem dX11_node_57 : decode cX11_node 57 = .ok (.bipush (-6), 2) := dk_bipush (by decide +kernel)
theorem dX11_node_59 : decode cX11_node 59 = .ok (.invokevirtual 67, 3) := dk_invokevirtual (by decide +kernel)
theorem dX11_node_62 : decode cX11_node 62 = .ok (.ireturn, 1) := dk_ireturn (by decide +kernel)
theorem dX11_node_63 : decode cX11_node 63 = .ok (.aload_n 0, 1) := dk_aload_n_0 (by decide +kernel)
theorem dX11_node_64 : decode cX11_node 64 = .ok (.getfield 10, 3) := dk_getfield (by decide +kernel)
theorem dX11_node_67 : decode cX11_node 67 = .ok (.getfield 90, 3) := dk_getfield (by decide +kernel)
theorem dX11_node_70 : decode cX11_node 70 = .ok (.new 97, 3) := dk_new (by decide +kernel)
theorem dX11_node_73 : decode cX11_node 73 = .ok (.dup, 1) := dk_dup (by decide +kernel)
theorem dX11_node_74 : decode cX11_node 74 = .ok (.aload_n 3, 1) := dk_aload_n_3 (by decide +kernel)
theorem dX11_node_75 : decode cX11_node 75 = .ok (.iload_n 2, 1) := dk_iload_n_2 (by decide +kernel)
theorem dX11_node_76 : decode cX11_node 76 = .ok (.iload 4, 2) := dk_iload (by decide +kernel)
theorem dX11_node_78 : decode cX11_node 78 = .ok (.invokespecial 99, 3) := dk_invokespecial (by decide +kernel)
theorem dX11_node_81 : decode cX11_node 81 = .ok (.invokevirtual 102, 3) := dk_invokevirtual (by decide +kernel)
theorem dX11_node_84 : decode cX11_node 84 = .ok (.pop, 1) := dk_pop (by decide +kernel)
theorem dX11_node_85 : decode cX11_node 85 = .ok (.iload 4, 2) := dk_iload (by decide +kernel)
theorem dX11_node_87 : decode cX11_node 87 = .ok (.ireturn, 1) := dk_ireturn (by decide +kernel)
theorem dX11_cut_0 : decode cX11_cut 0 = .ok (.aload_n 0, 1) := dk_aload_n_0 (by decide +kernel)
theorem dX11_cut_1 : decode cX11_cut 1 = .ok (.getfield 10, 3) := dk_getfield (by decide +kernel)
theorem dX11_cut_4 : decode cX11_cut 4 = .ok (.iload_n 1, 1) := dk_iload_n_1 (by decide +kernel)
theorem dX11_cut_5 : decode cX11_cut 5 = .ok (.invokevirtual 86, 3) := dk_invokevirtual (by decide +kernel)
theorem dX11_cut_8 : decode cX11_cut 8 = .ok (.astore 4, 2) := dk_astore (by decide +kernel)
theorem dX11_cut_10 : decode cX11_cut 10 = .ok (.aload 4, 2) := dk_aload (by decide +kernel)
theorem dX11_cut_12 : decode cX11_cut 12 = .ok (.ifnull 11, 3) := dk_ifnull (by decide +kernel)
theorem dX11_cut_15 : decode cX11_cut 15 = .ok (.aload 4, 2) := dk_aload (by decide +kernel)
theorem dX11_cut_17 : decode cX11_cut 17 = .ok (.getfield 109, 3) := dk_getfield (by decide +kernel)
theorem dX11_cut_20 : decode cX11_cut 20 = .ok (.ifnonnull 9, 3) := dk_ifnonnull (by decide +kernel)
theorem dX11_cut_23 : decode cX11_cut 23 = .ok (.aload_n 0, 1) := dk_aload_n_0 (by decide +kernel)
theorem dX11_cut_24 : decode cX11_cut 24 = .ok (.iconst (-1), 1) := dk_iconst_m1 (by decide +kernel)
theorem dX11_cut_25 : decode cX11_cut 25 = .ok (.invokevirtual 67, 3) := dk_invokevirtual (by decide +kernel)
theorem dX11_cut_28 : decode cX11_cut 28 = .ok (.ireturn, 1) := dk_ireturn (by decide +kernel)
theorem dX11_cut_29 : decode cX11_cut 29 = .ok (.iload_n 2, 1) := dk_iload_n_2 (by decide +kernel)
theorem dX11_cut_30 : decode cX11_cut 30 = .ok (.aload_n 0, 1) := dk_aload_n_0 (by decide +kernel)
theorem dX11_cut_31 : decode cX11_cut 31 = .ok (.getfield 19, 3) := dk_getfield (by decide +kernel)
theorem dX11_cut_34 : decode cX11_cut 34 = .ok (.getfield 71, 3) := dk_getfield (by decide +kernel)
theorem dX11_cut_37 : decode cX11_cut 37 = .ok (.if_icmp .lt 8, 3) := dk_if_icmp_lt (by decide +kernel)
theorem dX11_cut_40 : decode cX11_cut 40 = .ok (.iload_n 3, 1) := dk_iload_n_3 (by decide +kernel)
theorem dX11_cut_41 : decode cX11_cut 41 = .ok (.iload_n 2, 1) := dk_iload_n_2 (by decide +kernel)
theorem dX11_cut_42 : decode cX11_cut 42 = .ok (.if_icmp .ge 10, 3) := dk_if_icmp_ge (by decide +kernel)
theorem dX11_cut_45 : decode cX11_cut 45 = .ok (.aload_n 0, 1) := dk_aload_n_0 (by decide +kernel)
theorem dX11_cut_46 : decode cX11_cut 46 = .ok (.bipush (-4), 2) := dk_bipush (by decide +kernel)
theorem dX11_cut_48 : decode cX11_cut 48 = .ok (.invokevirtual 67, 3) := dk_invokevirtual (by decide +kernel)
theorem dX11_cut_51 : decode cX11_cut 51 = .ok (.ireturn, 1) := dk_ireturn (by decide +kernel)
theorem dX11_cut_52 : decode cX11_cut 52 = .ok (.iload_n 3, 1) := dk_iload_n_3 (by decide +kernel)
theorem dX11_cut_53 : decode cX11_cut 53 = .ok (.sipush 9999, 3) := dk_sipush (by decide +kernel)
theorem dX11_cut_56 : decode cX11_cut 56 = .ok (.if_icmp .gt 18, 3) := dk_if_icmp_gt (by decide +kernel)
theorem dX11_cut_59 : decode cX11_cut 59 = .ok (.aload_n 0, 1) := dk_aload_n_0 (by decide +kernel)
theorem dX11_cut_60 : decode cX11_cut 60 = .ok (.getfield 10, 3) := dk_getfield (by decide +kernel)
theorem dX11_cut_63 : decode cX11_cut 63 = .ok (.getfield 113, 3) := dk_getfield (by decide +kernel)
theorem dX11_cut_66 : decode cX11_cut 66 = .ok (.invokevirtual 93, 3) := dk_invokevirtual (by decide +kernel)
theorem dX11_cut_69 : decode cX11_cut 69 = .ok (.bipush 40, 2) := dk_bipush (by decide +kernel)
theorem dX11_cut_71 : decode cX11_cut 71 = .ok (.if_icmp .lt 10, 3) := dk_if_icmp_lt (by decide +kernel)
theorem dX11_cut_74 : decode cX11_cut 74 = .ok (.aload_n 0, 1) := dk_aload_n_0 (by decide +kernel)
theorem dX11_cut_75 : decode cX11_cut 75 = .ok (.bipush (-6), 2) := dk_bipush (by decide +kernel)
theorem dX11_cut_77 : decode cX11_cut 77 = .ok (.invokevirtual 67, 3) := dk_invokevirtual (by decide +kernel)
theorem dX11_cut_80 : decode cX11_cut 80 = .ok (.ireturn, 1) := dk_ireturn (by decide +kernel)
theorem dX11_cut_81 : decode cX11_cut 81 = .ok (.aload_n 0, 1) := dk_aload_n_0 (by decide +kernel)
theorem dX11_cut_82 : decode cX11_cut 82 = .ok (.getfield 10, 3) := dk_getfield (by decide +kernel)
theorem dX11_cut_85 : decode cX11_cut 85 = .ok (.getfield 113, 3) := dk_getfield (by decide +kernel)
theorem dX11_cut_88 : decode cX11_cut 88 = .ok (.new 116, 3) := dk_new (by decide +kernel)
theorem dX11_cut_91 : decode cX11_cut 91 = .ok (.dup, 1) := dk_dup (by decide +kernel)
theorem dX11_cut_92 : decode cX11_cut 92 = .ok (.aload 4, 2) := dk_aload (by decide +kernel)
theorem dX11_cut_94 : decode cX11_cut 94 = .ok (.iload_n 2, 1) := dk_iload_n_2 (by decide +kernel)
theorem dX11_cut_95 : decode cX11_cut 95 = .ok (.iload_n 3, 1) := dk_iload_n_3 (by decide +kernel)
theorem dX11_cut_96 : decode cX11_cut 96 = .ok (.invokespecial 118, 3) := dk_invokespecial (by decide +kernel)
theorem dX11_cut_99 : decode cX11_cut 99 = .ok (.invokevirtual 102, 3) := dk_invokevirtual (by decide +kernel)
theorem dX11_cut_102 : decode cX11_cut 102 = .ok (.pop, 1) := dk_pop (by decide +kernel)
theorem dX11_cut_103 : decode cX11_cut 103 = .ok (.aload_n 0, 1) := dk_aload_n_0 (by decide +kernel)
theorem dX11_cut_104 : decode cX11_cut 104 = .ok (.getfield 10, 3) := dk_getfield (by decide +kernel)
theorem dX11_cut_107 : decode cX11_cut 107 = .ok (.getfield 113, 3) := dk_getfield (by decide +kernel)
theorem dX11_cut_110 : decode cX11_cut 110 = .ok (.invokevirtual 93, 3) := dk_invokevirtual (by decide +kernel)
theorem dX11_cut_113 : decode cX11_cut 113 = .ok (.ireturn, 1) := dk_ireturn (by decide +kernel)
theorem dX11_home_0 : decode cX11_home 0 = .ok (.aload_n 0, 1) := dk_aload_n_0 (by decide +kernel)
theorem dX11_home_1 : decode cX11_home 1 = .ok (.getfield 10, 3) := dk_getfield (by decide +kernel)
theorem dX11_home_4 : decode cX11_home 4 = .ok (.iload_n 1, 1) := dk_iload_n_1 (by decide +kernel)
theorem dX11_home_5 : decode cX11_home 5 = .ok (.invokevirtual 86, 3) := dk_invokevirtual (by decide +kernel)
theorem dX11_home_8 : decode cX11_home 8 = .ok (.astore 5, 2) := dk_astore (by decide +kernel)
theorem dX11_home_10 : decode cX11_home 10 = .ok (.aload 5, 2) := dk_aload (by decide +kernel)
theorem dX11_home_12 : decode cX11_home 12 = .ok (.ifnonnull 9, 3) := dk_ifnonnull (by decide +kernel)
theorem dX11_home_15 : decode cX11_home 15 = .ok (.aload_n 0, 1) := dk_aload_n_0 (by decide +kernel)
theorem dX11_home_16 : decode cX11_home 16 = .ok (.iconst (-1), 1) := dk_iconst_m1 (by decide +kernel)
theorem dX11_home_17 : decode cX11_home 17 = .ok (.invokevirtual 67, 3) := dk_invokevirtual (by decide +kernel)
theorem dX11_home_20 : decode cX11_home 20 = .ok (.ireturn, 1) := dk_ireturn (by decide +kernel)
theorem dX11_home_21 : decode cX11_home 21 = .ok (.iload_n 2, 1) := dk_iload_n_2 (by decide +kernel)
theorem dX11_home_22 : decode cX11_home 22 = .ok (.iconst 1, 1) := dk_iconst_1 (by decide +kernel)
theorem dX11_home_23 : decode cX11_home 23 = .ok (.if_icmp .lt 12, 3) := dk_if_icmp_lt (by decide +kernel)
theorem dX11_home_26 : decode cX11_home 26 = .ok (.iload_n 3, 1) := dk_iload_n_3 (by decide +kernel)
theorem dX11_home_27 : decode cX11_home 27 = .ok (.ifCond .lt 8, 3) := dk_ifCond_lt (by decide +kernel)
theorem dX11_home_30 : decode cX11_home 30 = .ok (.iload 4, 2) := dk_iload (by decide +kernel)
theorem dX11_home_32 : decode cX11_home 32 = .ok (.ifCond .ge 10, 3) := dk_ifCond_ge (by decide +kernel)
theorem dX11_home_35 : decode cX11_home 35 = .ok (.aload_n 0, 1) := dk_aload_n_0 (by decide +kernel)
theorem dX11_home_36 : decode cX11_home 36 = .ok (.bipush (-4), 2) := dk_bipush (by decide +kernel)
theorem dX11_home_38 : decode cX11_home 38 = .ok (.invokevirtual 67, 3) := dk_invokevirtual (by decide +kernel)
theorem dX11_home_41 : decode cX11_home 41 = .ok (.ireturn, 1) := dk_ireturn (by decide +kernel)
theorem dX11_home_42 : decode cX11_home 42 = .ok (.aload_n 0, 1) := dk_aload_n_0 (by decide +kernel)
theorem dX11_home_43 : decode cX11_home 43 = .ok (.getfield 10, 3) := dk_getfield (by decide +kernel)
theorem dX11_home_46 : decode cX11_home 46 = .ok (.getfield 129, 3) := dk_getfield (by decide +kernel)
theorem dX11_home_49 : decode cX11_home 49 = .ok (.invokevirtual 93, 3) := dk_invokevirtual (by decide +kernel)
theorem dX11_home_52 : decode cX11_home 52 = .ok (.istore 6, 2) := dk_istore (by decide +kernel)
theorem dX11_home_54 : decode cX11_home 54 = .ok (.iload_n 2, 1) := dk_iload_n_2 (by decide +kernel)
theorem dX11_home_55 : decode cX11_home 55 = .ok (.bipush 9, 2) := dk_bipush (by decide +kernel)
theorem dX11_home_57 : decode cX11_home 57 = .ok (.if_icmp .gt 23, 3) := dk_if_icmp_gt (by decide +kernel)
theorem dX11_home_60 : decode cX11_home 60 = .ok (.iload_n 3, 1) := dk_iload_n_3 (by decide +kernel)
theorem dX11_home_61 : decode cX11_home 61 = .ok (.ldc 132, 2) := dk_ldc (by decide +kernel)
theorem dX11_home_63 : decode cX11_home 63 = .ok (.if_icmp .gt 17, 3) := dk_if_icmp_gt (by decide +kernel)
theorem dX11_home_66 : decode cX11_home 66 = .ok (.iload 4, 2) := dk_iload (by decide +kernel)
theorem dX11_home_68 : decode cX11_home 68 = .ok (.ldc 132, 2) := dk_ldc (by decide +kernel)
theorem dX11_home_70 : decode cX11_home 70 = .ok (.if_icmp .gt 10, 3) := dk_if_icmp_gt (by decide +kernel)
theorem dX11_home_73 : decode cX11_home 73 = .ok (.iload 6, 2) := dk_iload (by decide +kernel)
theorem dX11_home_75 : decode cX11_home 75 = .ok (.bipush 40, 2) := dk_bipush (by decide +kernel)
theorem dX11_home_77 : decode cX11_home 77 = .ok (.if_icmp .lt 10, 3) := dk_if_icmp_lt (by decide +kernel)
theorem dX11_home_80 : decode cX11_home 80 = .ok (.aload_n 0, 1) := dk_aload_n_0 (by decide +kernel)
theorem dX11_home_81 : decode cX11_home 81 = .ok (.bipush (-6), 2) := dk_bipush (by decide +kernel)
theorem dX11_home_83 : decode cX11_home 83 = .ok (.invokevirtual 67, 3) := dk_invokevirtual (by decide +kernel)
theorem dX11_home_86 : decode cX11_home 86 = .ok (.ireturn, 1) := dk_ireturn (by decide +kernel)
theorem dX11_home_87 : decode cX11_home 87 = .ok (.aload_n 0, 1) := dk_aload_n_0 (by decide +kernel)
theorem dX11_home_88 : decode cX11_home 88 = .ok (.getfield 10, 3) := dk_getfield (by decide +kernel)
theorem dX11_home_91 : decode cX11_home 91 = .ok (.getfield 129, 3) := dk_getfield (by decide +kernel)
theorem dX11_home_94 : decode cX11_home 94 = .ok (.new 133, 3) := dk_new (by decide +kernel)
theorem dX11_home_97 : decode cX11_home 97 = .ok (.dup, 1) := dk_dup (by decide +kernel)
theorem dX11_home_98 : decode cX11_home 98 = .ok (.aload 5, 2) := dk_aload (by decide +kernel)
theorem dX11_home_100 : decode cX11_home 100 = .ok (.iload_n 2, 1) := dk_iload_n_2 (by decide +kernel)
theorem dX11_home_101 : decode cX11_home 101 = .ok (.iload_n 3, 1) := dk_iload_n_3 (by decide +kernel)
theorem dX11_home_102 : decode cX11_home 102 = .ok (.iload 4, 2) := dk_iload (by decide +kernel)
theorem dX11_home_104 : decode cX11_home 104 = .ok (.invokespecial 135, 3) := dk_invokespecial (by decide +kernel)
theorem dX11_home_107 : decode cX11_home 107 = .ok (.invokevirtual 102, 3) := dk_invokevirtual (by decide +kernel)
theorem dX11_home_110 : decode cX11_home 110 = .ok (.pop, 1) := dk_pop (by decide +kernel)
theorem dX11_home_111 : decode cX11_home 111 = .ok (.iload 6, 2) := dk_iload (by decide +kernel)
theorem dX11_home_113 : decode cX11_home 113 = .ok (.ireturn, 1) := dk_ireturn (by decide +kernel)
theorem dX11_reader_0 : decode cX11_reader 0 = .ok (.iload_n 1, 1) := dk_iload_n_1 (by decide +kernel)
theorem dX11_reader_1 : decode cX11_reader 1 = .ok (.invokestatic 119, 3) := dk_invokestatic (by decide +kernel)
theorem dX11_reader_4 : decode cX11_reader 4 = .ok (.istore_n 2, 1) := dk_istore_n_2 (by decide +kernel)
theorem dX11_reader_5 : decode cX11_reader 5 = .ok (.iload_n 2, 1) := dk_iload_n_2 (by decide +kernel)
theorem dX11_reader_6 : decode cX11_reader 6 = .ok (.ifCond .eq 9, 3) := dk_ifCond_eq (by decide +kernel)
theorem dX11_reader_9 : decode cX11_reader 9 = .ok (.aload_n 0, 1) := dk_aload_n_0 (by decide +kernel)
theorem dX11_reader_10 : decode cX11_reader 10 = .ok (.iload_n 2, 1) := dk_iload_n_2 (by decide +kernel)
theorem dX11_reader_11 : decode cX11_reader 11 = .ok (.invokevirtual 67, 3) := dk_invokevirtual (by decide +kernel)
theorem dX11_reader_14 : decode cX11_reader 14 = .ok (.ireturn, 1) := dk_ireturn (by decide +kernel)
theorem dX11_reader_15 : decode cX11_reader 15 = .ok (.aload_n 0, 1) := dk_aload_n_0 (by decide +kernel)
theorem dX11_reader_16 : decode cX11_reader 16 = .ok (.getfield 26, 3) := dk_getfield (by decide +kernel)
theorem dX11_reader_19 : decode cX11_reader 19 = .ok (.invokevirtual 93, 3) := dk_invokevirtual (by decide +kernel)
theorem dX11_reader_22 : decode cX11_reader 22 = .ok (.istore_n 3, 1) := dk_istore_n_3 (by decide +kernel)
theorem dX11_reader_23 : decode cX11_reader 23 = .ok (.iload_n 3, 1) := dk_iload_n_3 (by decide +kernel)
theorem dX11_reader_24 : decode cX11_reader 24 = .ok (.bipush 8, 2) := dk_bipush (by decide +kernel)
theorem dX11_reader_26 : decode cX11_reader 26 = .ok (.if_icmp .lt 10, 3) := dk_if_icmp_lt (by decide +kernel)
theorem dX11_reader_29 : decode cX11_reader 29 = .ok (.aload_n 0, 1) := dk_aload_n_0 (by decide +kernel)
theorem dX11_reader_30 : decode cX11_reader 30 = .ok (.bipush (-6), 2) := dk_bipush (by decide +kernel)
theorem dX11_reader_32 : decode cX11_reader 32 = .ok (.invokevirtual 67, 3) := dk_invokevirtual (by decide +kernel)
theorem dX11_reader_35 : decode cX11_reader 35 = .ok (.ireturn, 1) := dk_ireturn (by decide +kernel)
theorem dX11_reader_36 : decode cX11_reader 36 = .ok (.aload_n 0, 1) := dk_aload_n_0 (by decide +kernel)
theorem dX11_reader_37 : decode cX11_reader 37 = .ok (.getfield 26, 3) := dk_getfield (by decide +kernel)
theorem dX11_reader_40 : decode cX11_reader 40 = .ok (.new 149, 3) := dk_new (by decide +kernel)
theorem dX11_reader_43 : decode cX11_reader 43 = .ok (.dup, 1) := dk_dup (by decide +kernel)
theorem dX11_reader_44 : decode cX11_reader 44 = .ok (.iload_n 1, 1) := dk_iload_n_1 (by decide +kernel)
theorem dX11_reader_45 : decode cX11_reader 45 = .ok (.invokespecial 151, 3) := dk_invokespecial (by decide +kernel)
theorem dX11_reader_48 : decode cX11_reader 48 = .ok (.invokevirtual 102, 3) := dk_invokevirtual (by decide +kernel)
theorem dX11_reader_51 : decode cX11_reader 51 = .ok (.pop, 1) := dk_pop (by decide +kernel)
theorem dX11_reader_52 : decode cX11_reader 52 = .ok (.iload_n 3, 1) := dk_iload_n_3 (by decide +kernel)
theorem dX11_reader_53 : decode cX11_reader 53 = .ok (.ireturn, 1) := dk_ireturn (by decide +kernel)
theorem dX11_news_0 : decode cX11_news 0 = .ok (.aload_n 0, 1) := dk_aload_n_0 (by decide +kernel)
theorem dX11_news_1 : decode cX11_news 1 = .ok (.getfield 33, 3) := dk_getfield (by decide +kernel)
theorem dX11_news_4 : decode cX11_news 4 = .ok (.invokevirtual 93, 3) := dk_invokevirtual (by decide +kernel)
theorem dX11_news_7 : decode cX11_news 7 = .ok (.istore_n 2, 1) := dk_istore_n_2 (by decide +kernel)
theorem dX11_news_8 : decode cX11_news 8 = .ok (.iload_n 2, 1) := dk_iload_n_2 (by decide +kernel)
theorem dX11_news_9 : decode cX11_news 9 = .ok (.bipush 40, 2) := dk_bipush (by decide +kernel)
theorem dX11_news_11 : decode cX11_news 11 = .ok (.if_icmp .lt 10, 3) := dk_if_icmp_lt (by decide +kernel)
theorem dX11_news_14 : decode cX11_news 14 = .ok (.aload_n 0, 1) := dk_aload_n_0 (by decide +kernel)
theorem dX11_news_15 : decode cX11_news 15 = .ok (.bipush (-6), 2) := dk_bipush (by decide +kernel)
theorem dX11_news_17 : decode cX11_news 17 = .ok (.invokevirtual 67, 3) := dk_invokevirtual (by decide +kernel)
theorem dX11_news_20 : decode cX11_news 20 = .ok (.ireturn, 1) := dk_ireturn (by decide +kernel)
theorem dX11_news_21 : decode cX11_news 21 = .ok (.aload_n 0, 1) := dk_aload_n_0 (by decide +kernel)
theorem dX11_news_22 : decode cX11_news 22 = .ok (.getfield 33, 3) := dk_getfield (by decide +kernel)
theorem dX11_news_25 : decode cX11_news 25 = .ok (.new 292, 3) := dk_new (by decide +kernel)
theorem dX11_news_28 : decode cX11_news 28 = .ok (.dup, 1) := dk_dup (by decide +kernel)
theorem dX11_news_29 : decode cX11_news 29 = .ok (.aload_n 0, 1) := dk_aload_n_0 (by decide +kernel)
theorem dX11_news_30 : decode cX11_news 30 = .ok (.getfield 19, 3) := dk_getfield (by decide +kernel)
theorem dX11_news_33 : decode cX11_news 33 = .ok (.getfield 71, 3) := dk_getfield (by decide +kernel)
theorem dX11_news_36 : decode cX11_news 36 = .ok (.invokespecial 294, 3) := dk_invokespecial (by decide +kernel)
theorem dX11_news_39 : decode cX11_news 39 = .ok (.invokevirtual 102, 3) := dk_invokevirtual (by decide +kernel)
theorem dX11_news_42 : decode cX11_news 42 = .ok (.pop, 1) := dk_pop (by decide +kernel)
theorem dX11_news_43 : decode cX11_news 43 = .ok (.iload_n 2, 1) := dk_iload_n_2 (by decide +kernel)
theorem dX11_news_44 : decode cX11_news 44 = .ok (.ireturn, 1) := dk_ireturn (by decide +kernel)
theorem dX11_could_0 : decode cX11_could 0 = .ok (.aload_n 0, 1) := dk_aload_n_0 (by decide +kernel)
theorem dX11_could_1 : decode cX11_could 1 = .ok (.getfield 10, 3) := dk_getfield (by decide +kernel)
theorem dX11_could_4 : decode cX11_could 4 = .ok (.iload_n 1, 1) := dk_iload_n_1 (by decide +kernel)
theorem dX11_could_5 : decode cX11_could 5 = .ok (.invokevirtual 86, 3) := dk_invokevirtual (by decide +kernel)
theorem dX11_could_8 : decode cX11_could 8 = .ok (.astore_n 3, 1) := dk_astore_n_3 (by decide +kernel)
theorem dX11_could_9 : decode cX11_could 9 = .ok (.aload_n 3, 1) := dk_aload_n_3 (by decide +kernel)
theorem dX11_could_10 : decode cX11_could 10 = .ok (.ifnonnull 9, 3) := dk_ifnonnull (by decide +kernel)
theorem dX11_could_13 : decode cX11_could 13 = .ok (.aload_n 0, 1) := dk_aload_n_0 (by decide +kernel)
theorem dX11_could_14 : decode cX11_could 14 = .ok (.iconst (-1), 1) := dk_iconst_m1 (by decide +kernel)
theorem dX11_could_15 : decode cX11_could 15 = .ok (.invokevirtual 67, 3) := dk_invokevirtual (by decide +kernel)
theorem dX11_could_18 : decode cX11_could 18 = .ok (.ireturn, 1) := dk_ireturn (by decide +kernel)
theorem dX11_could_19 : decode cX11_could 19 = .ok (.aload_n 3, 1) := dk_aload_n_3 (by decide +kernel)
theorem dX11_could_20 : decode cX11_could 20 = .ok (.getfield 264, 3) := dk_getfield (by decide +kernel)
theorem dX11_could_23 : decode cX11_could 23 = .ok (.ifCond .le 10, 3) := dk_ifCond_le (by decide +kernel)
theorem dX11_could_26 : decode cX11_could 26 = .ok (.aload_n 0, 1) := dk_aload_n_0 (by decide +kernel)
theorem dX11_could_27 : decode cX11_could 27 = .ok (.bipush (-3), 2) := dk_bipush (by decide +kernel)
theorem dX11_could_29 : decode cX11_could 29 = .ok (.invokevirtual 67, 3) := dk_invokevirtual (by decide +kernel)
theorem dX11_could_32 : decode cX11_could 32 = .ok (.ireturn, 1) := dk_ireturn (by decide +kernel)
theorem dX11_could_33 : decode cX11_could 33 = .ok (.iload_n 2, 1) := dk_iload_n_2 (by decide +kernel)
theorem dX11_could_34 : decode cX11_could 34 = .ok (.iconst 1, 1) := dk_iconst_1 (by decide +kernel)
theorem dX11_could_35 : decode cX11_could 35 = .ok (.if_icmp .ge 10, 3) := dk_if_icmp_ge (by decide +kernel)
theorem dX11_could_38 : decode cX11_could 38 = .ok (.aload_n 0, 1) := dk_aload_n_0 (by decide +kernel)
theorem dX11_could_39 : decode cX11_could 39 = .ok (.bipush (-4), 2) := dk_bipush (by decide +kernel)
theorem dX11_could_41 : decode cX11_could 41 = .ok (.invokevirtual 67, 3) := dk_invokevirtual (by decide +kernel)
theorem dX11_could_44 : decode cX11_could 44 = .ok (.ireturn, 1) := dk_ireturn (by decide +kernel)
theorem dX11_could_45 : decode cX11_could 45 = .ok (.aload_n 0, 1) := dk_aload_n_0 (by decide +kernel)
theorem dX11_could_46 : decode cX11_could 46 = .ok (.getfield 10, 3) := dk_getfield (by decide +kernel)
theorem dX11_could_49 : decode cX11_could 49 = .ok (.getfield 267, 3) := dk_getfield (by decide +kernel)
theorem dX11_could_52 : decode cX11_could 52 = .ok (.invokevirtual 93, 3) := dk_invokevirtual (by decide +kernel)
theorem dX11_could_55 : decode cX11_could 55 = .ok (.istore 4, 2) := dk_istore (by decide +kernel)
theorem dX11_could_57 : decode cX11_could 57 = .ok (.iload_n 2, 1) := dk_iload_n_2 (by decide +kernel)
theorem dX11_could_58 : decode cX11_could 58 = .ok (.bipush 99, 2) := dk_bipush (by decide +kernel)
theorem dX11_could_60 : decode cX11_could 60 = .ok (.if_icmp .gt 10, 3) := dk_if_icmp_gt (by decide +kernel)
theorem dX11_could_63 : decode cX11_could 63 = .ok (.iload 4, 2) := dk_iload (by decide +kernel)
theorem dX11_could_65 : decode cX11_could 65 = .ok (.bipush 9, 2) := dk_bipush (by decide +kernel)
theorem dX11_could_67 : decode cX11_could 67 = .ok (.if_icmp .lt 10, 3) := dk_if_icmp_lt (by decide +kernel)
theorem dX11_could_70 : decode cX11_could 70 = .ok (.aload_n 0, 1) := dk_aload_n_0 (by decide +kernel)
theorem dX11_could_71 : decode cX11_could 71 = .ok (.bipush (-6), 2) := dk_bipush (by decide +kernel)
theorem dX11_could_73 : decode cX11_could 73 = .ok (.invokevirtual 67, 3) := dk_invokevirtual (by decide +kernel)
theorem dX11_could_76 : decode cX11_could 76 = .ok (.ireturn, 1) := dk_ireturn (by decide +kernel)
theorem dX11_could_77 : decode cX11_could 77 = .ok (.aload_n 3, 1) := dk_aload_n_3 (by decide +kernel)
theorem dX11_could_78 : decode cX11_could 78 = .ok (.iload_n 2, 1) := dk_iload_n_2 (by decide +kernel)
theorem dX11_could_79 : decode cX11_could 79 = .ok (.putfield 264, 3) := dk_putfield (by decide +kernel)
theorem dX11_could_82 : decode cX11_could 82 = .ok (.aload_n 0, 1) := dk_aload_n_0 (by decide +kernel)
theorem dX11_could_83 : decode cX11_could 83 = .ok (.getfield 10, 3) := dk_getfield (by decide +kernel)
theorem dX11_could_86 : decode cX11_could 86 = .ok (.getfield 267, 3) := dk_getfield (by decide +kernel)
theorem dX11_could_89 : decode cX11_could 89 = .ok (.aload_n 3, 1) := dk_aload_n_3 (by decide +kernel)
theorem dX11_could_90 : decode cX11_could 90 = .ok (.invokevirtual 102, 3) := dk_invokevirtual (by decide +kernel)
theorem dX11_could_93 : decode cX11_could 93 = .ok (.pop, 1) := dk_pop (by decide +kernel)
theorem dX11_could_94 : decode cX11_could 94 = .ok (.iload 4, 2) := dk_iload (by decide +kernel)
theorem dX11_could_96 : decode cX11_could 96 = .ok (.ireturn, 1) := dk_ireturn (by decide +kernel)
set_option maxHeartbeats 4000000 in
set_option maxRecDepth 100000 in
theorem c_X5_init (l : Launch) (g : gG) (J : Nat → Nat → Int32) (L : Nat → Nat → Int64) (I : Nat → Nat → Nat → Int32) (P : Nat → Nat → Nat → Option Nat) (E : Nat → Option Nat) (N : Nat → Nat) (dy : List (Nat × Nat)) (sz : Nat) (o : Nat) (hmo : (6, o) ∈ dy) (a0 : Nat) (hm0 : (6, a0) ∈ dy) (a1 : Int32) (a2 : Int32)  : Met l yX5_init (WS yX5_init cX5_init 5 none) (RM (2) 0 0) (PC g [.ref o, .ref a0, .int a1, .int a2] ((J, L, I, P, E, N), sgX g ++ dy) sz) (va_Qv (fun (u : Int32) => True) (fun u t => at_ g (FR g ((J, L, I, P, E, N), sgX g ++ dy) sz) (((J, L, (up3 (up3 I 6 1 o a1) 6 2 o u), (up3 P 6 0 o (some a0)), E, N), sgX g ++ dy)) t) (FR g ((J, L, I, P, E, N), sgX g ++ dy) sz)) 0 0 (FR g ((J, L, I, P, E, N), sgX g ++ dy) sz) := by
  refine ent (by decide +kernel) (Nat.le_of_ble_eq_true rfl) ?_
  intro p e s m below meth c ls hsz C hW hr hlocks hname hl
  generalize FR g ((J, L, I, P, E, N), sgX g ++ dy) sz = A at C hW ⊢
  have hx := C.1.1
  have hb := C.1.2.1
  have hts := C.1.2.2.2.2
  have hl : lv_has ls 5 [(0, .ref o), (1, .ref a0), (2, .int a1), (3, .int a2)] := hl
  obtain ⟨H, hH⟩ : ∃ H : Heap, H = s.heap := ⟨_, rfl⟩
  obtain ⟨locs, hlocs⟩ : ∃ q : List Loc, q = [] := ⟨_, rfl⟩
  have hW : WB g A s.heap H locs (J, L, I, P, E, N) (sgX g ++ dy) := by rw [hH, hlocs]; exact hW
  refine start_ hH hlocs ?_
  refine lv_aload_n hx hb dX5_init_0 rfl (lv_at hl 0 rfl) ?_
  refine W.objInit hx hb C.1.2.2.2.1 (hts _ tw_136) (hts _ tw_97) (hts _ tw_oi2) rfl (by rw [C.1.2.2.1]; exact hl.1) rfl dX5_init_1 (Nat.le_of_ble_eq_true rfl) (Nat.le_of_ble_eq_true rfl) ?_
  show W p l e (RM (2) 0 0) s m ([.ref o, .ref a0, .int a1, .int a2] : List Value).toArray below meth c H locs 0 0 (MQ below (va_Qv (fun (u : Int32) => True) (fun u t => at_ g A (((J, L, (up3 (up3 I 6 1 o a1) 6 2 o u), (up3 P 6 0 o (some a0)), E, N), sgX g ++ dy)) t) A) ([.ref o, .ref a0, .int a1, .int a2] : List Value).toArray s 0 0 A) (F0 m 4 ls [])
  refine lv_aload_n hx hb dX5_init_4 rfl (lv_at hl 0 rfl) ?_
  refine lv_aload_n hx hb dX5_init_5 rfl (lv_at hl 1 rfl) ?_
  refine rp_6_0 (v := some a0) C hname rfl hW (List.mem_append_right _ hmo) tw_137 dX5_init_6 (fun H locs hW => ?_)
  have hW : WB g A s.heap H locs (J, L, I, (up3 P 6 0 o (some a0)), E, N) (sgX g ++ dy) := hW
  refine lv_aload_n hx hb dX5_init_9 rfl (lv_at hl 0 rfl) ?_
  refine lv_iload_n hx hb dX5_init_10 rfl (lv_at hl 2 rfl) ?_
  refine rp_6_1 C hname rfl hW (List.mem_append_right _ hmo) tw_139 dX5_init_11 (fun H locs hW => ?_)
  have hW : WB g A s.heap H locs (J, L, (up3 I 6 1 o a1), (up3 P 6 0 o (some a0)), E, N) (sgX g ++ dy) := hW
  refine lv_aload_n hx hb dX5_init_14 rfl (lv_at hl 1 rfl) ?_
  refine lv_ifnull hx hb dX5_init_15 ?_
  refine lv_iload_n hx hb dX5_init_18 rfl (lv_at hl 3 rfl) ?_
  refine lv_bipush (v := 11) hx hb dX5_init_19 (by decide) ?_
  refine lv_icmp_le (tgt := 28) hx hb dX5_init_21 (by decide) (fun c1 => ?_) (fun c1 => ?_)
  · have c1 : a2.toInt ≤ 11 := tle rfl kp11 c1
    refine lv_iconst (v := 1) hx hb dX5_init_28 (by decide) ?_
    refine lv_iload_n hx hb dX5_init_29 rfl (lv_at hl 3 rfl) ?_
    refine lv_ishl hx hb dX5_init_30 ?_
    refine lv_topi (fun x2 (e2 : x2 = 1 <<< (a2 &&& 31)) => ?_)
    refine lv_istore (lv' := [(4, .int x2), (0, .ref o), (1, .ref a0), (2, .int a1), (3, .int a2)]) hx hb dX5_init_31 hl (by decide) rfl (fun ls hl => ?_)
    refine lv_aload_n hx hb dX5_init_33 rfl (lv_at hl 1 rfl) ?_
    refine lv_aload_n hx hb dX5_init_34 rfl (lv_at hl 2 rfl) ?_
    refine lv_ifnonnull (tgt := 42) hx hb dX5_init_35 (by decide) ?_
    refine lv_aload_n hx hb dX5_init_42 rfl (lv_at hl 2 rfl) ?_
    refine rg_6_2 C hW (List.mem_append_right _ hm0) tw_140 dX5_init_43 ?_
    refine lv_topi (fun x3 (e3 : x3 = I 6 2 a0) => ?_)
    have t3 : x3.toInt = (I 6 2 a0).toInt := by rw [e3]
    refine lv_iload hx hb dX5_init_46 (lv_at hl 0 rfl) ?_
    refine lv_ior hx hb dX5_init_48 ?_
    refine lv_topi (fun x4 (e4 : x4 = x3 ||| x2) => ?_)
    refine rp_6_2 C hname rfl hW (List.mem_append_right _ hmo) tw_140 dX5_init_49 (fun H locs hW => ?_)
    have hW : WB g A s.heap H locs (J, L, (up3 (up3 I 6 1 o a1) 6 2 o x4), (up3 P 6 0 o (some a0)), E, N) (sgX g ++ dy) := hW
    exact end_v C hr hlocks x4 hW trivial dX5_init_52
  · have c1 : 11 < a2.toInt := tnle rfl kp11 c1
    refine lv_iconst (v := 0) hx hb dX5_init_24 (by decide) ?_
    refine lv_goto (tgt := 31) hx hb dX5_init_25 (by decide) ?_
    refine lv_istore (lv' := [(4, .int 0), (0, .ref o), (1, .ref a0), (2, .int a1), (3, .int a2)]) hx hb dX5_init_31 hl (by decide) rfl (fun ls hl => ?_)
    refine lv_aload_n hx hb dX5_init_33 rfl (lv_at hl 1 rfl) ?_
    refine lv_aload_n hx hb dX5_init_34 rfl (lv_at hl 2 rfl) ?_
    refine lv_ifnonnull (tgt := 42) hx hb dX5_init_35 (by decide) ?_
    refine lv_aload_n hx hb dX5_init_42 rfl (lv_at hl 2 rfl) ?_
    refine rg_6_2 C hW (List.mem_append_right _ hm0) tw_140 dX5_init_43 ?_
    refine lv_topi (fun x5 (e5 : x5 = I 6 2 a0) => ?_)
    have t5 : x5.toInt = (I 6 2 a0).toInt := by rw [e5]
    refine lv_iload hx hb dX5_init_46 (lv_at hl 0 rfl) ?_
    refine lv_ior hx hb dX5_init_48 ?_
    refine lv_topi (fun x6 (e6 : x6 = x5 ||| 0) => ?_)
    refine rp_6_2 C hname rfl hW (List.mem_append_right _ hmo) tw_140 dX5_init_49 (fun H locs hW => ?_)
    have hW : WB g A s.heap H locs (J, L, (up3 (up3 I 6 1 o a1) 6 2 o x6), (up3 P 6 0 o (some a0)), E, N) (sgX g ++ dy) := hW
    exact end_v C hr hlocks x6 hW trivial dX5_init_52

set_option maxHeartbeats 4000000 in
set_option maxRecDepth 100000 in
theorem c_X0_init (l : Launch) (g : gG) (J : Nat → Nat → Int32) (L : Nat → Nat → Int64) (I : Nat → Nat → Nat → Int32) (P : Nat → Nat → Nat → Option Nat) (E : Nat → Option Nat) (N : Nat → Nat) (dy : List (Nat × Nat)) (sz : Nat) (o : Nat) (hmo : (1, o) ∈ dy) (a0 : Nat) (hm0 : (6, a0) ∈ dy) (a1 : Int32) (a2 : Int32)  : Met l yX0_init (WS yX0_init cX0_init 4 none) (RM (2) 0 0) (PC g [.ref o, .ref a0, .int a1, .int a2] ((J, L, I, P, E, N), sgX g ++ dy) sz) (va_Qv (fun (u : Unit) => True) (fun u t => at_ g (FR g ((J, L, I, P, E, N), sgX g ++ dy) sz) (((J, L, (up3 (up3 I 1 1 o a1) 1 2 o a2), (up3 P 1 0 o (some a0)), E, N), sgX g ++ dy)) t) (FR g ((J, L, I, P, E, N), sgX g ++ dy) sz)) 0 0 (FR g ((J, L, I, P, E, N), sgX g ++ dy) sz) := by
  refine ent (by decide +kernel) (Nat.le_of_ble_eq_true rfl) ?_
  intro p e s m below meth c ls hsz C hW hr hlocks hname hl
  generalize FR g ((J, L, I, P, E, N), sgX g ++ dy) sz = A at C hW ⊢
  have hx := C.1.1
  have hb := C.1.2.1
  have hts := C.1.2.2.2.2
  have hl : lv_has ls 4 [(0, .ref o), (1, .ref a0), (2, .int a1), (3, .int a2)] := hl
  obtain ⟨H, hH⟩ : ∃ H : Heap, H = s.heap := ⟨_, rfl⟩
  obtain ⟨locs, hlocs⟩ : ∃ q : List Loc, q = [] := ⟨_, rfl⟩
  have hW : WB g A s.heap H locs (J, L, I, P, E, N) (sgX g ++ dy) := by rw [hH, hlocs]; exact hW
  refine start_ hH hlocs ?_
  refine lv_aload_n hx hb dX0_init_0 rfl (lv_at hl 0 rfl) ?_
  refine W.objInit hx hb C.1.2.2.2.1 (hts _ tw_506) (hts _ tw_97) (hts _ tw_oi2) rfl (by rw [C.1.2.2.1]; exact hl.1) rfl dX0_init_1 (Nat.le_of_ble_eq_true rfl) (Nat.le_of_ble_eq_true rfl) ?_
  show W p l e (RM (2) 0 0) s m ([.ref o, .ref a0, .int a1, .int a2] : List Value).toArray below meth c H locs 0 0 (MQ below (va_Qv (fun (u : Unit) => True) (fun u t => at_ g A (((J, L, (up3 (up3 I 1 1 o a1) 1 2 o a2), (up3 P 1 0 o (some a0)), E, N), sgX g ++ dy)) t) A) ([.ref o, .ref a0, .int a1, .int a2] : List Value).toArray s 0 0 A) (F0 m 4 ls [])
  refine lv_aload_n hx hb dX0_init_4 rfl (lv_at hl 0 rfl) ?_
  refine lv_aload_n hx hb dX0_init_5 rfl (lv_at hl 1 rfl) ?_
  refine rp_1_0 (v := some a0) C hname rfl hW (List.mem_append_right _ hmo) tw_507 dX0_init_6 (fun H locs hW => ?_)
  have hW : WB g A s.heap H locs (J, L, I, (up3 P 1 0 o (some a0)), E, N) (sgX g ++ dy) := hW
  refine lv_aload_n hx hb dX0_init_9 rfl (lv_at hl 0 rfl) ?_
  refine lv_iload_n hx hb dX0_init_10 rfl (lv_at hl 2 rfl) ?_
  refine rp_1_1 C hname rfl hW (List.mem_append_right _ hmo) tw_509 dX0_init_11 (fun H locs hW => ?_)
  have hW : WB g A s.heap H locs (J, L, (up3 I 1 1 o a1), (up3 P 1 0 o (some a0)), E, N) (sgX g ++ dy) := hW
  refine lv_aload_n hx hb dX0_init_14 rfl (lv_at hl 0 rfl) ?_
  refine lv_iload_n hx hb dX0_init_15 rfl (lv_at hl 3 rfl) ?_
  refine rp_1_2 C hname rfl hW (List.mem_append_right _ hmo) tw_511 dX0_init_16 (fun H locs hW => ?_)
  have hW : WB g A s.heap H locs (J, L, (up3 (up3 I 1 1 o a1) 1 2 o a2), (up3 P 1 0 o (some a0)), E, N) (sgX g ++ dy) := hW
  exact end_v C hr hlocks () hW trivial dX0_init_19

set_option maxHeartbeats 4000000 in
set_option maxRecDepth 100000 in
theorem c_X1_init (l : Launch) (g : gG) (J : Nat → Nat → Int32) (L : Nat → Nat → Int64) (I : Nat → Nat → Nat → Int32) (P : Nat → Nat → Nat → Option Nat) (E : Nat → Option Nat) (N : Nat → Nat) (dy : List (Nat × Nat)) (sz : Nat) (o : Nat) (hmo : (2, o) ∈ dy) (a0 : Nat) (hm0 : (6, a0) ∈ dy) (a1 : Int32) (a2 : Int32) (a3 : Int32)  : Met l yX1_init (WS yX1_init cX1_init 5 none) (RM (2) 0 0) (PC g [.ref o, .ref a0, .int a1, .int a2, .int a3] ((J, L, I, P, E, N), sgX g ++ dy) sz) (va_Qv (fun (u : Unit) => True) (fun u t => at_ g (FR g ((J, L, I, P, E, N), sgX g ++ dy) sz) (((J, L, (up3 (up3 (up3 I 2 1 o a1) 2 2 o a2) 2 3 o a3), (up3 P 2 0 o (some a0)), E, N), sgX g ++ dy)) t) (FR g ((J, L, I, P, E, N), sgX g ++ dy) sz)) 0 0 (FR g ((J, L, I, P, E, N), sgX g ++ dy) sz) := by
  refine ent (by decide +kernel) (Nat.le_of_ble_eq_true rfl) ?_
  intro p e s m below meth c ls hsz C hW hr hlocks hname hl
  generalize FR g ((J, L, I, P, E, N), sgX g ++ dy) sz = A at C hW ⊢
  have hx := C.1.1
  have hb := C.1.2.1
  have hts := C.1.2.2.2.2
  have hl : lv_has ls 5 [(0, .ref o), (1, .ref a0), (2, .int a1), (3, .int a2), (4, .int a3)] := hl
  obtain ⟨H, hH⟩ : ∃ H : Heap, H = s.heap := ⟨_, rfl⟩
  obtain ⟨locs, hlocs⟩ : ∃ q : List Loc, q = [] := ⟨_, rfl⟩
  have hW : WB g A s.heap H locs (J, L, I, P, E, N) (sgX g ++ dy) := by rw [hH, hlocs]; exact hW
  refine start_ hH hlocs ?_
  refine lv_aload_n hx hb dX1_init_0 rfl (lv_at hl 0 rfl) ?_
  refine W.objInit hx hb C.1.2.2.2.1 (hts _ tw_547) (hts _ tw_97) (hts _ tw_oi2) rfl (by rw [C.1.2.2.1]; exact hl.1) rfl dX1_init_1 (Nat.le_of_ble_eq_true rfl) (Nat.le_of_ble_eq_true rfl) ?_
  show W p l e (RM (2) 0 0) s m ([.ref o, .ref a0, .int a1, .int a2, .int a3] : List Value).toArray below meth c H locs 0 0 (MQ below (va_Qv (fun (u : Unit) => True) (fun u t => at_ g A (((J, L, (up3 (up3 (up3 I 2 1 o a1) 2 2 o a2) 2 3 o a3), (up3 P 2 0 o (some a0)), E, N), sgX g ++ dy)) t) A) ([.ref o, .ref a0, .int a1, .int a2, .int a3] : List Value).toArray s 0 0 A) (F0 m 4 ls [])
  refine lv_aload_n hx hb dX1_init_4 rfl (lv_at hl 0 rfl) ?_
  refine lv_aload_n hx hb dX1_init_5 rfl (lv_at hl 1 rfl) ?_
  refine rp_2_0 (v := some a0) C hname rfl hW (List.mem_append_right _ hmo) tw_548 dX1_init_6 (fun H locs hW => ?_)
  have hW : WB g A s.heap H locs (J, L, I, (up3 P 2 0 o (some a0)), E, N) (sgX g ++ dy) := hW
  refine lv_aload_n hx hb dX1_init_9 rfl (lv_at hl 0 rfl) ?_
  refine lv_iload_n hx hb dX1_init_10 rfl (lv_at hl 2 rfl) ?_
  refine rp_2_1 C hname rfl hW (List.mem_append_right _ hmo) tw_550 dX1_init_11 (fun H locs hW => ?_)
  have hW : WB g A s.heap H locs (J, L, (up3 I 2 1 o a1), (up3 P 2 0 o (some a0)), E, N) (sgX g ++ dy) := hW
  refine lv_aload_n hx hb dX1_init_14 rfl (lv_at hl 0 rfl) ?_
  refine lv_iload_n hx hb dX1_init_15 rfl (lv_at hl 3 rfl) ?_
  refine rp_2_2 C hname rfl hW (List.mem_append_right _ hmo) tw_551 dX1_init_16 (fun H locs hW => ?_)
  have hW : WB g A s.heap H locs (J, L, (up3 (up3 I 2 1 o a1) 2 2 o a2), (up3 P 2 0 o (some a0)), E, N) (sgX g ++ dy) := hW
  refine lv_aload_n hx hb dX1_init_19 rfl (lv_at hl 0 rfl) ?_
  refine lv_iload hx hb dX1_init_20 (lv_at hl 4 rfl) ?_
  refine rp_2_3 C hname rfl hW (List.mem_append_right _ hmo) tw_553 dX1_init_22 (fun H locs hW => ?_)
  have hW : WB g A s.heap H locs (J, L, (up3 (up3 (up3 I 2 1 o a1) 2 2 o a2) 2 3 o a3), (up3 P 2 0 o (some a0)), E, N) (sgX g ++ dy) := hW
  exact end_v C hr hlocks () hW trivial dX1_init_25

set_option maxHeartbeats 4000000 in
set_option maxRecDepth 100000 in
theorem c_X4_init (l : Launch) (g : gG) (J : Nat → Nat → Int32) (L : Nat → Nat → Int64) (I : Nat → Nat → Nat → Int32) (P : Nat → Nat → Nat → Option Nat) (E : Nat → Option Nat) (N : Nat → Nat) (dy : List (Nat × Nat)) (sz : Nat) (o : Nat) (hmo : (5, o) ∈ dy) (a0 : Int32)  : Met l yX4_init (WS yX4_init cX4_init 2 none) (RM (2) 0 0) (PC g [.ref o, .int a0] ((J, L, I, P, E, N), sgX g ++ dy) sz) (va_Qv (fun (u : Unit) => True) (fun u t => at_ g (FR g ((J, L, I, P, E, N), sgX g ++ dy) sz) (((J, L, (up3 (up3 (up3 I 5 1 o (-1)) 5 2 o (-1)) 5 0 o a0), P, E, N), sgX g ++ dy)) t) (FR g ((J, L, I, P, E, N), sgX g ++ dy) sz)) 0 0 (FR g ((J, L, I, P, E, N), sgX g ++ dy) sz) := by
  refine ent (by decide +kernel) (Nat.le_of_ble_eq_true rfl) ?_
  intro p e s m below meth c ls hsz C hW hr hlocks hname hl
  generalize FR g ((J, L, I, P, E, N), sgX g ++ dy) sz = A at C hW ⊢
  have hx := C.1.1
  have hb := C.1.2.1
  have hts := C.1.2.2.2.2
  have hl : lv_has ls 2 [(0, .ref o), (1, .int a0)] := hl
  obtain ⟨H, hH⟩ : ∃ H : Heap, H = s.heap := ⟨_, rfl⟩
  obtain ⟨locs, hlocs⟩ : ∃ q : List Loc, q = [] := ⟨_, rfl⟩
  have hW : WB g A s.heap H locs (J, L, I, P, E, N) (sgX g ++ dy) := by rw [hH, hlocs]; exact hW
  refine start_ hH hlocs ?_
  refine lv_aload_n hx hb dX4_init_0 rfl (lv_at hl 0 rfl) ?_
  refine W.objInit hx hb C.1.2.2.2.1 (hts _ tw_941) (hts _ tw_97) (hts _ tw_oi2) rfl (by rw [C.1.2.2.1]; exact hl.1) rfl dX4_init_1 (Nat.le_of_ble_eq_true rfl) (Nat.le_of_ble_eq_true rfl) ?_
  show W p l e (RM (2) 0 0) s m ([.ref o, .int a0] : List Value).toArray below meth c H locs 0 0 (MQ below (va_Qv (fun (u : Unit) => True) (fun u t => at_ g A (((J, L, (up3 (up3 (up3 I 5 1 o (-1)) 5 2 o (-1)) 5 0 o a0), P, E, N), sgX g ++ dy)) t) A) ([.ref o, .int a0] : List Value).toArray s 0 0 A) (F0 m 4 ls [])
  refine lv_aload_n hx hb dX4_init_4 rfl (lv_at hl 0 rfl) ?_
  refine lv_iconst (v := (-1)) hx hb dX4_init_5 (by decide) ?_
  refine rp_5_1 C hW (List.mem_append_right _ hmo) tw_944 dX4_init_6 (fun H locs hW => ?_)
  refine lv_aload_n hx hb dX4_init_9 rfl (lv_at hl 0 rfl) ?_
  refine lv_iconst (v := (-1)) hx hb dX4_init_10 (by decide) ?_
  refine rp_5_2 C hW (List.mem_append_right _ hmo) tw_946 dX4_init_11 (fun H locs hW => ?_)
  refine lv_aload_n hx hb dX4_init_14 rfl (lv_at hl 0 rfl) ?_
  refine lv_iload_n hx hb dX4_init_15 rfl (lv_at hl 1 rfl) ?_
  refine rp_5_0 C hname rfl hW (List.mem_append_right _ hmo) tw_942 dX4_init_16 (fun H locs hW => ?_)
  have hW : WB g A s.heap H locs (J, L, (up3 (up3 (up3 I 5 1 o (-1)) 5 2 o (-1)) 5 0 o a0), P, E, N) (sgX g ++ dy) := hW
  exact end_v C hr hlocks () hW trivial dX4_init_19

set_option maxHeartbeats 4000000 in
set_option maxRecDepth 100000 in
theorem c_X6_init (l : Launch) (g : gG) (J : Nat → Nat → Int32) (L : Nat → Nat → Int64) (I : Nat → Nat → Nat → Int32) (P : Nat → Nat → Nat → Option Nat) (E : Nat → Option Nat) (N : Nat → Nat) (dy : List (Nat × Nat)) (sz : Nat) (o : Nat) (hmo : (7, o) ∈ dy) (a0 : Int32)  : Met l yX6_init (WS yX6_init cX6_init 2 none) (RM (2) 0 0) (PC g [.ref o, .int a0] ((J, L, I, P, E, N), sgX g ++ dy) sz) (va_Qv (fun (u : Unit) => True) (fun u t => at_ g (FR g ((J, L, I, P, E, N), sgX g ++ dy) sz) (((J, L, (up3 (up3 I 7 1 o (-1)) 7 0 o a0), P, E, N), sgX g ++ dy)) t) (FR g ((J, L, I, P, E, N), sgX g ++ dy) sz)) 0 0 (FR g ((J, L, I, P, E, N), sgX g ++ dy) sz) := by
  refine ent (by decide +kernel) (Nat.le_of_ble_eq_true rfl) ?_
  intro p e s m below meth c ls hsz C hW hr hlocks hname hl
  generalize FR g ((J, L, I, P, E, N), sgX g ++ dy) sz = A at C hW ⊢
  have hx := C.1.1
  have hb := C.1.2.1
  have hts := C.1.2.2.2.2
  have hl : lv_has ls 2 [(0, .ref o), (1, .int a0)] := hl
  obtain ⟨H, hH⟩ : ∃ H : Heap, H = s.heap := ⟨_, rfl⟩
  obtain ⟨locs, hlocs⟩ : ∃ q : List Loc, q = [] := ⟨_, rfl⟩
  have hW : WB g A s.heap H locs (J, L, I, P, E, N) (sgX g ++ dy) := by rw [hH, hlocs]; exact hW
  refine start_ hH hlocs ?_
  refine lv_aload_n hx hb dX6_init_0 rfl (lv_at hl 0 rfl) ?_
  refine W.objInit hx hb C.1.2.2.2.1 (hts _ tw_594) (hts _ tw_97) (hts _ tw_oi2) rfl (by rw [C.1.2.2.1]; exact hl.1) rfl dX6_init_1 (Nat.le_of_ble_eq_true rfl) (Nat.le_of_ble_eq_true rfl) ?_
  show W p l e (RM (2) 0 0) s m ([.ref o, .int a0] : List Value).toArray below meth c H locs 0 0 (MQ below (va_Qv (fun (u : Unit) => True) (fun u t => at_ g A (((J, L, (up3 (up3 I 7 1 o (-1)) 7 0 o a0), P, E, N), sgX g ++ dy)) t) A) ([.ref o, .int a0] : List Value).toArray s 0 0 A) (F0 m 4 ls [])
  refine lv_aload_n hx hb dX6_init_4 rfl (lv_at hl 0 rfl) ?_
  refine lv_iconst (v := (-1)) hx hb dX6_init_5 (by decide) ?_
  refine rp_7_1 C hW (List.mem_append_right _ hmo) tw_597 dX6_init_6 (fun H locs hW => ?_)
  refine lv_aload_n hx hb dX6_init_9 rfl (lv_at hl 0 rfl) ?_
  refine lv_iload_n hx hb dX6_init_10 rfl (lv_at hl 1 rfl) ?_
  refine rp_7_0 C hname rfl hW (List.mem_append_right _ hmo) tw_595 dX6_init_11 (fun H locs hW => ?_)
  have hW : WB g A s.heap H locs (J, L, (up3 (up3 I 7 1 o (-1)) 7 0 o a0), P, E, N) (sgX g ++ dy) := hW
  exact end_v C hr hlocks () hW trivial dX6_init_14
