theorem sk_wr_self (f : Nat → Nat → Option Nat) (k j : Nat) (v : Option Nat) : sk_wr f k j v k j = v := by simp [sk_wr, va_up]
theorem sk_wr_ne (f : Nat → Nat → Option Nat) {k j i : Nat} (v : Option Nat) (h : i ≠ j) : sk_wr f k j v k i = f k i := by simp [sk_wr, va_up, h]
theorem sk_wr_o (f : Nat → Nat → Option Nat) {k a : Nat} (j : Nat) (v : Option Nat) (h : a ≠ k) : sk_wr f k j v a = f a := by simp [sk_wr, h]
theorem sk_zi_self (f : Nat → Nat → Int32) (k : Nat) : sk_zi f k k = fun _ => 0 := by simp [sk_zi]
theorem sk_zi_o (f : Nat → Nat → Int32) {k a : Nat} (h : a ≠ k) : sk_zi f k a = f a := by simp [sk_zi, h]
theorem sk_zr_self (f : Nat → Nat → Option Nat) (k : Nat) : sk_zr f k k = fun _ => none := by simp [sk_zr]
theorem sk_zr_o (f : Nat → Nat → Option Nat) {k a : Nat} (h : a ≠ k) : sk_zr f k a = f a := by simp [sk_zr, h]
section INITS
variable {Γ : sk_Cx} {X : sk_Px} {u : Nat × Nat} {pc : Nat} {L : List (Option Value)} {st : List Value} {h : sk_Hp}
theorem go_newL {index ci N m : Nat} {C : String} {T : u_T} (hl : h.2.2.length = m) (hd : decode X.1 pc = .ok (.new index, 3)) (hc : vwCl[ci]? = some (C, T, N)) (hin : ∀ z ∈ u_ws C T N, z ∈ lw_g) (hty : ∀ k, k < N → parseFieldDescriptor (T k).2.2.1 = some (sk_ty ci k)) (hdf : ∀ k, k < N → defaultValue (sk_ty ci k) = if sk_isI (sk_ty ci k) = true then .int 0 else .null) (h1 : Cond.classLink X.2.2.2.1 index C ∈ lw_g) (h2 : Cond.instantiable C N ∈ lw_g) (h3 : Cond.initialized C ∈ lw_g) (hcells : u.1 + 1 ≤ X.2.2.2.2.2.1.cells) (hslots : u.2 + N ≤ X.2.2.2.2.2.1.slots) (kk : sk_Go Γ X (u.1 + 1, u.2 + N) (pc + 3) L (.ref m :: st) (sk_zi h.1 m, sk_zr h.2.1 m, h.2.2 ++ [(0, ci)])) : sk_Go Γ X u pc L st h := by
  subst hl
  exact go_new hd hc hin hty hdf h1 h2 h3 hcells hslots kk
theorem go_newiL {n : Int32} {N m : Nat} (hl : h.2.2.length = m) (hd : decode X.1 pc = .ok (.newarray .int, 2)) (hn : ¬ n < 0) (hN : n.toNatClampNeg = N) (hb : N * 4 ≤ 536870912) (hcells : u.1 + 1 ≤ X.2.2.2.2.2.1.cells) (hslots : u.2 + N ≤ X.2.2.2.2.2.1.slots) (kk : sk_Go Γ X (u.1 + 1, u.2 + N) (pc + 2) L (.ref m :: st) (sk_zi h.1 m, h.2.1, h.2.2 ++ [(1, N)])) : sk_Go Γ X u pc L (.int n :: st) h := by
  subst hl
  exact go_newi hd sk_acI hn hN hb hcells hslots kk
theorem go_newzL {n : Int32} {N m : Nat} (hl : h.2.2.length = m) (hd : decode X.1 pc = .ok (.newarray .boolean, 2)) (hn : ¬ n < 0) (hN : n.toNatClampNeg = N) (hb : N * componentBytes .boolean ≤ 536870912) (hcells : u.1 + 1 ≤ X.2.2.2.2.2.1.cells) (hslots : u.2 + N ≤ X.2.2.2.2.2.1.slots) (kk : sk_Go Γ X (u.1 + 1, u.2 + N) (pc + 2) L (.ref m :: st) (sk_zi h.1 m, h.2.1, h.2.2 ++ [(2, N)])) : sk_Go Γ X u pc L (.int n :: st) h := by
  subst hl
  exact go_newz hd sk_acZ hn hN hb hcells hslots kk
theorem go_anewL {index : Nat} {n : Int32} {N m : Nat} (hl : h.2.2.length = m) (hd : decode X.1 pc = .ok (.anewarray index, 3)) (h1 : Cond.classLink X.2.2.2.1 index "SkyEcho$Sky" ∈ lw_g) (hn : ¬ n < 0) (hN : n.toNatClampNeg = N) (hb : N * 4 ≤ 536870912) (hcells : u.1 + 1 ≤ X.2.2.2.2.2.1.cells) (hslots : u.2 + N ≤ X.2.2.2.2.2.1.slots) (kk : sk_Go Γ X (u.1 + 1, u.2 + N) (pc + 3) L (.ref m :: st) (h.1, sk_zr h.2.1 m, h.2.2 ++ [(3, N)])) : sk_Go Γ X u pc L (.int n :: st) h := by
  subst hl
  exact go_anew hd h1 hn hN hb hcells hslots kk
end INITS
section INIT2
variable {Γ : sk_Cx} {Q : Option Value → sk_Hp → Prop} {hi : Nat → Nat → Int32} {hr : Nat → Nat → Option Nat} {ks : List (Nat × Nat)} {k : Nat}
theorem c_X0_init (hl : ks.length = k + 1) (hk : ks[k]? = some (0, 0)) (q : Q none ((sk_wi (sk_wi (sk_wi (sk_zi (sk_zi hi (k + 1)) (k + 2)) k 2 3) k 3 20) k 4 2), (sk_wr (sk_wr hr k 0 (some (k + 1))) k 1 (some (k + 2))), ((ks ++ [(1, 384)]) ++ [(1, 4)]))) : sk_Ct Γ m_X0_init [.ref k] (hi, hr, ks) Q := by
  refine sk_Ct.of ok_X0_init.2.2.2 (Nat.le_of_ble_eq_true rfl) ?_
  refine go_aload_n dX0_init_0 rfl ?_
  refine go_obj (n := 4) dX0_init_1 ml_X0_3 sk_ob1 sk_ob2 (Nat.le_of_ble_eq_true rfl) (Nat.le_of_ble_eq_true rfl) rfl ?_
  refine go_aload_n dX0_init_4 rfl ?_
  refine go_sipush dX0_init_5 (v := 384) (by decide) ?_
  refine go_newiL (N := 384) (m := k + 1) hl dX0_init_8 (by decide) (by decide) (by decide) (Nat.le_of_ble_eq_true rfl) (Nat.le_of_ble_eq_true rfl) ?_
  show sk_Go Γ (sk_M Γ m_X0_init Q) _ _ _ _ ((sk_zi hi (k + 1)), hr, (ks ++ [(1, 384)]))
  refine go_putR dX0_init_10 fl_X0_9 (sk_kl hk) rfl rfl rfl in_X0 on_X0 ?_
  show sk_Go Γ (sk_M Γ m_X0_init Q) _ _ _ _ ((sk_zi hi (k + 1)), (sk_wr hr k 0 (some (k + 1))), (ks ++ [(1, 384)]))
  refine go_aload_n dX0_init_13 rfl ?_
  refine go_iconst dX0_init_14 (v := 4) (by decide) ?_
  refine go_newiL (N := 4) (m := k + 2) (sk_ln hl) dX0_init_15 (by decide) (by decide) (by decide) (Nat.le_of_ble_eq_true rfl) (Nat.le_of_ble_eq_true rfl) ?_
  show sk_Go Γ (sk_M Γ m_X0_init Q) _ _ _ _ ((sk_zi (sk_zi hi (k + 1)) (k + 2)), (sk_wr hr k 0 (some (k + 1))), ((ks ++ [(1, 384)]) ++ [(1, 4)]))
  refine go_putR dX0_init_17 fl_X0_15 (sk_kl (sk_kl hk)) rfl rfl rfl in_X0 on_X0 ?_
  show sk_Go Γ (sk_M Γ m_X0_init Q) _ _ _ _ ((sk_zi (sk_zi hi (k + 1)) (k + 2)), (sk_wr (sk_wr hr k 0 (some (k + 1))) k 1 (some (k + 2))), ((ks ++ [(1, 384)]) ++ [(1, 4)]))
  refine go_aload_n dX0_init_20 rfl ?_
  refine go_iconst dX0_init_21 (v := 3) (by decide) ?_
  refine go_putI dX0_init_22 fl_X0_18 (sk_kl (sk_kl hk)) rfl ?_
  show sk_Go Γ (sk_M Γ m_X0_init Q) _ _ _ _ ((sk_wi (sk_zi (sk_zi hi (k + 1)) (k + 2)) k 2 3), (sk_wr (sk_wr hr k 0 (some (k + 1))) k 1 (some (k + 2))), ((ks ++ [(1, 384)]) ++ [(1, 4)]))
  refine go_aload_n dX0_init_25 rfl ?_
  refine go_bipush dX0_init_26 (v := 20) (by decide) ?_
  refine go_putI dX0_init_28 fl_X0_22 (sk_kl (sk_kl hk)) rfl ?_
  show sk_Go Γ (sk_M Γ m_X0_init Q) _ _ _ _ ((sk_wi (sk_wi (sk_zi (sk_zi hi (k + 1)) (k + 2)) k 2 3) k 3 20), (sk_wr (sk_wr hr k 0 (some (k + 1))) k 1 (some (k + 2))), ((ks ++ [(1, 384)]) ++ [(1, 4)]))
  refine go_aload_n dX0_init_31 rfl ?_
  refine go_iconst dX0_init_32 (v := 2) (by decide) ?_
  refine go_putI dX0_init_33 fl_X0_25 (sk_kl (sk_kl hk)) rfl ?_
  show sk_Go Γ (sk_M Γ m_X0_init Q) _ _ _ _ ((sk_wi (sk_wi (sk_wi (sk_zi (sk_zi hi (k + 1)) (k + 2)) k 2 3) k 3 20) k 4 2), (sk_wr (sk_wr hr k 0 (some (k + 1))) k 1 (some (k + 2))), ((ks ++ [(1, 384)]) ++ [(1, 4)]))
  exact go_vret (μ := m_X0_init) dX0_init_36 rfl (Nat.le_of_ble_eq_true rfl) (Nat.le_of_ble_eq_true rfl) q
theorem c_X4_init (hl : ks.length = k + 1) (hk : ks[k]? = some (0, 3)) (q : Q none ((sk_wi (sk_zi (sk_zi (sk_zi hi (k + 1)) (k + 2)) (k + 3)) k 3 0), (sk_wr (sk_wr (sk_wr hr k 0 (some (k + 1))) k 1 (some (k + 2))) k 2 (some (k + 3))), (((ks ++ [(1, 4)]) ++ [(1, 4)]) ++ [(1, 4)]))) : sk_Ct Γ m_X4_init [.ref k] (hi, hr, ks) Q := by
  refine sk_Ct.of ok_X4_init.2.2.2 (Nat.le_of_ble_eq_true rfl) ?_
  refine go_aload_n dX4_init_0 rfl ?_
  refine go_obj (n := 4) dX4_init_1 ml_X4_3 sk_ob1 sk_ob2 (Nat.le_of_ble_eq_true rfl) (Nat.le_of_ble_eq_true rfl) rfl ?_
  refine go_aload_n dX4_init_4 rfl ?_
  refine go_iconst dX4_init_5 (v := 4) (by decide) ?_
  refine go_newiL (N := 4) (m := k + 1) hl dX4_init_6 (by decide) (by decide) (by decide) (Nat.le_of_ble_eq_true rfl) (Nat.le_of_ble_eq_true rfl) ?_
  show sk_Go Γ (sk_M Γ m_X4_init Q) _ _ _ _ ((sk_zi hi (k + 1)), hr, (ks ++ [(1, 4)]))
  refine go_putR dX4_init_8 fl_X4_9 (sk_kl hk) rfl rfl rfl in_X4 on_X4 ?_
  show sk_Go Γ (sk_M Γ m_X4_init Q) _ _ _ _ ((sk_zi hi (k + 1)), (sk_wr hr k 0 (some (k + 1))), (ks ++ [(1, 4)]))
  refine go_aload_n dX4_init_11 rfl ?_
  refine go_iconst dX4_init_12 (v := 4) (by decide) ?_
  refine go_newiL (N := 4) (m := k + 2) (sk_ln hl) dX4_init_13 (by decide) (by decide) (by decide) (Nat.le_of_ble_eq_true rfl) (Nat.le_of_ble_eq_true rfl) ?_
  show sk_Go Γ (sk_M Γ m_X4_init Q) _ _ _ _ ((sk_zi (sk_zi hi (k + 1)) (k + 2)), (sk_wr hr k 0 (some (k + 1))), ((ks ++ [(1, 4)]) ++ [(1, 4)]))
  refine go_putR dX4_init_15 fl_X4_15 (sk_kl (sk_kl hk)) rfl rfl rfl in_X4 on_X4 ?_
  show sk_Go Γ (sk_M Γ m_X4_init Q) _ _ _ _ ((sk_zi (sk_zi hi (k + 1)) (k + 2)), (sk_wr (sk_wr hr k 0 (some (k + 1))) k 1 (some (k + 2))), ((ks ++ [(1, 4)]) ++ [(1, 4)]))
  refine go_aload_n dX4_init_18 rfl ?_
  refine go_iconst dX4_init_19 (v := 4) (by decide) ?_
  refine go_newiL (N := 4) (m := k + 3) (sk_ln (sk_ln hl)) dX4_init_20 (by decide) (by decide) (by decide) (Nat.le_of_ble_eq_true rfl) (Nat.le_of_ble_eq_true rfl) ?_
  show sk_Go Γ (sk_M Γ m_X4_init Q) _ _ _ _ ((sk_zi (sk_zi (sk_zi hi (k + 1)) (k + 2)) (k + 3)), (sk_wr (sk_wr hr k 0 (some (k + 1))) k 1 (some (k + 2))), (((ks ++ [(1, 4)]) ++ [(1, 4)]) ++ [(1, 4)]))
  refine go_putR dX4_init_22 fl_X4_18 (sk_kl (sk_kl (sk_kl hk))) rfl rfl rfl in_X4 on_X4 ?_
  show sk_Go Γ (sk_M Γ m_X4_init Q) _ _ _ _ ((sk_zi (sk_zi (sk_zi hi (k + 1)) (k + 2)) (k + 3)), (sk_wr (sk_wr (sk_wr hr k 0 (some (k + 1))) k 1 (some (k + 2))) k 2 (some (k + 3))), (((ks ++ [(1, 4)]) ++ [(1, 4)]) ++ [(1, 4)]))
  refine go_aload_n dX4_init_25 rfl ?_
  refine go_iconst dX4_init_26 (v := 0) (by decide) ?_
  refine go_putI dX4_init_27 fl_X4_21 (sk_kl (sk_kl (sk_kl hk))) rfl ?_
  show sk_Go Γ (sk_M Γ m_X4_init Q) _ _ _ _ ((sk_wi (sk_zi (sk_zi (sk_zi hi (k + 1)) (k + 2)) (k + 3)) k 3 0), (sk_wr (sk_wr (sk_wr hr k 0 (some (k + 1))) k 1 (some (k + 2))) k 2 (some (k + 3))), (((ks ++ [(1, 4)]) ++ [(1, 4)]) ++ [(1, 4)]))
  exact go_vret (μ := m_X4_init) dX4_init_30 rfl (Nat.le_of_ble_eq_true rfl) (Nat.le_of_ble_eq_true rfl) q
theorem c_X6_init (hl : ks.length = k + 1) (hk : ks[k]? = some (0, 5)) (q : Q none ((sk_wi (sk_wi (sk_wi (sk_zi (sk_zi (sk_zi hi (k + 1)) (k + 2)) (k + 3)) k 3 0) k 4 (-1)) k 5 (-1)), (sk_wr (sk_wr (sk_wr hr k 0 (some (k + 1))) k 1 (some (k + 2))) k 2 (some (k + 3))), (((ks ++ [(1, 768)]) ++ [(1, 768)]) ++ [(1, 24)]))) : sk_Ct Γ m_X6_init [.ref k] (hi, hr, ks) Q := by
  refine sk_Ct.of ok_X6_init.2.2.2 (Nat.le_of_ble_eq_true rfl) ?_
  refine go_aload_n dX6_init_0 rfl ?_
  refine go_obj (n := 4) dX6_init_1 ml_X6_3 sk_ob1 sk_ob2 (Nat.le_of_ble_eq_true rfl) (Nat.le_of_ble_eq_true rfl) rfl ?_
  refine go_aload_n dX6_init_4 rfl ?_
  refine go_sipush dX6_init_5 (v := 768) (by decide) ?_
  refine go_newiL (N := 768) (m := k + 1) hl dX6_init_8 (by decide) (by decide) (by decide) (Nat.le_of_ble_eq_true rfl) (Nat.le_of_ble_eq_true rfl) ?_
  show sk_Go Γ (sk_M Γ m_X6_init Q) _ _ _ _ ((sk_zi hi (k + 1)), hr, (ks ++ [(1, 768)]))
  refine go_putR dX6_init_10 fl_X6_9 (sk_kl hk) rfl rfl rfl in_X6 on_X6 ?_
  show sk_Go Γ (sk_M Γ m_X6_init Q) _ _ _ _ ((sk_zi hi (k + 1)), (sk_wr hr k 0 (some (k + 1))), (ks ++ [(1, 768)]))
  refine go_aload_n dX6_init_13 rfl ?_
  refine go_sipush dX6_init_14 (v := 768) (by decide) ?_
  refine go_newiL (N := 768) (m := k + 2) (sk_ln hl) dX6_init_17 (by decide) (by decide) (by decide) (Nat.le_of_ble_eq_true rfl) (Nat.le_of_ble_eq_true rfl) ?_
  show sk_Go Γ (sk_M Γ m_X6_init Q) _ _ _ _ ((sk_zi (sk_zi hi (k + 1)) (k + 2)), (sk_wr hr k 0 (some (k + 1))), ((ks ++ [(1, 768)]) ++ [(1, 768)]))
  refine go_putR dX6_init_19 fl_X6_15 (sk_kl (sk_kl hk)) rfl rfl rfl in_X6 on_X6 ?_
  show sk_Go Γ (sk_M Γ m_X6_init Q) _ _ _ _ ((sk_zi (sk_zi hi (k + 1)) (k + 2)), (sk_wr (sk_wr hr k 0 (some (k + 1))) k 1 (some (k + 2))), ((ks ++ [(1, 768)]) ++ [(1, 768)]))
  refine go_aload_n dX6_init_22 rfl ?_
  refine go_bipush dX6_init_23 (v := 24) (by decide) ?_
  refine go_newiL (N := 24) (m := k + 3) (sk_ln (sk_ln hl)) dX6_init_25 (by decide) (by decide) (by decide) (Nat.le_of_ble_eq_true rfl) (Nat.le_of_ble_eq_true rfl) ?_
  show sk_Go Γ (sk_M Γ m_X6_init Q) _ _ _ _ ((sk_zi (sk_zi (sk_zi hi (k + 1)) (k + 2)) (k + 3)), (sk_wr (sk_wr hr k 0 (some (k + 1))) k 1 (some (k + 2))), (((ks ++ [(1, 768)]) ++ [(1, 768)]) ++ [(1, 24)]))
  refine go_putR dX6_init_27 fl_X6_18 (sk_kl (sk_kl (sk_kl hk))) rfl rfl rfl in_X6 on_X6 ?_
  show sk_Go Γ (sk_M Γ m_X6_init Q) _ _ _ _ ((sk_zi (sk_zi (sk_zi hi (k + 1)) (k + 2)) (k + 3)), (sk_wr (sk_wr (sk_wr hr k 0 (some (k + 1))) k 1 (some (k + 2))) k 2 (some (k + 3))), (((ks ++ [(1, 768)]) ++ [(1, 768)]) ++ [(1, 24)]))
  refine go_aload_n dX6_init_30 rfl ?_
  refine go_iconst dX6_init_31 (v := 0) (by decide) ?_
  refine go_putI dX6_init_32 fl_X6_21 (sk_kl (sk_kl (sk_kl hk))) rfl ?_
  show sk_Go Γ (sk_M Γ m_X6_init Q) _ _ _ _ ((sk_wi (sk_zi (sk_zi (sk_zi hi (k + 1)) (k + 2)) (k + 3)) k 3 0), (sk_wr (sk_wr (sk_wr hr k 0 (some (k + 1))) k 1 (some (k + 2))) k 2 (some (k + 3))), (((ks ++ [(1, 768)]) ++ [(1, 768)]) ++ [(1, 24)]))
  refine go_aload_n dX6_init_35 rfl ?_
  refine go_iconst dX6_init_36 (v := (-1)) (by decide) ?_
  refine go_putI dX6_init_37 fl_X6_25 (sk_kl (sk_kl (sk_kl hk))) rfl ?_
  show sk_Go Γ (sk_M Γ m_X6_init Q) _ _ _ _ ((sk_wi (sk_wi (sk_zi (sk_zi (sk_zi hi (k + 1)) (k + 2)) (k + 3)) k 3 0) k 4 (-1)), (sk_wr (sk_wr (sk_wr hr k 0 (some (k + 1))) k 1 (some (k + 2))) k 2 (some (k + 3))), (((ks ++ [(1, 768)]) ++ [(1, 768)]) ++ [(1, 24)]))
  refine go_aload_n dX6_init_40 rfl ?_
  refine go_iconst dX6_init_41 (v := (-1)) (by decide) ?_
  refine go_putI dX6_init_42 fl_X6_28 (sk_kl (sk_kl (sk_kl hk))) rfl ?_
  show sk_Go Γ (sk_M Γ m_X6_init Q) _ _ _ _ ((sk_wi (sk_wi (sk_wi (sk_zi (sk_zi (sk_zi hi (k + 1)) (k + 2)) (k + 3)) k 3 0) k 4 (-1)) k 5 (-1)), (sk_wr (sk_wr (sk_wr hr k 0 (some (k + 1))) k 1 (some (k + 2))) k 2 (some (k + 3))), (((ks ++ [(1, 768)]) ++ [(1, 768)]) ++ [(1, 24)]))
  exact go_vret (μ := m_X6_init) dX6_init_45 rfl (Nat.le_of_ble_eq_true rfl) (Nat.le_of_ble_eq_true rfl) q
theorem c_X7_init (hl : ks.length = k + 1) (hk : ks[k]? = some (0, 6)) (q : Q none ((sk_wi (sk_zi hi (k + 1)) k 1 0), (sk_wr hr k 0 (some (k + 1))), (ks ++ [(1, 24)]))) : sk_Ct Γ m_X7_init [.ref k] (hi, hr, ks) Q := by
  refine sk_Ct.of ok_X7_init.2.2.2 (Nat.le_of_ble_eq_true rfl) ?_
  refine go_aload_n dX7_init_0 rfl ?_
  refine go_obj (n := 4) dX7_init_1 ml_X7_3 sk_ob1 sk_ob2 (Nat.le_of_ble_eq_true rfl) (Nat.le_of_ble_eq_true rfl) rfl ?_
  refine go_aload_n dX7_init_4 rfl ?_
  refine go_bipush dX7_init_5 (v := 24) (by decide) ?_
  refine go_newiL (N := 24) (m := k + 1) hl dX7_init_7 (by decide) (by decide) (by decide) (Nat.le_of_ble_eq_true rfl) (Nat.le_of_ble_eq_true rfl) ?_
  show sk_Go Γ (sk_M Γ m_X7_init Q) _ _ _ _ ((sk_zi hi (k + 1)), hr, (ks ++ [(1, 24)]))
  refine go_putR dX7_init_9 fl_X7_9 (sk_kl hk) rfl rfl rfl in_X7 on_X7 ?_
  show sk_Go Γ (sk_M Γ m_X7_init Q) _ _ _ _ ((sk_zi hi (k + 1)), (sk_wr hr k 0 (some (k + 1))), (ks ++ [(1, 24)]))
  refine go_aload_n dX7_init_12 rfl ?_
  refine go_iconst dX7_init_13 (v := 0) (by decide) ?_
  refine go_putI dX7_init_14 fl_X7_15 (sk_kl hk) rfl ?_
  show sk_Go Γ (sk_M Γ m_X7_init Q) _ _ _ _ ((sk_wi (sk_zi hi (k + 1)) k 1 0), (sk_wr hr k 0 (some (k + 1))), (ks ++ [(1, 24)]))
  exact go_vret (μ := m_X7_init) dX7_init_17 rfl (Nat.le_of_ble_eq_true rfl) (Nat.le_of_ble_eq_true rfl) q
theorem c_X2_init (hl : ks.length = k + 1) (hk : ks[k]? = some (0, 1)) (q : Q none ((sk_zi hi (k + 1)), (sk_wr hr k 0 (some (k + 1))), (ks ++ [(1, 31)]))) : sk_Ct Γ m_X2_init [.ref k] (hi, hr, ks) Q := by
  refine sk_Ct.of ok_X2_init.2.2.2 (Nat.le_of_ble_eq_true rfl) ?_
  refine go_aload_n dX2_init_0 rfl ?_
  refine go_obj (n := 4) dX2_init_1 ml_X2_3 sk_ob1 sk_ob2 (Nat.le_of_ble_eq_true rfl) (Nat.le_of_ble_eq_true rfl) rfl ?_
  refine go_aload_n dX2_init_4 rfl ?_
  refine go_bipush dX2_init_5 (v := 31) (by decide) ?_
  refine go_newiL (N := 31) (m := k + 1) hl dX2_init_7 (by decide) (by decide) (by decide) (Nat.le_of_ble_eq_true rfl) (Nat.le_of_ble_eq_true rfl) ?_
  show sk_Go Γ (sk_M Γ m_X2_init Q) _ _ _ _ ((sk_zi hi (k + 1)), hr, (ks ++ [(1, 31)]))
  refine go_putR dX2_init_9 fl_X2_9 (sk_kl hk) rfl rfl rfl in_X2 on_X2 ?_
  show sk_Go Γ (sk_M Γ m_X2_init Q) _ _ _ _ ((sk_zi hi (k + 1)), (sk_wr hr k 0 (some (k + 1))), (ks ++ [(1, 31)]))
  exact go_vret (μ := m_X2_init) dX2_init_12 rfl (Nat.le_of_ble_eq_true rfl) (Nat.le_of_ble_eq_true rfl) q
theorem c_X5_init (hl : ks.length = k + 1) (hk : ks[k]? = some (0, 4)) (q : ∀ hi', (∀ a, a ≠ k + 1 → hi' a = hi a) → (∀ i, i < 744 → hi' (k + 1) i = -1) → Q none (hi', (sk_wr hr k 0 (some (k + 1))), (ks ++ [(1, 744)]))) : sk_Ct Γ m_X5_init [.ref k] (hi, hr, ks) Q := by
  refine sk_Ct.of ok_X5_init.2.2.2 (Nat.le_of_ble_eq_true rfl) ?_
  refine go_aload_n dX5_init_0 rfl ?_
  refine go_obj (n := 4) dX5_init_1 ml_X5_3 sk_ob1 sk_ob2 (Nat.le_of_ble_eq_true rfl) (Nat.le_of_ble_eq_true rfl) rfl ?_
  refine go_aload_n dX5_init_4 rfl ?_
  refine go_sipush dX5_init_5 (v := 744) (by decide) ?_
  refine go_newiL (N := 744) (m := k + 1) hl dX5_init_8 (by decide) (by decide) (by decide) (Nat.le_of_ble_eq_true rfl) (Nat.le_of_ble_eq_true rfl) ?_
  show sk_Go Γ (sk_M Γ m_X5_init Q) _ _ _ _ ((sk_zi hi (k + 1)), hr, (ks ++ [(1, 744)]))
  refine go_putR dX5_init_10 fl_X5_9 (sk_kl hk) rfl rfl rfl in_X5 on_X5 ?_
  show sk_Go Γ (sk_M Γ m_X5_init Q) _ _ _ _ ((sk_zi hi (k + 1)), (sk_wr hr k 0 (some (k + 1))), (ks ++ [(1, 744)]))
  refine go_iconst dX5_init_13 (v := 0) (by decide) ?_
  refine go_istore_n dX5_init_14 (Nat.le_of_ble_eq_true rfl) ?_
  have loop : ∀ n i (hi1 : Nat → Nat → Int32), i + n = 744 → (∀ a, a ≠ k + 1 → hi1 a = hi a) → (∀ j, j < i → hi1 (k + 1) j = -1) → sk_Go Γ (sk_M Γ m_X5_init Q) (1, 744) 15 [some (.ref k), some (.int (nI i))] [] (hi1, (sk_wr hr k 0 (some (k + 1))), (ks ++ [(1, 744)])) := by
    intro n
    induction n with
    | zero =>
      intro i hi1 hn ho hv
      have : i = 744 := by omega
      subst this
      refine go_iload_n dX5_init_15 rfl ?_
      refine go_aload_n dX5_init_16 rfl ?_
      refine go_getR (a := k + 1) dX5_init_17 fl_X5_9 (sk_kl hk) rfl (sk_wr_self _ _ _ _) ?_
      refine go_alen dX5_init_20 (sk_kn hl) (v := 744) (by decide) ?_
      refine go_icmp_ge (tgt := 37) dX5_init_21 (by decide) (fun _ => ?_) (fun c => absurd (nI_le (a := 744) (Nat.le_refl 744) (by decide)) c)
      exact go_vret (μ := m_X5_init) dX5_init_37 rfl (Nat.le_of_ble_eq_true rfl) (Nat.le_of_ble_eq_true rfl) (q hi1 ho hv)
    | succ n ih =>
      intro i hi1 hn ho hv
      refine go_iload_n dX5_init_15 rfl ?_
      refine go_aload_n dX5_init_16 rfl ?_
      refine go_getR (a := k + 1) dX5_init_17 fl_X5_9 (sk_kl hk) rfl (sk_wr_self _ _ _ _) ?_
      refine go_alen dX5_init_20 (sk_kn hl) (v := 744) (by decide) ?_
      refine go_icmp_ge (tgt := 37) dX5_init_21 (by decide) (fun c => absurd c (nI_ge (b := 744) (by omega) (by decide))) (fun _ => ?_)
      refine go_aload_n dX5_init_24 rfl ?_
      refine go_getR (a := k + 1) dX5_init_25 fl_X5_9 (sk_kl hk) rfl (sk_wr_self _ _ _ _) ?_
      refine go_iload_n dX5_init_28 rfl ?_
      refine go_iconst dX5_init_29 (v := -1) (by decide) ?_
      refine go_iast dX5_init_30 (sk_kn hl) (vp_in_nI (by omega) (by decide)) ?_
      refine go_iinc (v := nI (i + 1)) dX5_init_31 rfl (nI_1 i) (Nat.le_of_ble_eq_true rfl) ?_
      refine go_goto (tgt := 15) dX5_init_34 (by decide) ?_
      rw [nI_clamp (by omega)]
      refine ih (i + 1) (sk_wi hi1 (k + 1) i (-1)) (by omega) (fun a ha => by rw [sk_wi_o _ _ _ ha, ho a ha]) (fun j hj => ?_)
      by_cases z : j = i
      · subst z; exact sk_wi_self _ _ _ _
      · rw [sk_wi_ne _ _ z]; exact hv j (by omega)
  exact loop 744 0 (sk_zi hi (k + 1)) (by omega) (fun a ha => by rw [sk_zi_o _ ha]) (fun j hj => by omega)
theorem c_X9_init (hl : ks.length = k + 1) (hk : ks[k]? = some (0, 8)) (q : ∀ hi', (∀ a, a < k → hi' a = hi a) → (∀ i, i < 744 → hi' (k + 1) (20 + 2 * i) = -1) → (∀ j, (∀ i, i < 744 → j ≠ 20 + 2 * i) → hi' (k + 1) j = if j = 0 then 3 else if j = 1 then 20 else if j = 2 then 2 else 0) → (∀ j, hi' (k + 2) j = 0) → Q none (hi', (sk_wr (sk_wr (sk_wr (sk_wr (sk_wr (sk_wr (sk_wr hr k 0 (some (k + 1))) k 1 (some (k + 2))) k 2 (some (k + 3))) k 3 (some (k + 4))) k 4 (some (k + 5))) k 8 (some (k + 6))) k 9 (some (k + 7))), (((((((ks ++ [(1, 18368)]) ++ [(2, 3)]) ++ [(1, 768)]) ++ [(1, 768)]) ++ [(2, 24)]) ++ [(1, 24)]) ++ [(1, 24)]))) : sk_Ct Γ m_X9_init [.ref k] (hi, hr, ks) Q := by
  refine sk_Ct.of ok_X9_init.2.2.2 (Nat.le_of_ble_eq_true rfl) ?_
  refine go_aload_n dX9_init_0 rfl ?_
  refine go_obj (n := 4) dX9_init_1 ml_X9_1 sk_ob1 sk_ob2 (Nat.le_of_ble_eq_true rfl) (Nat.le_of_ble_eq_true rfl) rfl ?_
  refine go_aload_n dX9_init_4 rfl ?_
  refine go_sipush dX9_init_5 (v := 18368) (by decide) ?_
  refine go_newiL (N := 18368) (m := k + 1) hl dX9_init_8 (by decide) (by decide) (by decide) (Nat.le_of_ble_eq_true rfl) (Nat.le_of_ble_eq_true rfl) ?_
  show sk_Go Γ (sk_M Γ m_X9_init Q) _ _ _ _ ((sk_zi hi (k + 1)), hr, (ks ++ [(1, 18368)]))
  refine go_putR dX9_init_10 fl_X9_7 (sk_kl hk) rfl rfl rfl in_X9 on_X9 ?_
  show sk_Go Γ (sk_M Γ m_X9_init Q) _ _ _ _ ((sk_zi hi (k + 1)), (sk_wr hr k 0 (some (k + 1))), (ks ++ [(1, 18368)]))
  refine go_aload_n dX9_init_13 rfl ?_
  refine go_iconst dX9_init_14 (v := 3) (by decide) ?_
  refine go_newzL (N := 3) (m := k + 2) (sk_ln hl) dX9_init_15 (by decide) (by decide) (by decide) (Nat.le_of_ble_eq_true rfl) (Nat.le_of_ble_eq_true rfl) ?_
  show sk_Go Γ (sk_M Γ m_X9_init Q) _ _ _ _ ((sk_zi (sk_zi hi (k + 1)) (k + 2)), (sk_wr hr k 0 (some (k + 1))), ((ks ++ [(1, 18368)]) ++ [(2, 3)]))
  refine go_putR dX9_init_17 fl_X9_13 (sk_kl (sk_kl hk)) rfl rfl rfl in_X9 on_X9 ?_
  show sk_Go Γ (sk_M Γ m_X9_init Q) _ _ _ _ ((sk_zi (sk_zi hi (k + 1)) (k + 2)), (sk_wr (sk_wr hr k 0 (some (k + 1))) k 1 (some (k + 2))), ((ks ++ [(1, 18368)]) ++ [(2, 3)]))
  refine go_aload_n dX9_init_20 rfl ?_
  refine go_sipush dX9_init_21 (v := 768) (by decide) ?_
  refine go_newiL (N := 768) (m := k + 3) (sk_ln (sk_ln hl)) dX9_init_24 (by decide) (by decide) (by decide) (Nat.le_of_ble_eq_true rfl) (Nat.le_of_ble_eq_true rfl) ?_
  show sk_Go Γ (sk_M Γ m_X9_init Q) _ _ _ _ ((sk_zi (sk_zi (sk_zi hi (k + 1)) (k + 2)) (k + 3)), (sk_wr (sk_wr hr k 0 (some (k + 1))) k 1 (some (k + 2))), (((ks ++ [(1, 18368)]) ++ [(2, 3)]) ++ [(1, 768)]))
  refine go_putR dX9_init_26 fl_X9_17 (sk_kl (sk_kl (sk_kl hk))) rfl rfl rfl in_X9 on_X9 ?_
  show sk_Go Γ (sk_M Γ m_X9_init Q) _ _ _ _ ((sk_zi (sk_zi (sk_zi hi (k + 1)) (k + 2)) (k + 3)), (sk_wr (sk_wr (sk_wr hr k 0 (some (k + 1))) k 1 (some (k + 2))) k 2 (some (k + 3))), (((ks ++ [(1, 18368)]) ++ [(2, 3)]) ++ [(1, 768)]))
  refine go_aload_n dX9_init_29 rfl ?_
  refine go_sipush dX9_init_30 (v := 768) (by decide) ?_
  refine go_newiL (N := 768) (m := k + 4) (sk_ln (sk_ln (sk_ln hl))) dX9_init_33 (by decide) (by decide) (by decide) (Nat.le_of_ble_eq_true rfl) (Nat.le_of_ble_eq_true rfl) ?_
  show sk_Go Γ (sk_M Γ m_X9_init Q) _ _ _ _ ((sk_zi (sk_zi (sk_zi (sk_zi hi (k + 1)) (k + 2)) (k + 3)) (k + 4)), (sk_wr (sk_wr (sk_wr hr k 0 (some (k + 1))) k 1 (some (k + 2))) k 2 (some (k + 3))), ((((ks ++ [(1, 18368)]) ++ [(2, 3)]) ++ [(1, 768)]) ++ [(1, 768)]))
  refine go_putR dX9_init_35 fl_X9_20 (sk_kl (sk_kl (sk_kl (sk_kl hk)))) rfl rfl rfl in_X9 on_X9 ?_
  show sk_Go Γ (sk_M Γ m_X9_init Q) _ _ _ _ ((sk_zi (sk_zi (sk_zi (sk_zi hi (k + 1)) (k + 2)) (k + 3)) (k + 4)), (sk_wr (sk_wr (sk_wr (sk_wr hr k 0 (some (k + 1))) k 1 (some (k + 2))) k 2 (some (k + 3))) k 3 (some (k + 4))), ((((ks ++ [(1, 18368)]) ++ [(2, 3)]) ++ [(1, 768)]) ++ [(1, 768)]))
  refine go_aload_n dX9_init_38 rfl ?_
  refine go_bipush dX9_init_39 (v := 24) (by decide) ?_
  refine go_newzL (N := 24) (m := k + 5) (sk_ln (sk_ln (sk_ln (sk_ln hl)))) dX9_init_41 (by decide) (by decide) (by decide) (Nat.le_of_ble_eq_true rfl) (Nat.le_of_ble_eq_true rfl) ?_
  show sk_Go Γ (sk_M Γ m_X9_init Q) _ _ _ _ ((sk_zi (sk_zi (sk_zi (sk_zi (sk_zi hi (k + 1)) (k + 2)) (k + 3)) (k + 4)) (k + 5)), (sk_wr (sk_wr (sk_wr (sk_wr hr k 0 (some (k + 1))) k 1 (some (k + 2))) k 2 (some (k + 3))) k 3 (some (k + 4))), (((((ks ++ [(1, 18368)]) ++ [(2, 3)]) ++ [(1, 768)]) ++ [(1, 768)]) ++ [(2, 24)]))
  refine go_putR dX9_init_43 fl_X9_23 (sk_kl (sk_kl (sk_kl (sk_kl (sk_kl hk))))) rfl rfl rfl in_X9 on_X9 ?_
  show sk_Go Γ (sk_M Γ m_X9_init Q) _ _ _ _ ((sk_zi (sk_zi (sk_zi (sk_zi (sk_zi hi (k + 1)) (k + 2)) (k + 3)) (k + 4)) (k + 5)), (sk_wr (sk_wr (sk_wr (sk_wr (sk_wr hr k 0 (some (k + 1))) k 1 (some (k + 2))) k 2 (some (k + 3))) k 3 (some (k + 4))) k 4 (some (k + 5))), (((((ks ++ [(1, 18368)]) ++ [(2, 3)]) ++ [(1, 768)]) ++ [(1, 768)]) ++ [(2, 24)]))
  refine go_aload_n dX9_init_46 rfl ?_
  refine go_bipush dX9_init_47 (v := 24) (by decide) ?_
  refine go_newiL (N := 24) (m := k + 6) (sk_ln (sk_ln (sk_ln (sk_ln (sk_ln hl))))) dX9_init_49 (by decide) (by decide) (by decide) (Nat.le_of_ble_eq_true rfl) (Nat.le_of_ble_eq_true rfl) ?_
  show sk_Go Γ (sk_M Γ m_X9_init Q) _ _ _ _ ((sk_zi (sk_zi (sk_zi (sk_zi (sk_zi (sk_zi hi (k + 1)) (k + 2)) (k + 3)) (k + 4)) (k + 5)) (k + 6)), (sk_wr (sk_wr (sk_wr (sk_wr (sk_wr hr k 0 (some (k + 1))) k 1 (some (k + 2))) k 2 (some (k + 3))) k 3 (some (k + 4))) k 4 (some (k + 5))), ((((((ks ++ [(1, 18368)]) ++ [(2, 3)]) ++ [(1, 768)]) ++ [(1, 768)]) ++ [(2, 24)]) ++ [(1, 24)]))
  refine go_putR dX9_init_51 fl_X9_26 (sk_kl (sk_kl (sk_kl (sk_kl (sk_kl (sk_kl hk)))))) rfl rfl rfl in_X9 on_X9 ?_
  show sk_Go Γ (sk_M Γ m_X9_init Q) _ _ _ _ ((sk_zi (sk_zi (sk_zi (sk_zi (sk_zi (sk_zi hi (k + 1)) (k + 2)) (k + 3)) (k + 4)) (k + 5)) (k + 6)), (sk_wr (sk_wr (sk_wr (sk_wr (sk_wr (sk_wr hr k 0 (some (k + 1))) k 1 (some (k + 2))) k 2 (some (k + 3))) k 3 (some (k + 4))) k 4 (some (k + 5))) k 8 (some (k + 6))), ((((((ks ++ [(1, 18368)]) ++ [(2, 3)]) ++ [(1, 768)]) ++ [(1, 768)]) ++ [(2, 24)]) ++ [(1, 24)]))
  refine go_aload_n dX9_init_54 rfl ?_
  refine go_bipush dX9_init_55 (v := 24) (by decide) ?_
  refine go_newiL (N := 24) (m := k + 7) (sk_ln (sk_ln (sk_ln (sk_ln (sk_ln (sk_ln hl)))))) dX9_init_57 (by decide) (by decide) (by decide) (Nat.le_of_ble_eq_true rfl) (Nat.le_of_ble_eq_true rfl) ?_
  show sk_Go Γ (sk_M Γ m_X9_init Q) _ _ _ _ ((sk_zi (sk_zi (sk_zi (sk_zi (sk_zi (sk_zi (sk_zi hi (k + 1)) (k + 2)) (k + 3)) (k + 4)) (k + 5)) (k + 6)) (k + 7)), (sk_wr (sk_wr (sk_wr (sk_wr (sk_wr (sk_wr hr k 0 (some (k + 1))) k 1 (some (k + 2))) k 2 (some (k + 3))) k 3 (some (k + 4))) k 4 (some (k + 5))) k 8 (some (k + 6))), (((((((ks ++ [(1, 18368)]) ++ [(2, 3)]) ++ [(1, 768)]) ++ [(1, 768)]) ++ [(2, 24)]) ++ [(1, 24)]) ++ [(1, 24)]))
  refine go_putR dX9_init_59 fl_X9_29 (sk_kl (sk_kl (sk_kl (sk_kl (sk_kl (sk_kl (sk_kl hk))))))) rfl rfl rfl in_X9 on_X9 ?_
  show sk_Go Γ (sk_M Γ m_X9_init Q) _ _ _ _ ((sk_zi (sk_zi (sk_zi (sk_zi (sk_zi (sk_zi (sk_zi hi (k + 1)) (k + 2)) (k + 3)) (k + 4)) (k + 5)) (k + 6)) (k + 7)), (sk_wr (sk_wr (sk_wr (sk_wr (sk_wr (sk_wr (sk_wr hr k 0 (some (k + 1))) k 1 (some (k + 2))) k 2 (some (k + 3))) k 3 (some (k + 4))) k 4 (some (k + 5))) k 8 (some (k + 6))) k 9 (some (k + 7))), (((((((ks ++ [(1, 18368)]) ++ [(2, 3)]) ++ [(1, 768)]) ++ [(1, 768)]) ++ [(2, 24)]) ++ [(1, 24)]) ++ [(1, 24)]))
  refine go_aload_n dX9_init_62 rfl ?_
  refine go_getR (a := k + 1) dX9_init_63 fl_X9_7 (sk_kl (sk_kl (sk_kl (sk_kl (sk_kl (sk_kl (sk_kl hk))))))) rfl (by simp [sk_wr, va_up]) ?_
  refine go_iconst dX9_init_66 (v := 0) (by decide) ?_
  refine go_iconst dX9_init_67 (v := 3) (by decide) ?_
  refine go_iast dX9_init_68 (sk_kl (sk_kl (sk_kl (sk_kl (sk_kl (sk_kl (sk_kn hl))))))) (show ¬ (_ ∨ _) by decide) ?_
  show sk_Go Γ (sk_M Γ m_X9_init Q) _ _ _ _ ((sk_wi (sk_zi (sk_zi (sk_zi (sk_zi (sk_zi (sk_zi (sk_zi hi (k + 1)) (k + 2)) (k + 3)) (k + 4)) (k + 5)) (k + 6)) (k + 7)) (k + 1) 0 3), (sk_wr (sk_wr (sk_wr (sk_wr (sk_wr (sk_wr (sk_wr hr k 0 (some (k + 1))) k 1 (some (k + 2))) k 2 (some (k + 3))) k 3 (some (k + 4))) k 4 (some (k + 5))) k 8 (some (k + 6))) k 9 (some (k + 7))), (((((((ks ++ [(1, 18368)]) ++ [(2, 3)]) ++ [(1, 768)]) ++ [(1, 768)]) ++ [(2, 24)]) ++ [(1, 24)]) ++ [(1, 24)]))
  refine go_aload_n dX9_init_69 rfl ?_
  refine go_getR (a := k + 1) dX9_init_70 fl_X9_7 (sk_kl (sk_kl (sk_kl (sk_kl (sk_kl (sk_kl (sk_kl hk))))))) rfl (by simp [sk_wr, va_up]) ?_
  refine go_iconst dX9_init_73 (v := 1) (by decide) ?_
  refine go_bipush dX9_init_74 (v := 20) (by decide) ?_
  refine go_iast dX9_init_76 (sk_kl (sk_kl (sk_kl (sk_kl (sk_kl (sk_kl (sk_kn hl))))))) (show ¬ (_ ∨ _) by decide) ?_
  show sk_Go Γ (sk_M Γ m_X9_init Q) _ _ _ _ ((sk_wi (sk_wi (sk_zi (sk_zi (sk_zi (sk_zi (sk_zi (sk_zi (sk_zi hi (k + 1)) (k + 2)) (k + 3)) (k + 4)) (k + 5)) (k + 6)) (k + 7)) (k + 1) 0 3) (k + 1) 1 20), (sk_wr (sk_wr (sk_wr (sk_wr (sk_wr (sk_wr (sk_wr hr k 0 (some (k + 1))) k 1 (some (k + 2))) k 2 (some (k + 3))) k 3 (some (k + 4))) k 4 (some (k + 5))) k 8 (some (k + 6))) k 9 (some (k + 7))), (((((((ks ++ [(1, 18368)]) ++ [(2, 3)]) ++ [(1, 768)]) ++ [(1, 768)]) ++ [(2, 24)]) ++ [(1, 24)]) ++ [(1, 24)]))
  refine go_aload_n dX9_init_77 rfl ?_
  refine go_getR (a := k + 1) dX9_init_78 fl_X9_7 (sk_kl (sk_kl (sk_kl (sk_kl (sk_kl (sk_kl (sk_kl hk))))))) rfl (by simp [sk_wr, va_up]) ?_
  refine go_iconst dX9_init_81 (v := 2) (by decide) ?_
  refine go_iconst dX9_init_82 (v := 2) (by decide) ?_
  refine go_iast dX9_init_83 (sk_kl (sk_kl (sk_kl (sk_kl (sk_kl (sk_kl (sk_kn hl))))))) (show ¬ (_ ∨ _) by decide) ?_
  show sk_Go Γ (sk_M Γ m_X9_init Q) _ _ _ _ ((sk_wi (sk_wi (sk_wi (sk_zi (sk_zi (sk_zi (sk_zi (sk_zi (sk_zi (sk_zi hi (k + 1)) (k + 2)) (k + 3)) (k + 4)) (k + 5)) (k + 6)) (k + 7)) (k + 1) 0 3) (k + 1) 1 20) (k + 1) 2 2), (sk_wr (sk_wr (sk_wr (sk_wr (sk_wr (sk_wr (sk_wr hr k 0 (some (k + 1))) k 1 (some (k + 2))) k 2 (some (k + 3))) k 3 (some (k + 4))) k 4 (some (k + 5))) k 8 (some (k + 6))) k 9 (some (k + 7))), (((((((ks ++ [(1, 18368)]) ++ [(2, 3)]) ++ [(1, 768)]) ++ [(1, 768)]) ++ [(2, 24)]) ++ [(1, 24)]) ++ [(1, 24)]))
  refine go_iconst dX9_init_84 (v := 0) (by decide) ?_
  refine go_istore_n dX9_init_85 (Nat.le_of_ble_eq_true rfl) ?_
  have loop : ∀ n i (hi1 : Nat → Nat → Int32), i + n = 744 → (∀ a, a < k → hi1 a = hi a) → (∀ j, j < i → hi1 (k + 1) (20 + 2 * j) = -1) → (∀ j, (∀ i, i < 744 → j ≠ 20 + 2 * i) → hi1 (k + 1) j = if j = 0 then 3 else if j = 1 then 20 else if j = 2 then 2 else 0) → (∀ j, hi1 (k + 2) j = 0) → sk_Go Γ (sk_M Γ m_X9_init Q) (7, 19979) 86 [some (.ref k), some (.int (nI i))] [] (hi1, (sk_wr (sk_wr (sk_wr (sk_wr (sk_wr (sk_wr (sk_wr hr k 0 (some (k + 1))) k 1 (some (k + 2))) k 2 (some (k + 3))) k 3 (some (k + 4))) k 4 (some (k + 5))) k 8 (some (k + 6))) k 9 (some (k + 7))), (((((((ks ++ [(1, 18368)]) ++ [(2, 3)]) ++ [(1, 768)]) ++ [(1, 768)]) ++ [(2, 24)]) ++ [(1, 24)]) ++ [(1, 24)])) := by
    intro n
    induction n with
    | zero =>
      intro i hi1 hn ho hv hw hz
      have : i = 744 := by omega
      subst this
      refine go_iload_n dX9_init_86 rfl ?_
      refine go_sipush dX9_init_87 (v := 744) (by decide) ?_
      refine go_icmp_ge (tgt := 111) dX9_init_90 (by decide) (fun _ => ?_) (fun c => absurd (nI_le (a := 744) (Nat.le_refl 744) (by decide)) c)
      exact go_vret (μ := m_X9_init) dX9_init_111 rfl (Nat.le_of_ble_eq_true rfl) (Nat.le_of_ble_eq_true rfl) (q hi1 ho hv hw hz)
    | succ n ih =>
      intro i hi1 hn ho hv hw hz
      have e : 20 + 2 * nI i = nI (20 + 2 * i) := by
        rw [show (2 : Int32) = nI 2 from rfl, show (20 : Int32) = nI 20 from rfl, pk_mul, nI_add]
      refine go_iload_n dX9_init_86 rfl ?_
      refine go_sipush dX9_init_87 (v := 744) (by decide) ?_
      refine go_icmp_ge (tgt := 111) dX9_init_90 (by decide) (fun c => absurd c (nI_ge (b := 744) (by omega) (by decide))) (fun _ => ?_)
      refine go_aload_n dX9_init_93 rfl ?_
      refine go_getR (a := k + 1) dX9_init_94 fl_X9_7 (sk_kl (sk_kl (sk_kl (sk_kl (sk_kl (sk_kl (sk_kl hk))))))) rfl (by simp [sk_wr, va_up]) ?_
      refine go_bipush dX9_init_97 (v := 20) (by decide) ?_
      refine go_iconst dX9_init_99 (v := 2) (by decide) ?_
      refine go_iload_n dX9_init_100 rfl ?_
      refine go_imul dX9_init_101 ?_
      refine go_iadd dX9_init_102 ?_
      rw [e]
      refine go_iconst dX9_init_103 (v := -1) (by decide) ?_
      refine go_iast dX9_init_104 (sk_kl (sk_kl (sk_kl (sk_kl (sk_kl (sk_kl (sk_kn hl))))))) (vp_in_nI (by omega) (by decide)) ?_
      refine go_iinc (v := nI (i + 1)) dX9_init_105 rfl (nI_1 i) (Nat.le_of_ble_eq_true rfl) ?_
      refine go_goto (tgt := 86) dX9_init_108 (by decide) ?_
      rw [nI_clamp (by omega)]
      refine ih (i + 1) (sk_wi hi1 (k + 1) (20 + 2 * i) (-1)) (by omega) (fun a ha => by rw [sk_wi_o _ _ _ (by omega), ho a ha]) (fun j hj => ?_) (fun j hj => ?_) (fun j => by rw [sk_wi_o _ _ _ (by omega)]; exact hz j)
      · by_cases z : j = i
        · subst z; exact sk_wi_self _ _ _ _
        · rw [sk_wi_ne _ _ (by omega)]; exact hv j (by omega)
      · rw [sk_wi_ne _ _ (hj i (by omega))]; exact hw j hj
  refine loop 744 0 (sk_wi (sk_wi (sk_wi (sk_zi (sk_zi (sk_zi (sk_zi (sk_zi (sk_zi (sk_zi hi (k + 1)) (k + 2)) (k + 3)) (k + 4)) (k + 5)) (k + 6)) (k + 7)) (k + 1) 0 3) (k + 1) 1 20) (k + 1) 2 2) (by omega) (fun a ha => ?_) (fun j hj => by omega) (fun j hj => ?_) (fun j => ?_)
  · rw [sk_wi_o _ _ _ (by omega), sk_wi_o _ _ _ (by omega), sk_wi_o _ _ _ (by omega), sk_zi_o _ (by omega), sk_zi_o _ (by omega), sk_zi_o _ (by omega), sk_zi_o _ (by omega), sk_zi_o _ (by omega), sk_zi_o _ (by omega), sk_zi_o _ (by omega)]
  · rw [sk_wi_if, sk_wi_if, sk_wi_if]
    by_cases j2 : j = 2
    · subst j2; rfl
    · rw [if_neg j2]
      by_cases j1 : j = 1
      · subst j1; rfl
      · rw [if_neg j1]
        by_cases j0 : j = 0
        · subst j0; rfl
        · rw [if_neg j0, if_neg j0, if_neg j1, if_neg j2, sk_zi_o _ (by omega), sk_zi_o _ (by omega), sk_zi_o _ (by omega), sk_zi_o _ (by omega), sk_zi_o _ (by omega), sk_zi_o _ (by omega), sk_zi_self]
  · rw [sk_wi_o _ _ _ (by omega), sk_wi_o _ _ _ (by omega), sk_wi_o _ _ _ (by omega), sk_zi_o _ (by omega), sk_zi_o _ (by omega), sk_zi_o _ (by omega), sk_zi_o _ (by omega), sk_zi_o _ (by omega), sk_zi_self]
end INIT2
