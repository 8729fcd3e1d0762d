/-! New objects: the places of a new object and of what its constructor makes lie one behind the other. -/
theorem sk_kl {l l' : List (Nat × Nat)} {k : Nat} {v : Nat × Nat} (h : l[k]? = some v) : (l ++ l')[k]? = some v := by
  rw [List.getElem?_append_left (List.getElem?_eq_some_iff.mp h).1]
  exact h
theorem sk_kn {l : List (Nat × Nat)} {m : Nat} {v : Nat × Nat} (h : l.length = m) : (l ++ [v])[m]? = some v := by
  subst h
  rw [List.getElem?_append_right (Nat.le_refl _), Nat.sub_self]
  rfl
theorem sk_ln {l : List (Nat × Nat)} {m : Nat} {v : Nat × Nat} (h : l.length = m) : (l ++ [v]).length = m + 1 := by
  rw [List.length_append, h]
  rfl
theorem sk_ob1 : Cond.instanceMethod Lib.objectInit ∈ lw_g := sk_ix 20 (by decide +kernel) rfl
theorem sk_ob2 : Cond.code Lib.objectInit ⟨#[0xb1]⟩ 1 none ∈ lw_g := sk_ix 21 (by decide +kernel) rfl
theorem sk_acI : Cond.arrayClass .int ∈ lw_g := sk_ix 53 (by decide +kernel) rfl
theorem sk_cp1 : Cond.native arraycopyName ∈ lw_g := sk_ix 515 (by decide +kernel) rfl
theorem sk_cp2 : Cond.static arraycopyName ∈ lw_g := sk_ix 514 (by decide +kernel) rfl
theorem sk_cp3 : Cond.initialized "java/lang/System" ∈ lw_g := sk_ix 13 (by decide +kernel) rfl
theorem sk_acZ : Cond.arrayClass .boolean ∈ lw_g := sk_ix 567 (by decide +kernel) rfl
theorem iz_X0 : Cond.initialized RX0 ∈ lw_g := sk_ix 3 (by decide +kernel) rfl
theorem ia_X0 : Cond.instantiable RX0 5 ∈ lw_g := sk_ix 29 (by decide +kernel) rfl
theorem df_X0 : ∀ k, k < 5 → defaultValue (sk_ty 0 k) = if sk_isI (sk_ty 0 k) = true then .int 0 else .null := by decide +kernel
theorem in_X0 : decide (yX0_init.name = "<init>") = true := by decide +kernel
theorem on_X0 : ∀ C T N, vwCl[0]? = some (C, T, N) → C = RX0 := fun C T N h => (congrArg (fun z : String × u_T × Nat => z.1) (Option.some.inj (show some (RX0, TX0, 5) = some (C, T, N) from h))).symm
theorem iz_X2 : Cond.initialized RX2 ∈ lw_g := sk_ix 8 (by decide +kernel) rfl
theorem ia_X2 : Cond.instantiable RX2 1 ∈ lw_g := sk_ix 144 (by decide +kernel) rfl
theorem df_X2 : ∀ k, k < 1 → defaultValue (sk_ty 1 k) = if sk_isI (sk_ty 1 k) = true then .int 0 else .null := by decide +kernel
theorem in_X2 : decide (yX2_init.name = "<init>") = true := by decide +kernel
theorem on_X2 : ∀ C T N, vwCl[1]? = some (C, T, N) → C = RX2 := fun C T N h => (congrArg (fun z : String × u_T × Nat => z.1) (Option.some.inj (show some (RX2, TX2, 1) = some (C, T, N) from h))).symm
theorem iz_X3 : Cond.initialized RX3 ∈ lw_g := sk_ix 2 (by decide +kernel) rfl
theorem ia_X3 : Cond.instantiable RX3 3 ∈ lw_g := sk_ix 23 (by decide +kernel) rfl
theorem df_X3 : ∀ k, k < 3 → defaultValue (sk_ty 2 k) = if sk_isI (sk_ty 2 k) = true then .int 0 else .null := by decide +kernel
theorem in_X3 : decide (yX3_init.name = "<init>") = true := by decide +kernel
theorem on_X3 : ∀ C T N, vwCl[2]? = some (C, T, N) → C = RX3 := fun C T N h => (congrArg (fun z : String × u_T × Nat => z.1) (Option.some.inj (show some (RX3, TX3, 3) = some (C, T, N) from h))).symm
theorem iz_X4 : Cond.initialized RX4 ∈ lw_g := sk_ix 5 (by decide +kernel) rfl
theorem ia_X4 : Cond.instantiable RX4 4 ∈ lw_g := sk_ix 65 (by decide +kernel) rfl
theorem df_X4 : ∀ k, k < 4 → defaultValue (sk_ty 3 k) = if sk_isI (sk_ty 3 k) = true then .int 0 else .null := by decide +kernel
theorem in_X4 : decide (yX4_init.name = "<init>") = true := by decide +kernel
theorem on_X4 : ∀ C T N, vwCl[3]? = some (C, T, N) → C = RX4 := fun C T N h => (congrArg (fun z : String × u_T × Nat => z.1) (Option.some.inj (show some (RX4, TX4, 4) = some (C, T, N) from h))).symm
theorem iz_X5 : Cond.initialized RX5 ∈ lw_g := sk_ix 4 (by decide +kernel) rfl
theorem ia_X5 : Cond.instantiable RX5 1 ∈ lw_g := sk_ix 55 (by decide +kernel) rfl
theorem df_X5 : ∀ k, k < 1 → defaultValue (sk_ty 4 k) = if sk_isI (sk_ty 4 k) = true then .int 0 else .null := by decide +kernel
theorem in_X5 : decide (yX5_init.name = "<init>") = true := by decide +kernel
theorem on_X5 : ∀ C T N, vwCl[4]? = some (C, T, N) → C = RX5 := fun C T N h => (congrArg (fun z : String × u_T × Nat => z.1) (Option.some.inj (show some (RX5, TX5, 1) = some (C, T, N) from h))).symm
theorem iz_X6 : Cond.initialized RX6 ∈ lw_g := sk_ix 6 (by decide +kernel) rfl
theorem ia_X6 : Cond.instantiable RX6 6 ∈ lw_g := sk_ix 100 (by decide +kernel) rfl
theorem df_X6 : ∀ k, k < 6 → defaultValue (sk_ty 5 k) = if sk_isI (sk_ty 5 k) = true then .int 0 else .null := by decide +kernel
theorem in_X6 : decide (yX6_init.name = "<init>") = true := by decide +kernel
theorem on_X6 : ∀ C T N, vwCl[5]? = some (C, T, N) → C = RX6 := fun C T N h => (congrArg (fun z : String × u_T × Nat => z.1) (Option.some.inj (show some (RX6, TX6, 6) = some (C, T, N) from h))).symm
theorem iz_X7 : Cond.initialized RX7 ∈ lw_g := sk_ix 7 (by decide +kernel) rfl
theorem ia_X7 : Cond.instantiable RX7 2 ∈ lw_g := sk_ix 130 (by decide +kernel) rfl
theorem df_X7 : ∀ k, k < 2 → defaultValue (sk_ty 6 k) = if sk_isI (sk_ty 6 k) = true then .int 0 else .null := by decide +kernel
theorem in_X7 : decide (yX7_init.name = "<init>") = true := by decide +kernel
theorem on_X7 : ∀ C T N, vwCl[6]? = some (C, T, N) → C = RX7 := fun C T N h => (congrArg (fun z : String × u_T × Nat => z.1) (Option.some.inj (show some (RX7, TX7, 2) = some (C, T, N) from h))).symm
theorem iz_X8 : Cond.initialized RX8 ∈ lw_g := sk_ix 1 (by decide +kernel) rfl
theorem ia_X8 : Cond.instantiable RX8 6 ∈ lw_g := sk_ix 15 (by decide +kernel) rfl
theorem df_X8 : ∀ k, k < 6 → defaultValue (sk_ty 7 k) = if sk_isI (sk_ty 7 k) = true then .int 0 else .null := by decide +kernel
theorem in_X8 : decide (yX8_init.name = "<init>") = true := by decide +kernel
theorem on_X8 : ∀ C T N, vwCl[7]? = some (C, T, N) → C = RX8 := fun C T N h => (congrArg (fun z : String × u_T × Nat => z.1) (Option.some.inj (show some (RX8, TX8, 6) = some (C, T, N) from h))).symm
theorem iz_X9 : Cond.initialized RX9 ∈ lw_g := sk_ix 9 (by decide +kernel) rfl
theorem ia_X9 : Cond.instantiable RX9 10 ∈ lw_g := sk_ix 531 (by decide +kernel) rfl
theorem df_X9 : ∀ k, k < 10 → defaultValue (sk_ty 8 k) = if sk_isI (sk_ty 8 k) = true then .int 0 else .null := by decide +kernel
theorem in_X9 : decide (yX9_init.name = "<init>") = true := by decide +kernel
theorem on_X9 : ∀ C T N, vwCl[8]? = some (C, T, N) → C = RX9 := fun C T N h => (congrArg (fun z : String × u_T × Nat => z.1) (Option.some.inj (show some (RX9, TX9, 10) = some (C, T, N) from h))).symm
