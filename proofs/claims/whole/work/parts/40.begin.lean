/-! The law's beginning: both objects are new. -/
def sk_T9 (hr : Nat → Nat → Option Nat) : Prop := hr 20 0 = some 21 ∧ hr 20 1 = some 22 ∧ hr 20 2 = some 23 ∧ hr 20 3 = some 24 ∧ hr 20 4 = some 25 ∧ hr 20 8 = some 26 ∧ hr 20 9 = some 27
theorem sk_T8_o {hr hr' : Nat → Nat → Option Nat} (t : sk_T8 hr) (o : ∀ a, a ≠ 20 → hr' a = hr a) : sk_T8 hr' := by
  unfold sk_T8 sk_Sr at *
  rw [o 0 (by decide), o 1 (by decide), o (1 + 1) (by decide), o (1 + 4) (by decide), o (1 + 6) (by decide), o 12 (by decide), o 16 (by decide), o 18 (by decide), o 11 (by decide)]
  exact t
theorem sk_T89 {hr : Nat → Nat → Option Nat} (t8 : sk_T8 hr) (t9 : sk_T9 hr) : ∀ a j, j < 16 → sk_hr hr a j = hr a j := by
  intro a j hj
  unfold sk_hr
  cases hl : sk_tb.lookup (a * 16 + j) with
  | none => rfl
  | some p =>
    have key : ∀ z ∈ sk_tb, hr (z.1 / 16) (z.1 % 16) = some z.2 := by
      obtain ⟨⟨a0, a1, a2, a3, a4⟩, ⟨b0, b1, b2, b3, b4, b5, b6, b7, b8⟩, ⟨c0, c1, c2⟩, d0, e0, -⟩ := t8
      obtain ⟨f0, f1, f2, f3, f4, f8, f9⟩ := t9
      exact List.forall_mem_cons.mpr ⟨a0, List.forall_mem_cons.mpr ⟨a1, List.forall_mem_cons.mpr ⟨a2, List.forall_mem_cons.mpr ⟨a3, List.forall_mem_cons.mpr ⟨a4, List.forall_mem_cons.mpr ⟨b0, List.forall_mem_cons.mpr ⟨b1, List.forall_mem_cons.mpr ⟨b2, List.forall_mem_cons.mpr ⟨b3, List.forall_mem_cons.mpr ⟨b4, List.forall_mem_cons.mpr ⟨b5, List.forall_mem_cons.mpr ⟨b6, List.forall_mem_cons.mpr ⟨b7, List.forall_mem_cons.mpr ⟨b8, List.forall_mem_cons.mpr ⟨c0, List.forall_mem_cons.mpr ⟨c1, List.forall_mem_cons.mpr ⟨c2, List.forall_mem_cons.mpr ⟨d0, List.forall_mem_cons.mpr ⟨e0, List.forall_mem_cons.mpr ⟨f0, List.forall_mem_cons.mpr ⟨f1, List.forall_mem_cons.mpr ⟨f2, List.forall_mem_cons.mpr ⟨f3, List.forall_mem_cons.mpr ⟨f4, List.forall_mem_cons.mpr ⟨f8, List.forall_mem_cons.mpr ⟨f9, fun _ h => absurd h List.not_mem_nil⟩⟩⟩⟩⟩⟩⟩⟩⟩⟩⟩⟩⟩⟩⟩⟩⟩⟩⟩⟩⟩⟩⟩⟩⟩⟩
    have h := key _ (sk_lk hl)
    have e1 : (a * 16 + j) / 16 = a := by omega
    have e2 : (a * 16 + j) % 16 = j := by omega
    have h : hr ((a * 16 + j) / 16) ((a * 16 + j) % 16) = some p := h
    rw [e1, e2] at h
    exact h.symm
theorem sk_kz : ∀ (a : Nat) (kd : Nat × Nat), (sk_ks ++ [])[a]? = some kd → 3 ≤ kd.1 → kd.2 ≤ 16 := by
  intro a kd h
  have k : (sk_ks ++ []).all (fun kd => decide (3 ≤ kd.1 → kd.2 ≤ 16)) = true := by decide
  exact of_decide_eq_true (List.all_eq_true.mp k kd (List.mem_of_getElem? h))
theorem sk_R00 {f : Nat → Int32} (t2 : ∀ i, i < 744 → f (20 + 2 * i) = -1) (r2 : ∀ j, (∀ i, i < 744 → j ≠ 20 + 2 * i) → f j = if j = 0 then 3 else if j = 1 then 20 else if j = 2 then 2 else 0) : sk_R f 0 sk_S0 := by
  have z : ∀ j, (∀ i, i < 744 → j ≠ 20 + 2 * i) → 3 ≤ j → f j = 0 := fun j h1 h2 => by
    rw [r2 j h1, if_neg (by omega), if_neg (by omega), if_neg (by omega)]
  refine ⟨fun b hb t ht h hh => ?_, ⟨?_, ?_, ?_⟩, fun k hk => ⟨?_, ?_⟩, ?_, fun i hi => by cases hi⟩
  · rw [z _ (fun i hi => by omega) (by omega)]
    exact nI_0.symm
  · rw [r2 0 (fun i hi => by omega), if_pos rfl]
    rfl
  · rw [r2 (0 + 1) (fun i hi => by omega), if_neg (by decide), if_pos rfl]
    rfl
  · rw [r2 (0 + 2) (fun i hi => by omega), if_neg (by decide), if_neg (by decide), if_pos rfl]
    rfl
  · rw [Nat.zero_add, t2 k hk]
    rfl
  · rw [z _ (fun i hi => by omega) (by omega)]
    rfl
  · rw [z _ (fun i hi => by omega) (by omega)]
    exact nI_0.symm
section BEGIN0
variable {Γ : sk_Cx} {n : Nat} {xs : Nat → Int32}
theorem lw_begin (hn : n ≤ 2560) : sk_Go Γ (sk_XL Γ n xs) (0, 0) 0 [some (.float 0), none, none, none] [] (fun _ _ => 0, fun _ _ => none, []) := by
  refine go_newL (ci := 7) (T := TX8) (N := 6) (m := 0) rfl dL_law_0 rfl wf_X8 tyX8_ok df_X8 cl_L_7 ia_X8 iz_X8 (Nat.le_of_ble_eq_true rfl) (Nat.le_of_ble_eq_true rfl) ?_
  refine go_dup dL_law_3 rfl ?_
  refine go_callI (μ := m_X8_init) (n := 7) (k := 0) dL_law_4 ok_X8_init rfl rfl ml_L_9 wx_X8_init rfl (Nat.le_of_ble_eq_true rfl) ⟨(Nat.le_of_ble_eq_true rfl), (Nat.le_of_ble_eq_true rfl)⟩ ⟨(Nat.le_of_ble_eq_true rfl), (Nat.le_of_ble_eq_true rfl)⟩ rfl ?_
  refine c_X8_init (fun hi1 hr1 cn1 h05 t8 => ?_)
  refine go_astore_n dL_law_7 (show 1 < 4 by decide) ?_
  show sk_Go Γ (sk_XL Γ n xs) _ 8 [some (.float 0), some (.ref 0), none, none] [] (hi1, hr1, sk_k20)
  refine go_newL (ci := 8) (T := TX9) (N := 10) (m := 20) rfl dL_law_8 rfl wf_X9 tyX9_ok df_X9 cl_L_10 ia_X9 iz_X9 (Nat.le_of_ble_eq_true rfl) (Nat.le_of_ble_eq_true rfl) ?_
  refine go_dup dL_law_11 rfl ?_
  refine go_callI (μ := m_X9_init) (n := 15) (k := 20) dL_law_12 ok_X9_init rfl rfl ml_L_12 wx_X9_init rfl (Nat.le_of_ble_eq_true rfl) ⟨(Nat.le_of_ble_eq_true rfl), (Nat.le_of_ble_eq_true rfl)⟩ ⟨(Nat.le_of_ble_eq_true rfl), (Nat.le_of_ble_eq_true rfl)⟩ rfl ?_
  refine c_X9_init (k := 20) rfl rfl (fun hi2 a2 t2 r2 z2 => ?_)
  generalize er : sk_wr (sk_wr (sk_wr (sk_wr (sk_wr (sk_wr (sk_wr (sk_zr hr1 20) 20 0 (some (20 + 1))) 20 1 (some (20 + 2))) 20 2 (some (20 + 3))) 20 3 (some (20 + 4))) 20 4 (some (20 + 5))) 20 8 (some (20 + 6))) 20 9 (some (20 + 7)) = hr2
  have o2 : ∀ a, a ≠ 20 → hr2 a = hr1 a := fun a ha => by
    rw [← er, sk_wr_o _ _ _ ha, sk_wr_o _ _ _ ha, sk_wr_o _ _ _ ha, sk_wr_o _ _ _ ha, sk_wr_o _ _ _ ha, sk_wr_o _ _ _ ha, sk_wr_o _ _ _ ha, sk_zr_o _ ha]
  have t9 : sk_T9 hr2 := by
    rw [← er]
    refine ⟨?_, ?_, ?_, ?_, ?_, ?_, ?_⟩ <;> simp [sk_wr, va_up]
  have t8' : sk_T8 hr2 := sk_T8_o t8 o2
  show sk_Go Γ (sk_XL Γ n xs) _ 15 [some (.float 0), some (.ref 0), none, none] [.ref 20] (hi2, hr2, sk_ks ++ [])
  refine go_astore_n dL_law_15 (show 2 < 4 by decide) ?_
  refine go_iconst dL_law_16 (v := 0) (by decide) ?_
  refine go_istore_n dL_law_17 (show 3 < 4 by decide) ?_
  show sk_Go Γ (sk_XL Γ n xs) _ 18 (sk_LL 0) [] (hi2, hr2, sk_ks ++ [])
  refine go_hr (hr' := sk_hr hr2) (sk_T89 t8' t9) sk_kz ?_
  have A : ∀ a, a < 20 → hi2 a = hi1 a := fun a ha => by rw [a2 a ha, sk_zi_o _ (by omega)]
  have n11 : ∀ k, hr2 11 k = none := t8'.2.2.2.2.2
  refine lw_loop hn 512 0 _ hi2 hr2 [] sk_S0 (fun _ => none) (by decide) (by omega) (Nat.le_of_ble_eq_true rfl) (Nat.le_of_ble_eq_true rfl) ⟨sk_Cn_0 cn1 (fun a h1 h2 => A a (by omega)), Or.inl (by rw [A 0 (by decide)]; exact h05), sk_R00 t2 r2, sk_G0, ⟨fun k hk => ⟨fun _ => n11 k, fun S' h => by cases h⟩, fun k k' s s' h1 h2 h3 h4 => ?_⟩, fun k hk => ⟨fun _ => z2 k, fun S' h => by cases h⟩⟩
  rw [n11 k] at h4
  cases h4
end BEGIN0
