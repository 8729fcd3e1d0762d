theorem nw_X8_9 : (RX8, 9, yX3_init) ∈ sk_nw := by decide +kernel
theorem nw_X3_9 : (RX3, 9, yX0_init) ∈ sk_nw := by decide +kernel
theorem nw_X3_25 : (RX3, 25, yX4_init) ∈ sk_nw := by decide +kernel
theorem nw_X8_22 : (RX8, 22, yX6_init) ∈ sk_nw := by decide +kernel
theorem nw_X8_29 : (RX8, 29, yX7_init) ∈ sk_nw := by decide +kernel
theorem nw_X8_36 : (RX8, 36, yX2_init) ∈ sk_nw := by decide +kernel
/-- the state of a new object -/
def sk_S0 : sk_S := (fun _ _ _ => 0, (3, 20, 2), fun _ => none, (0, fun _ => 0, fun _ => 0, fun _ => 0))
theorem sk_G0 : sk_G sk_S0 := ⟨fun _ _ _ => Nat.zero_le 9, by decide, by decide, by decide, fun k q h => (by cases h), by decide, fun i h => (by cases h)⟩
/-- the references of a sky that lies at place s -/
def sk_Sr (hr : Nat → Nat → Option Nat) (s : Nat) : Prop := hr s 0 = some (s + 1) ∧ hr s 1 = some (s + 4) ∧ hr s 2 = some (s + 6) ∧ hr (s + 1) 0 = some (s + 2) ∧ hr (s + 1) 1 = some (s + 3) ∧ hr (s + 4) 0 = some (s + 5) ∧ hr (s + 6) 0 = some (s + 7) ∧ hr (s + 6) 1 = some (s + 8) ∧ hr (s + 6) 2 = some (s + 9)
def sk_k9 : List (Nat × Nat) := [(0, 0), (1, 384), (1, 4), (0, 4), (1, 744), (0, 3), (1, 4), (1, 4), (1, 4)]
/-- its kinds -/
def sk_Sk (ks : List (Nat × Nat)) (s : Nat) : Prop := ks[s]? = some (0, 2) ∧ ∀ i v, sk_k9[i]? = some v → ks[s + 1 + i]? = some v
abbrev sk_Cs (hi : Nat → Nat → Int32) (s : Nat) (S : sk_S) : Prop := sk_C hi (s + 1) (s + 2) (s + 3) (s + 5) (s + 6) (s + 7) (s + 8) (s + 9) S
theorem sk_C0 {hi : Nat → Nat → Int32} {s : Nat} (h1 : hi (s + 1) 2 = 3 ∧ hi (s + 1) 3 = 20 ∧ hi (s + 1) 4 = 2) (h2 : ∀ j, hi (s + 2) j = 0) (h3 : ∀ j, hi (s + 3) j = 0) (h5 : ∀ i, i < 744 → hi (s + 5) i = -1) (h6 : hi (s + 6) 3 = 0) : sk_Cs hi s sk_S0 := by
  refine ⟨fun b hb t ht h hh => ?_, h1, fun b hb => ⟨0, by decide, h3 b, fun t ht => ?_⟩, fun k hk => h5 k hk, h6, fun i hi => by cases hi⟩
  · rw [h2]
    show 0 / 16 ^ _ % 16 = 0
    rw [Nat.zero_div, Nat.zero_mod]
  · rw [Nat.zero_testBit]
    have : ∀ b t, sk_bar sk_S0 b t = false := by intro b t; rfl
    rw [this]
theorem sk_Cs_o {hi hi' : Nat → Nat → Int32} {s : Nat} {S : sk_S} (h : sk_Cs hi s S) (ho : ∀ a, s + 1 ≤ a → a ≤ s + 9 → hi' a = hi a) : sk_Cs hi' s S := by
  unfold sk_Cs sk_C at *
  rw [ho (s + 1) (by omega) (by omega), ho (s + 2) (by omega) (by omega), ho (s + 3) (by omega) (by omega), ho (s + 5) (by omega) (by omega), ho (s + 6) (by omega) (by omega), ho (s + 7) (by omega) (by omega), ho (s + 8) (by omega) (by omega), ho (s + 9) (by omega) (by omega)]
  exact h
def sk_cp (f : Nat → Nat → Int32) (k0 k1 n : Nat) : Nat → Nat → Int32 := fun a => if a = k1 then va_cpy (f k0) (f k1) 0 0 n else f a
theorem sk_cp_self (f : Nat → Nat → Int32) {k0 k1 n j : Nat} (h : j < n) : sk_cp f k0 k1 n k1 j = f k0 j := by
  unfold sk_cp
  rw [if_pos rfl, pk_cpy_in (Nat.zero_le _) (by omega), Nat.zero_add, Nat.sub_zero]
theorem sk_cp_o (f : Nat → Nat → Int32) {k0 k1 a : Nat} (n : Nat) (h : a ≠ k1) : sk_cp f k0 k1 n a = f a := by
  unfold sk_cp
  rw [if_neg h]
theorem go_copy0 {Γ : sk_Cx} {X : sk_Px} {u : Nat × Nat} {pc : Nat} {L : List (Option Value)} {st : List Value} {hi : Nat → Nat → Int32} {hr : Nat → Nat → Option Nat} {ks : List (Nat × Nat)} {index k0 k1 n0 n1 N : Nat} {n : Int32} (hd : decode X.1 pc = .ok (.invokestatic index, 3)) (hl : Cond.methodLink X.2.2.2.1 index arraycopyName ∈ lw_g) (hk0 : ks[k0]? = some (1, n0)) (hk1 : ks[k1]? = some (1, n1)) (h3 : ¬ n < 0) (hN : n.toNatClampNeg = N) (h4 : N ≤ n0) (h5 : N ≤ n1) (hf : 1 ≤ X.2.2.2.2.2.1.frames) (hc : (st.map fun v => v.category).sum + (nativeFrameWords "java/lang/System" "arraycopy" 5 + 11) ≤ X.2.2.2.2.2.1.locals) {np : Nat} (hn : np = pc + 3) (kk : sk_Go Γ X u np L st (sk_cp hi k0 k1 N, hr, ks)) : sk_Go Γ X u pc L (.int n :: .int 0 :: .ref k1 :: .int 0 :: .ref k0 :: st) (hi, hr, ks) := by
  subst hN
  have z : (0 : Int32).toNatClampNeg = 0 := by decide
  refine go_copy hd hl sk_cp1 sk_cp2 sk_cp3 hk0 hk1 (by decide) (by decide) h3 (by rw [z, Nat.zero_add]; exact h4) (by rw [z, Nat.zero_add]; exact h5) hf hc hn ?_
  rw [z]
  exact kk
section COPY
variable {Γ : sk_Cx} {Q : Option Value → sk_Hp → Prop} {hi : Nat → Nat → Int32} {hr : Nat → Nat → Option Nat} {ks : List (Nat × Nat)} {k : Nat} {S : sk_S}
theorem c_X3_init (hl : ks.length = k + 1) (hk : ks[k]? = some (0, 2)) (q : ∀ hi' hr', (∀ a, a < k → hi' a = hi a) → (∀ a, a < k → hr' a = hr a) → sk_Sr hr' k → sk_Cs hi' k sk_S0 → Q none (hi', hr', ks ++ sk_k9)) : sk_Ct Γ m_X3_init [.ref k] (hi, hr, ks) Q := by
  refine sk_Ct.of ok_X3_init.2.2.2 (Nat.le_of_ble_eq_true rfl) ?_
  refine go_aload_n dX3_init_0 rfl ?_
  refine go_obj (n := 4) dX3_init_1 ml_X3_1 sk_ob1 sk_ob2 (Nat.le_of_ble_eq_true rfl) (Nat.le_of_ble_eq_true rfl) rfl ?_
  refine go_aload_n dX3_init_4 rfl ?_
  refine go_newL (ci := 0) (T := TX0) (N := 5) (m := k + 1) hl dX3_init_5 rfl wf_X0 tyX0_ok df_X0 cl_X3_7 ia_X0 iz_X0 (Nat.le_of_ble_eq_true rfl) (Nat.le_of_ble_eq_true rfl) ?_
  refine go_dup dX3_init_8 rfl ?_
  refine go_callN (μ := m_X0_init) (n := 12) dX3_init_9 ok_X0_init rfl rfl nw_X3_9 wx_X0_init rfl (Nat.le_of_ble_eq_true rfl) ⟨Nat.le_of_ble_eq_true rfl, Nat.le_of_ble_eq_true rfl⟩ ⟨Nat.le_of_ble_eq_true rfl, Nat.le_of_ble_eq_true rfl⟩ rfl ?_
  refine c_X0_init (k := k + 1) (sk_ln hl) (sk_kn hl) ?_
  refine go_putR (a := k + 1) dX3_init_12 fl_X3_10 (sk_kl (sk_kl (sk_kl hk))) rfl rfl rfl in_X3 on_X3 ?_
  generalize eh1 : sk_wi (sk_wi (sk_wi (sk_zi (sk_zi (sk_zi hi (k + 1)) (k + 1 + 1)) (k + 1 + 2)) (k + 1) 2 3) (k + 1) 3 20) (k + 1) 4 2 = hi1
  generalize er1 : sk_wr (sk_wr (sk_wr (sk_zr hr (k + 1)) (k + 1) 0 (some (k + 1 + 1))) (k + 1) 1 (some (k + 1 + 2))) k 0 (some (k + 1)) = hr1
  show sk_Go Γ (sk_M Γ m_X3_init Q) _ _ _ _ (hi1, hr1, (((ks ++ [(0, 0)]) ++ [(1, 384)]) ++ [(1, 4)]))
  refine go_aload_n dX3_init_15 rfl ?_
  refine go_newL (ci := 4) (T := TX5) (N := 1) (m := k + 4) (sk_ln (sk_ln (sk_ln hl))) dX3_init_16 rfl wf_X5 tyX5_ok df_X5 cl_X3_16 ia_X5 iz_X5 (Nat.le_of_ble_eq_true rfl) (Nat.le_of_ble_eq_true rfl) ?_
  refine go_dup dX3_init_19 rfl ?_
  refine go_callI (μ := m_X5_init) (n := 23) dX3_init_20 ok_X5_init rfl rfl ml_X3_18 wx_X5_init rfl (Nat.le_of_ble_eq_true rfl) ⟨Nat.le_of_ble_eq_true rfl, Nat.le_of_ble_eq_true rfl⟩ ⟨Nat.le_of_ble_eq_true rfl, Nat.le_of_ble_eq_true rfl⟩ rfl ?_
  refine c_X5_init (k := k + 4) (sk_ln (sk_ln (sk_ln (sk_ln hl)))) (sk_kn (sk_ln (sk_ln (sk_ln hl)))) (fun hi2 i1 i2 => ?_)
  refine go_putR (a := k + 4) dX3_init_23 fl_X3_19 (sk_kl (sk_kl (sk_kl (sk_kl (sk_kl hk))))) rfl rfl rfl in_X3 on_X3 ?_
  generalize er2 : sk_wr (sk_wr (sk_zr hr1 (k + 4)) (k + 4) 0 (some (k + 4 + 1))) k 1 (some (k + 4)) = hr2
  show sk_Go Γ (sk_M Γ m_X3_init Q) _ _ _ _ (hi2, hr2, (((((ks ++ [(0, 0)]) ++ [(1, 384)]) ++ [(1, 4)]) ++ [(0, 4)]) ++ [(1, 744)]))
  refine go_aload_n dX3_init_26 rfl ?_
  refine go_newL (ci := 3) (T := TX4) (N := 4) (m := k + 6) (sk_ln (sk_ln (sk_ln (sk_ln (sk_ln hl))))) dX3_init_27 rfl wf_X4 tyX4_ok df_X4 cl_X3_23 ia_X4 iz_X4 (Nat.le_of_ble_eq_true rfl) (Nat.le_of_ble_eq_true rfl) ?_
  refine go_dup dX3_init_30 rfl ?_
  refine go_callN (μ := m_X4_init) (n := 34) dX3_init_31 ok_X4_init rfl rfl nw_X3_25 wx_X4_init rfl (Nat.le_of_ble_eq_true rfl) ⟨Nat.le_of_ble_eq_true rfl, Nat.le_of_ble_eq_true rfl⟩ ⟨Nat.le_of_ble_eq_true rfl, Nat.le_of_ble_eq_true rfl⟩ rfl ?_
  refine c_X4_init (k := k + 6) (sk_ln (sk_ln (sk_ln (sk_ln (sk_ln (sk_ln hl)))))) (sk_kn (sk_ln (sk_ln (sk_ln (sk_ln (sk_ln hl)))))) ?_
  refine go_putR (a := k + 6) dX3_init_34 fl_X3_26 (sk_kl (sk_kl (sk_kl (sk_kl (sk_kl (sk_kl (sk_kl (sk_kl (sk_kl hk))))))))) rfl rfl rfl in_X3 on_X3 ?_
  generalize eh3 : sk_wi (sk_zi (sk_zi (sk_zi (sk_zi hi2 (k + 6)) (k + 6 + 1)) (k + 6 + 2)) (k + 6 + 3)) (k + 6) 3 0 = hi3
  generalize er3 : sk_wr (sk_wr (sk_wr (sk_wr (sk_zr hr2 (k + 6)) (k + 6) 0 (some (k + 6 + 1))) (k + 6) 1 (some (k + 6 + 2))) (k + 6) 2 (some (k + 6 + 3))) k 2 (some (k + 6)) = hr3
  show sk_Go Γ (sk_M Γ m_X3_init Q) _ _ _ _ (hi3, hr3, (((((((((ks ++ [(0, 0)]) ++ [(1, 384)]) ++ [(1, 4)]) ++ [(0, 4)]) ++ [(1, 744)]) ++ [(0, 3)]) ++ [(1, 4)]) ++ [(1, 4)]) ++ [(1, 4)]))
  refine go_vret (μ := m_X3_init) dX3_init_37 rfl (Nat.le_of_ble_eq_true rfl) (Nat.le_of_ble_eq_true rfl) ?_
  have el : (((((((((ks ++ [(0, 0)]) ++ [(1, 384)]) ++ [(1, 4)]) ++ [(0, 4)]) ++ [(1, 744)]) ++ [(0, 3)]) ++ [(1, 4)]) ++ [(1, 4)]) ++ [(1, 4)]) = ks ++ sk_k9 := by
    simp only [List.append_assoc]
    rfl
  rw [el]
  -- the ints
  have a1 : ∀ a, a ≠ k + 1 → a ≠ k + 2 → a ≠ k + 3 → hi1 a = hi a := fun a h1 h2 h3 => by
    rw [← eh1, sk_wi_o _ _ _ h1, sk_wi_o _ _ _ h1, sk_wi_o _ _ _ h1, sk_zi_o _ h3, sk_zi_o _ h2, sk_zi_o _ h1]
  have a2 : ∀ a, a ≠ k + 4 → a ≠ k + 5 → hi2 a = hi1 a := fun a h1 h2 => by
    rw [i1 a h2, sk_zi_o _ h1]
  have a3 : ∀ a, a ≠ k + 6 → a ≠ k + 7 → a ≠ k + 8 → a ≠ k + 9 → hi3 a = hi2 a := fun a h1 h2 h3 h4 => by
    rw [← eh3, sk_wi_o _ _ _ h1, sk_zi_o _ h4, sk_zi_o _ h3, sk_zi_o _ h2, sk_zi_o _ h1]
  have b1 : ∀ a, a ≠ k → a ≠ k + 1 → hr1 a = hr a := fun a h0 h1 => by
    rw [← er1, sk_wr_o _ _ _ h0, sk_wr_o _ _ _ h1, sk_wr_o _ _ _ h1, sk_zr_o _ h1]
  have b2 : ∀ a, a ≠ k → a ≠ k + 4 → hr2 a = hr1 a := fun a h0 h1 => by
    rw [← er2, sk_wr_o _ _ _ h0, sk_wr_o _ _ _ h1, sk_zr_o _ h1]
  have b3 : ∀ a, a ≠ k → a ≠ k + 6 → hr3 a = hr2 a := fun a h0 h1 => by
    rw [← er3, sk_wr_o _ _ _ h0, sk_wr_o _ _ _ h1, sk_wr_o _ _ _ h1, sk_wr_o _ _ _ h1, sk_zr_o _ h1]
  refine q hi3 hr3 (fun a ha => ?_) (fun a ha => ?_) ⟨?_, ?_, ?_, ?_, ?_, ?_, ?_, ?_, ?_⟩ (sk_C0 ⟨?_, ?_, ?_⟩ (fun j => ?_) (fun j => ?_) (fun i hi => ?_) ?_)
  · rw [a3 a (by omega) (by omega) (by omega) (by omega), a2 a (by omega) (by omega), a1 a (by omega) (by omega) (by omega)]
  · rw [b3 a (by omega) (by omega), b2 a (by omega) (by omega), b1 a (by omega) (by omega)]
  · rw [← er3, sk_wr_ne _ _ (by decide), sk_wr_o _ _ _ (by omega), sk_wr_o _ _ _ (by omega), sk_wr_o _ _ _ (by omega), sk_zr_o _ (by omega), ← er2, sk_wr_ne _ _ (by decide), sk_wr_o _ _ _ (by omega), sk_zr_o _ (by omega), ← er1, sk_wr_self]
  · rw [← er3, sk_wr_ne _ _ (by decide), sk_wr_o _ _ _ (by omega), sk_wr_o _ _ _ (by omega), sk_wr_o _ _ _ (by omega), sk_zr_o _ (by omega), ← er2, sk_wr_self]
  · rw [← er3, sk_wr_self]
  · rw [b3 (k + 1) (by omega) (by omega), b2 (k + 1) (by omega) (by omega), ← er1, sk_wr_o _ _ _ (by omega), sk_wr_ne _ _ (by decide), sk_wr_self]
  · rw [b3 (k + 1) (by omega) (by omega), b2 (k + 1) (by omega) (by omega), ← er1, sk_wr_o _ _ _ (by omega), sk_wr_self]
  · rw [b3 (k + 4) (by omega) (by omega), ← er2, sk_wr_o _ _ _ (by omega), sk_wr_self]
  · rw [← er3, sk_wr_o _ _ _ (by omega), sk_wr_ne _ _ (by decide), sk_wr_ne _ _ (by decide), sk_wr_self]
  · rw [← er3, sk_wr_o _ _ _ (by omega), sk_wr_ne _ _ (by decide), sk_wr_self]
  · rw [← er3, sk_wr_o _ _ _ (by omega), sk_wr_self]
  · rw [a3 (k + 1) (by omega) (by omega) (by omega) (by omega), a2 (k + 1) (by omega) (by omega), ← eh1, sk_wi_ne _ _ (by decide), sk_wi_ne _ _ (by decide), sk_wi_self]
  · rw [a3 (k + 1) (by omega) (by omega) (by omega) (by omega), a2 (k + 1) (by omega) (by omega), ← eh1, sk_wi_ne _ _ (by decide), sk_wi_self]
  · rw [a3 (k + 1) (by omega) (by omega) (by omega) (by omega), a2 (k + 1) (by omega) (by omega), ← eh1, sk_wi_self]
  · rw [a3 (k + 2) (by omega) (by omega) (by omega) (by omega), a2 (k + 2) (by omega) (by omega), ← eh1, sk_wi_o _ _ _ (by omega), sk_wi_o _ _ _ (by omega), sk_wi_o _ _ _ (by omega), sk_zi_o _ (by omega), show k + 1 + 1 = k + 2 from rfl, sk_zi_self]
  · rw [a3 (k + 3) (by omega) (by omega) (by omega) (by omega), a2 (k + 3) (by omega) (by omega), ← eh1, sk_wi_o _ _ _ (by omega), sk_wi_o _ _ _ (by omega), sk_wi_o _ _ _ (by omega), show k + 1 + 2 = k + 3 from rfl, sk_zi_self]
  · rw [a3 (k + 5) (by omega) (by omega) (by omega) (by omega)]
    exact i2 i hi
  · rw [← eh3, sk_wi_self]
theorem c_X0_copyFrom {a b ea eb ba bb : Nat} (ka : ks[a]? = some (0, 0)) (kb : ks[b]? = some (0, 0)) (kea : ks[ea]? = some (1, 384)) (keb : ks[eb]? = some (1, 384)) (kba : ks[ba]? = some (1, 4)) (kbb : ks[bb]? = some (1, 4)) (ra : hr a 0 = some ea ∧ hr a 1 = some ba) (rb : hr b 0 = some eb ∧ hr b 1 = some bb) (n1 : b ≠ a) (n2 : b ≠ ea) (n3 : b ≠ ba)
    (q : Q none (sk_wi (sk_wi (sk_wi (sk_cp (sk_cp hi eb ea 384) bb ba 4) a 2 (hi b 2)) a 3 (hi b 3)) a 4 (hi b 4), hr, ks)) : sk_Ct Γ m_X0_copyFrom [.ref a, .ref b] (hi, hr, ks) Q := by
  refine sk_Ct.of ok_X0_copyFrom.2.2.2 (Nat.le_of_ble_eq_true rfl) ?_
  refine go_aload_n dX0_copyFrom_0 rfl ?_
  refine go_getR (a := eb) dX0_copyFrom_1 fl_X0_9 kb rfl rb.1 ?_
  refine go_iconst dX0_copyFrom_4 (v := 0) (by decide) ?_
  refine go_aload_n dX0_copyFrom_5 rfl ?_
  refine go_getR (a := ea) dX0_copyFrom_6 fl_X0_9 ka rfl ra.1 ?_
  refine go_iconst dX0_copyFrom_9 (v := 0) (by decide) ?_
  refine go_aload_n dX0_copyFrom_10 rfl ?_
  refine go_getR (a := ea) dX0_copyFrom_11 fl_X0_9 ka rfl ra.1 ?_
  refine go_alen dX0_copyFrom_14 kea (v := 384) (by decide) ?_
  refine go_copy0 (N := 384) (np := 18) dX0_copyFrom_15 ml_X0_55 keb kea (by decide) (by decide) (Nat.le_of_ble_eq_true rfl) (Nat.le_of_ble_eq_true rfl) (Nat.le_of_ble_eq_true rfl) (Nat.le_of_ble_eq_true rfl) rfl ?_
  refine go_aload_n dX0_copyFrom_18 rfl ?_
  refine go_getR (a := bb) dX0_copyFrom_19 fl_X0_15 kb rfl rb.2 ?_
  refine go_iconst dX0_copyFrom_22 (v := 0) (by decide) ?_
  refine go_aload_n dX0_copyFrom_23 rfl ?_
  refine go_getR (a := ba) dX0_copyFrom_24 fl_X0_15 ka rfl ra.2 ?_
  refine go_iconst dX0_copyFrom_27 (v := 0) (by decide) ?_
  refine go_aload_n dX0_copyFrom_28 rfl ?_
  refine go_getR (a := ba) dX0_copyFrom_29 fl_X0_15 ka rfl ra.2 ?_
  refine go_alen dX0_copyFrom_32 kba (v := 4) (by decide) ?_
  refine go_copy0 (N := 4) (np := 36) dX0_copyFrom_33 ml_X0_55 kbb kba (by decide) (by decide) (Nat.le_of_ble_eq_true rfl) (Nat.le_of_ble_eq_true rfl) (Nat.le_of_ble_eq_true rfl) (Nat.le_of_ble_eq_true rfl) rfl ?_
  have rd : ∀ j, sk_cp (sk_cp hi eb ea 384) bb ba 4 b j = hi b j := fun j => by rw [sk_cp_o _ _ n3, sk_cp_o _ _ n2]
  generalize eh : sk_cp (sk_cp hi eb ea 384) bb ba 4 = hi1 at rd q ⊢
  refine go_aload_n dX0_copyFrom_36 rfl ?_
  refine go_aload_n dX0_copyFrom_37 rfl ?_
  refine go_getI dX0_copyFrom_38 fl_X0_18 kb rfl ?_
  refine go_putI dX0_copyFrom_41 fl_X0_18 ka rfl ?_
  show sk_Go Γ (sk_M Γ m_X0_copyFrom Q) _ _ _ _ (sk_wi hi1 a 2 (hi1 b 2), hr, ks)
  refine go_aload_n dX0_copyFrom_44 rfl ?_
  refine go_aload_n dX0_copyFrom_45 rfl ?_
  refine go_getI dX0_copyFrom_46 fl_X0_22 kb rfl ?_
  refine go_putI dX0_copyFrom_49 fl_X0_22 ka rfl ?_
  show sk_Go Γ (sk_M Γ m_X0_copyFrom Q) _ _ _ _ (sk_wi (sk_wi hi1 a 2 (hi1 b 2)) a 3 (sk_wi hi1 a 2 (hi1 b 2) b 3), hr, ks)
  rw [sk_wi_o _ _ _ n1]
  refine go_aload_n dX0_copyFrom_52 rfl ?_
  refine go_aload_n dX0_copyFrom_53 rfl ?_
  refine go_getI dX0_copyFrom_54 fl_X0_25 kb rfl ?_
  refine go_putI dX0_copyFrom_57 fl_X0_25 ka rfl ?_
  show sk_Go Γ (sk_M Γ m_X0_copyFrom Q) _ _ _ _ (sk_wi (sk_wi (sk_wi hi1 a 2 (hi1 b 2)) a 3 (hi1 b 3)) a 4 (sk_wi (sk_wi hi1 a 2 (hi1 b 2)) a 3 (hi1 b 3) b 4), hr, ks)
  rw [sk_wi_o _ _ _ n1, sk_wi_o _ _ _ n1, rd, rd, rd]
  exact go_vret (μ := m_X0_copyFrom) dX0_copyFrom_60 rfl (Nat.le_of_ble_eq_true rfl) (Nat.le_of_ble_eq_true rfl) q
theorem c_X5_copyFrom {a b ea eb : Nat} (ka : ks[a]? = some (0, 4)) (kb : ks[b]? = some (0, 4)) (kea : ks[ea]? = some (1, 744)) (keb : ks[eb]? = some (1, 744)) (ra : hr a 0 = some ea) (rb : hr b 0 = some eb) (q : Q none (sk_cp hi eb ea 744, hr, ks)) : sk_Ct Γ m_X5_copyFrom [.ref a, .ref b] (hi, hr, ks) Q := by
  refine sk_Ct.of ok_X5_copyFrom.2.2.2 (Nat.le_of_ble_eq_true rfl) ?_
  refine go_aload_n dX5_copyFrom_0 rfl ?_
  refine go_getR (a := eb) dX5_copyFrom_1 fl_X5_9 kb rfl rb ?_
  refine go_iconst dX5_copyFrom_4 (v := 0) (by decide) ?_
  refine go_aload_n dX5_copyFrom_5 rfl ?_
  refine go_getR (a := ea) dX5_copyFrom_6 fl_X5_9 ka rfl ra ?_
  refine go_iconst dX5_copyFrom_9 (v := 0) (by decide) ?_
  refine go_aload_n dX5_copyFrom_10 rfl ?_
  refine go_getR (a := ea) dX5_copyFrom_11 fl_X5_9 ka rfl ra ?_
  refine go_alen dX5_copyFrom_14 kea (v := 744) (by decide) ?_
  refine go_copy0 (N := 744) (np := 18) dX5_copyFrom_15 ml_X5_30 keb kea (by decide) (by decide) (Nat.le_of_ble_eq_true rfl) (Nat.le_of_ble_eq_true rfl) (Nat.le_of_ble_eq_true rfl) (Nat.le_of_ble_eq_true rfl) rfl ?_
  exact go_vret (μ := m_X5_copyFrom) dX5_copyFrom_18 rfl (Nat.le_of_ble_eq_true rfl) (Nat.le_of_ble_eq_true rfl) q
theorem c_X4_copyFrom {a b xa xb ya yb va vb : Nat} (ka : ks[a]? = some (0, 3)) (kb : ks[b]? = some (0, 3)) (kxa : ks[xa]? = some (1, 4)) (kxb : ks[xb]? = some (1, 4)) (kya : ks[ya]? = some (1, 4)) (kyb : ks[yb]? = some (1, 4)) (kva : ks[va]? = some (1, 4)) (kvb : ks[vb]? = some (1, 4)) (ra : hr a 0 = some xa ∧ hr a 1 = some ya ∧ hr a 2 = some va) (rb : hr b 0 = some xb ∧ hr b 1 = some yb ∧ hr b 2 = some vb) (n2 : b ≠ xa) (n3 : b ≠ ya) (n4 : b ≠ va)
    (q : Q none (sk_wi (sk_cp (sk_cp (sk_cp hi xb xa 4) yb ya 4) vb va 4) a 3 (hi b 3), hr, ks)) : sk_Ct Γ m_X4_copyFrom [.ref a, .ref b] (hi, hr, ks) Q := by
  refine sk_Ct.of ok_X4_copyFrom.2.2.2 (Nat.le_of_ble_eq_true rfl) ?_
  refine go_aload_n dX4_copyFrom_0 rfl ?_
  refine go_getR (a := xb) dX4_copyFrom_1 fl_X4_9 kb rfl rb.1 ?_
  refine go_iconst dX4_copyFrom_4 (v := 0) (by decide) ?_
  refine go_aload_n dX4_copyFrom_5 rfl ?_
  refine go_getR (a := xa) dX4_copyFrom_6 fl_X4_9 ka rfl ra.1 ?_
  refine go_iconst dX4_copyFrom_9 (v := 0) (by decide) ?_
  refine go_iconst dX4_copyFrom_10 (v := 4) (by decide) ?_
  refine go_copy0 (N := 4) (np := 14) dX4_copyFrom_11 ml_X4_36 kxb kxa (by decide) (by decide) (Nat.le_of_ble_eq_true rfl) (Nat.le_of_ble_eq_true rfl) (Nat.le_of_ble_eq_true rfl) (Nat.le_of_ble_eq_true rfl) rfl ?_
  refine go_aload_n dX4_copyFrom_14 rfl ?_
  refine go_getR (a := yb) dX4_copyFrom_15 fl_X4_15 kb rfl rb.2.1 ?_
  refine go_iconst dX4_copyFrom_18 (v := 0) (by decide) ?_
  refine go_aload_n dX4_copyFrom_19 rfl ?_
  refine go_getR (a := ya) dX4_copyFrom_20 fl_X4_15 ka rfl ra.2.1 ?_
  refine go_iconst dX4_copyFrom_23 (v := 0) (by decide) ?_
  refine go_iconst dX4_copyFrom_24 (v := 4) (by decide) ?_
  refine go_copy0 (N := 4) (np := 28) dX4_copyFrom_25 ml_X4_36 kyb kya (by decide) (by decide) (Nat.le_of_ble_eq_true rfl) (Nat.le_of_ble_eq_true rfl) (Nat.le_of_ble_eq_true rfl) (Nat.le_of_ble_eq_true rfl) rfl ?_
  refine go_aload_n dX4_copyFrom_28 rfl ?_
  refine go_getR (a := vb) dX4_copyFrom_29 fl_X4_18 kb rfl rb.2.2 ?_
  refine go_iconst dX4_copyFrom_32 (v := 0) (by decide) ?_
  refine go_aload_n dX4_copyFrom_33 rfl ?_
  refine go_getR (a := va) dX4_copyFrom_34 fl_X4_18 ka rfl ra.2.2 ?_
  refine go_iconst dX4_copyFrom_37 (v := 0) (by decide) ?_
  refine go_iconst dX4_copyFrom_38 (v := 4) (by decide) ?_
  refine go_copy0 (N := 4) (np := 42) dX4_copyFrom_39 ml_X4_36 kvb kva (by decide) (by decide) (Nat.le_of_ble_eq_true rfl) (Nat.le_of_ble_eq_true rfl) (Nat.le_of_ble_eq_true rfl) (Nat.le_of_ble_eq_true rfl) rfl ?_
  have rd : ∀ j, sk_cp (sk_cp (sk_cp hi xb xa 4) yb ya 4) vb va 4 b j = hi b j := fun j => by rw [sk_cp_o _ _ n4, sk_cp_o _ _ n3, sk_cp_o _ _ n2]
  refine go_aload_n dX4_copyFrom_42 rfl ?_
  refine go_aload_n dX4_copyFrom_43 rfl ?_
  refine go_getI dX4_copyFrom_44 fl_X4_21 kb rfl ?_
  refine go_putI dX4_copyFrom_47 fl_X4_21 ka rfl ?_
  show sk_Go Γ (sk_M Γ m_X4_copyFrom Q) _ _ _ _ (sk_wi (sk_cp (sk_cp (sk_cp hi xb xa 4) yb ya 4) vb va 4) a 3 (sk_cp (sk_cp (sk_cp hi xb xa 4) yb ya 4) vb va 4 b 3), hr, ks)
  rw [rd]
  exact go_vret (μ := m_X4_copyFrom) dX4_copyFrom_50 rfl (Nat.le_of_ble_eq_true rfl) (Nat.le_of_ble_eq_true rfl) q
theorem c_X3_copyFrom {s o : Nat} (ks1 : sk_Sk ks s) (ks2 : sk_Sk ks o) (hs : sk_Sr hr s) (ho : sk_Sr hr o) (hd : s + 9 < o ∨ o + 9 < s) (hG : sk_G S) (hC : sk_Cs hi o S) (q : ∀ hi', sk_Cs hi' s S → (∀ a, a ≤ s ∨ s + 9 < a → hi' a = hi a) → Q none (hi', hr, ks)) : sk_Ct Γ m_X3_copyFrom [.ref s, .ref o] (hi, hr, ks) Q := by
  obtain ⟨s0, s1, s2, s3, s4, s5, s6, s7, s8⟩ := hs
  obtain ⟨o0, o1, o2, o3, o4, o5, o6, o7, o8⟩ := ho
  refine sk_Ct.of ok_X3_copyFrom.2.2.2 (Nat.le_of_ble_eq_true rfl) ?_
  refine go_aload_n dX3_copyFrom_0 rfl ?_
  refine go_getR (a := s + 1) dX3_copyFrom_1 fl_X3_10 ks1.1 rfl s0 ?_
  refine go_aload_n dX3_copyFrom_4 rfl ?_
  refine go_getR (a := o + 1) dX3_copyFrom_5 fl_X3_10 ks2.1 rfl o0 ?_
  refine go_callV (μ := m_X0_copyFrom) (n := 11) (T := TX0) (N := 5) [.ref (o + 1)] dX3_copyFrom_8 ok_X0_copyFrom ml_X3_30 wx_X0_copyFrom wl_X0_copyFrom (ks1.2 0 _ rfl) rfl rfl (Nat.le_of_ble_eq_true rfl) ⟨Nat.le_of_ble_eq_true rfl, Nat.le_of_ble_eq_true rfl⟩ ⟨Nat.le_of_ble_eq_true rfl, Nat.le_of_ble_eq_true rfl⟩ rfl ?_
  refine c_X0_copyFrom (a := s + 1) (b := o + 1) (ea := s + 2) (eb := o + 2) (ba := s + 3) (bb := o + 3) (ks1.2 0 _ rfl) (ks2.2 0 _ rfl) (ks1.2 1 _ rfl) (ks2.2 1 _ rfl) (ks1.2 2 _ rfl) (ks2.2 2 _ rfl) ⟨s3, s4⟩ ⟨o3, o4⟩ (by omega) (by omega) (by omega) ?_
  generalize eh1 : sk_wi (sk_wi (sk_wi (sk_cp (sk_cp hi (o + 2) (s + 2) 384) (o + 3) (s + 3) 4) (s + 1) 2 (hi (o + 1) 2)) (s + 1) 3 (hi (o + 1) 3)) (s + 1) 4 (hi (o + 1) 4) = hi1
  refine go_aload_n dX3_copyFrom_11 rfl ?_
  refine go_getR (a := s + 4) dX3_copyFrom_12 fl_X3_19 ks1.1 rfl s1 ?_
  refine go_aload_n dX3_copyFrom_15 rfl ?_
  refine go_getR (a := o + 4) dX3_copyFrom_16 fl_X3_19 ks2.1 rfl o1 ?_
  refine go_callV (μ := m_X5_copyFrom) (n := 22) (T := TX5) (N := 1) [.ref (o + 4)] dX3_copyFrom_19 ok_X5_copyFrom ml_X3_34 wx_X5_copyFrom wl_X5_copyFrom (ks1.2 3 _ rfl) rfl rfl (Nat.le_of_ble_eq_true rfl) ⟨Nat.le_of_ble_eq_true rfl, Nat.le_of_ble_eq_true rfl⟩ ⟨Nat.le_of_ble_eq_true rfl, Nat.le_of_ble_eq_true rfl⟩ rfl ?_
  refine c_X5_copyFrom (a := s + 4) (b := o + 4) (ea := s + 5) (eb := o + 5) (ks1.2 3 _ rfl) (ks2.2 3 _ rfl) (ks1.2 4 _ rfl) (ks2.2 4 _ rfl) s5 o5 ?_
  refine go_aload_n dX3_copyFrom_22 rfl ?_
  refine go_getR (a := s + 6) dX3_copyFrom_23 fl_X3_26 ks1.1 rfl s2 ?_
  refine go_aload_n dX3_copyFrom_26 rfl ?_
  refine go_getR (a := o + 6) dX3_copyFrom_27 fl_X3_26 ks2.1 rfl o2 ?_
  refine go_callV (μ := m_X4_copyFrom) (n := 33) (T := TX4) (N := 4) [.ref (o + 6)] dX3_copyFrom_30 ok_X4_copyFrom ml_X3_37 wx_X4_copyFrom wl_X4_copyFrom (ks1.2 5 _ rfl) rfl rfl (Nat.le_of_ble_eq_true rfl) ⟨Nat.le_of_ble_eq_true rfl, Nat.le_of_ble_eq_true rfl⟩ ⟨Nat.le_of_ble_eq_true rfl, Nat.le_of_ble_eq_true rfl⟩ rfl ?_
  refine c_X4_copyFrom (a := s + 6) (b := o + 6) (xa := s + 7) (xb := o + 7) (ya := s + 8) (yb := o + 8) (va := s + 9) (vb := o + 9) (ks1.2 5 _ rfl) (ks2.2 5 _ rfl) (ks1.2 6 _ rfl) (ks2.2 6 _ rfl) (ks1.2 7 _ rfl) (ks2.2 7 _ rfl) (ks1.2 8 _ rfl) (ks2.2 8 _ rfl) ⟨s6, s7, s8⟩ ⟨o6, o7, o8⟩ (by omega) (by omega) (by omega) ?_
  refine go_vret (μ := m_X3_copyFrom) dX3_copyFrom_33 rfl (Nat.le_of_ble_eq_true rfl) (Nat.le_of_ble_eq_true rfl) ?_
  -- what is where
  have a1 : ∀ a, a ≠ s + 1 → a ≠ s + 2 → a ≠ s + 3 → hi1 a = hi a := fun a h1 h2 h3 => by
    rw [← eh1, sk_wi_o _ _ _ h1, sk_wi_o _ _ _ h1, sk_wi_o _ _ _ h1, sk_cp_o _ _ h3, sk_cp_o _ _ h2]
  have b1 : ∀ j, j < 384 → hi1 (s + 2) j = hi (o + 2) j := fun j hj => by
    rw [← eh1, sk_wi_o _ _ _ (by omega), sk_wi_o _ _ _ (by omega), sk_wi_o _ _ _ (by omega), sk_cp_o _ _ (by omega), sk_cp_self _ hj]
  have b2 : ∀ j, j < 4 → hi1 (s + 3) j = hi (o + 3) j := fun j hj => by
    rw [← eh1, sk_wi_o _ _ _ (by omega), sk_wi_o _ _ _ (by omega), sk_wi_o _ _ _ (by omega), sk_cp_self _ hj, sk_cp_o _ _ (by omega)]
  have b3 : hi1 (s + 1) 2 = hi (o + 1) 2 ∧ hi1 (s + 1) 3 = hi (o + 1) 3 ∧ hi1 (s + 1) 4 = hi (o + 1) 4 := by
    rw [← eh1]
    exact ⟨by rw [sk_wi_ne _ _ (by decide), sk_wi_ne _ _ (by decide), sk_wi_self], by rw [sk_wi_ne _ _ (by decide), sk_wi_self], by rw [sk_wi_self]⟩
  obtain ⟨c1, c2, c3, c4, c5, c6⟩ := hC
  have g4 : S.2.2.2.1 ≤ 4 := hG.2.2.2.2.2.1
  have keep : ∀ a, a ≠ s + 5 → a ≠ s + 6 → a ≠ s + 7 → a ≠ s + 8 → a ≠ s + 9 → sk_wi (sk_cp (sk_cp (sk_cp (sk_cp hi1 (o + 5) (s + 5) 744) (o + 7) (s + 7) 4) (o + 8) (s + 8) 4) (o + 9) (s + 9) 4) (s + 6) 3 (sk_cp hi1 (o + 5) (s + 5) 744 (o + 6) 3) a = hi1 a := fun a h5 h6 h7 h8 h9 => by
    rw [sk_wi_o _ _ _ h6, sk_cp_o _ _ h9, sk_cp_o _ _ h8, sk_cp_o _ _ h7, sk_cp_o _ _ h5]
  refine q _ ⟨fun b hb t ht h hh => ?_, ⟨?_, ?_, ?_⟩, fun b hb => ?_, fun k hk => ?_, ?_, fun i hi => ⟨?_, ?_, ?_⟩⟩ (fun a ha => ?_)
  · rw [keep _ (by omega) (by omega) (by omega) (by omega) (by omega), b1 _ (by omega)]
    exact c1 b hb t ht h hh
  · rw [keep _ (by omega) (by omega) (by omega) (by omega) (by omega), b3.1]; exact c2.1
  · rw [keep _ (by omega) (by omega) (by omega) (by omega) (by omega), b3.2.1]; exact c2.2.1
  · rw [keep _ (by omega) (by omega) (by omega) (by omega) (by omega), b3.2.2]; exact c2.2.2
  · rw [keep _ (by omega) (by omega) (by omega) (by omega) (by omega), b2 _ hb]; exact c3 b hb
  · rw [sk_wi_o _ _ _ (by omega), sk_cp_o _ _ (by omega), sk_cp_o _ _ (by omega), sk_cp_o _ _ (by omega), sk_cp_self _ hk, a1 _ (by omega) (by omega) (by omega)]
    exact c4 k hk
  · rw [sk_wi_self, sk_cp_o _ _ (by omega), a1 _ (by omega) (by omega) (by omega)]
    exact c5
  · have hi4 : i < 4 := Nat.lt_of_lt_of_le hi g4
    rw [sk_wi_o _ _ _ (by omega), sk_cp_o _ _ (by omega), sk_cp_o _ _ (by omega), sk_cp_self _ hi4, sk_cp_o _ _ (by omega), a1 _ (by omega) (by omega) (by omega)]
    exact (c6 i hi).1
  · have hi4 : i < 4 := Nat.lt_of_lt_of_le hi g4
    rw [sk_wi_o _ _ _ (by omega), sk_cp_o _ _ (by omega), sk_cp_self _ hi4, sk_cp_o _ _ (by omega), sk_cp_o _ _ (by omega), a1 _ (by omega) (by omega) (by omega)]
    exact (c6 i hi).2.1
  · have hi4 : i < 4 := Nat.lt_of_lt_of_le hi g4
    rw [sk_wi_o _ _ _ (by omega), sk_cp_self _ hi4, sk_cp_o _ _ (by omega), sk_cp_o _ _ (by omega), sk_cp_o _ _ (by omega), a1 _ (by omega) (by omega) (by omega)]
    exact (c6 i hi).2.2
  · rw [keep a (by omega) (by omega) (by omega) (by omega) (by omega), a1 a (by omega) (by omega) (by omega)]
end COPY
