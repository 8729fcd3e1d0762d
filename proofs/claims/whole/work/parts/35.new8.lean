theorem sk_N16 {ci : Nat} {r : vw_C} (h : vwCl[ci]? = some r) : r.2.2 ≤ 16 := by
  have a : vwCl.all (fun r => decide (r.2.2 ≤ 16)) = true := by decide
  exact of_decide_eq_true (List.all_eq_true.mp a r (List.mem_of_getElem? h))
/-- only the first references of a place are looked at -/
theorem sk_Rp_hr {Γ : sk_Cx} {hi : Nat → Nat → Int32} {hr hr' : Nat → Nat → Option Nat} {ks : List (Nat × Nat)} {H : Heap} (hR : sk_Rp Γ (hi, hr, ks) H) (he : ∀ a j, j < 16 → hr' a j = hr a j) (hz : ∀ (a : Nat) (kd : Nat × Nat), ks[a]? = some kd → 3 ≤ kd.1 → kd.2 ≤ 16) : sk_Rp Γ (hi, hr', ks) H := by
  refine ⟨hR.1, fun k kd hk => ?_⟩
  have a := hR.2 k kd hk
  have z := hz k kd hk
  obtain ⟨t, n⟩ := kd
  match t, a, z with
  | 0, a, z =>
    obtain ⟨r, r1, r2⟩ := a
    refine ⟨r, r1, t_OB.to r2 (fun i hi => ?_)⟩
    have := sk_N16 r1
    show (if sk_isI (sk_ty n i) = true then Value.int _ else sk_rf Γ (hr k i)) = (if sk_isI (sk_ty n i) = true then Value.int _ else sk_rf Γ (hr' k i))
    rw [he k i (by omega)]
  | 1, a, z => exact a
  | 2, a, z => exact a
  | t + 3, a, z =>
    have z : n ≤ 16 := z (by show 3 ≤ t + 3; omega)
    have a : H[Γ.2.1 + k]? = some (arrV Γ.2.2.2.1.2.2 n (fun j => sk_rf Γ (hr k j))) := a
    show H[Γ.2.1 + k]? = some (arrV Γ.2.2.2.1.2.2 n (fun j => sk_rf Γ (hr' k j)))
    rw [a]
    unfold arrV
    congr 3
    funext j
    show sk_rf Γ (hr k j.val) = sk_rf Γ (hr' k j.val)
    rw [he k j.val (by have := j.isLt; omega)]
theorem go_hr {Γ : sk_Cx} {X : sk_Px} {u : Nat × Nat} {pc : Nat} {L : List (Option Value)} {st : List Value} {hi : Nat → Nat → Int32} {hr hr' : Nat → Nat → Option Nat} {ks : List (Nat × Nat)} (he : ∀ a j, j < 16 → hr' a j = hr a j) (hz : ∀ (a : Nat) (kd : Nat × Nat), ks[a]? = some kd → 3 ≤ kd.1 → kd.2 ≤ 16) (k : sk_Go Γ X u pc L st (hi, hr', ks)) : sk_Go Γ X u pc L st (hi, hr, ks) := fun p e s m args below meth c H locs ls E hR hS hL => k p e s m args below meth c H locs ls E (sk_Rp_hr hR he hz) hS hL
def sk_T8 (hr : Nat → Nat → Option Nat) : Prop := (hr 0 0 = some 1 ∧ hr 0 1 = some 11 ∧ hr 0 2 = some 12 ∧ hr 0 3 = some 16 ∧ hr 0 4 = some 18) ∧ sk_Sr hr 1 ∧ (hr 12 0 = some 13 ∧ hr 12 1 = some 14 ∧ hr 12 2 = some 15) ∧ hr 16 0 = some 17 ∧ hr 18 0 = some 19 ∧ ∀ j, hr 11 j = none
def sk_k20 : List (Nat × Nat) := [(0, 7), (0, 2), (0, 0), (1, 384), (1, 4), (0, 4), (1, 744), (0, 3), (1, 4), (1, 4), (1, 4), (3, 3), (0, 5), (1, 768), (1, 768), (1, 24), (0, 6), (1, 24), (0, 1), (1, 31)]
section NEW8
variable {Γ : sk_Cx} {Q : Option Value → sk_Hp → Prop} {hi : Nat → Nat → Int32} {hr : Nat → Nat → Option Nat} {ks : List (Nat × Nat)} {k : Nat} {S : sk_S}
theorem c_X8_init (q : ∀ hi' hr', sk_Cn hi' sk_S0 → hi' 0 5 = -1 → sk_T8 hr' → Q none (hi', hr', sk_k20)) : sk_Ct Γ m_X8_init [.ref 0] (hi, hr, [(0, 7)]) Q := by
  refine sk_Ct.of ok_X8_init.2.2.2 (Nat.le_of_ble_eq_true rfl) ?_
  refine go_aload_n dX8_init_0 rfl ?_
  refine go_obj (n := 4) dX8_init_1 ml_X8_1 sk_ob1 sk_ob2 (Nat.le_of_ble_eq_true rfl) (Nat.le_of_ble_eq_true rfl) rfl ?_
  refine go_aload_n dX8_init_4 rfl ?_
  refine go_newL (ci := 2) (T := TX3) (N := 3) (m := 1) rfl dX8_init_5 rfl wf_X3 tyX3_ok df_X3 cl_X8_7 ia_X3 iz_X3 (Nat.le_of_ble_eq_true rfl) (Nat.le_of_ble_eq_true rfl) ?_
  refine go_dup dX8_init_8 rfl ?_
  refine go_callN (μ := m_X3_init) (n := 12) dX8_init_9 ok_X3_init rfl rfl nw_X8_9 wx_X3_init rfl (Nat.le_of_ble_eq_true rfl) ⟨Nat.le_of_ble_eq_true rfl, Nat.le_of_ble_eq_true rfl⟩ ⟨Nat.le_of_ble_eq_true rfl, Nat.le_of_ble_eq_true rfl⟩ rfl ?_
  refine c_X3_init (k := 1) rfl rfl (fun hi1 hr1 a1 b1 sr1 cs1 => ?_)
  refine go_putR (a := 1) dX8_init_12 fl_X8_10 rfl rfl rfl rfl in_X8 on_X8 ?_
  generalize er2 : sk_wr hr1 0 0 (some 1) = hr2
  show sk_Go Γ (sk_M Γ m_X8_init Q) _ _ _ _ (hi1, hr2, [(0, 7), (0, 2), (0, 0), (1, 384), (1, 4), (0, 4), (1, 744), (0, 3), (1, 4), (1, 4), (1, 4)])
  refine go_aload_n dX8_init_15 rfl ?_
  refine go_iconst dX8_init_16 (v := 3) (by decide) ?_
  refine go_anewL (N := 3) (m := 11) rfl dX8_init_17 cl_X8_7 (by decide) (by decide) (by decide) (Nat.le_of_ble_eq_true rfl) (Nat.le_of_ble_eq_true rfl) ?_
  refine go_putR (a := 11) dX8_init_20 fl_X8_16 rfl rfl rfl rfl in_X8 on_X8 ?_
  generalize er3 : sk_wr (sk_zr hr2 11) 0 1 (some 11) = hr3
  show sk_Go Γ (sk_M Γ m_X8_init Q) _ _ _ _ (hi1, hr3, [(0, 7), (0, 2), (0, 0), (1, 384), (1, 4), (0, 4), (1, 744), (0, 3), (1, 4), (1, 4), (1, 4), (3, 3)])
  refine go_aload_n dX8_init_23 rfl ?_
  refine go_newL (ci := 5) (T := TX6) (N := 6) (m := 12) rfl dX8_init_24 rfl wf_X6 tyX6_ok df_X6 cl_X8_20 ia_X6 iz_X6 (Nat.le_of_ble_eq_true rfl) (Nat.le_of_ble_eq_true rfl) ?_
  refine go_dup dX8_init_27 rfl ?_
  refine go_callN (μ := m_X6_init) (n := 31) dX8_init_28 ok_X6_init rfl rfl nw_X8_22 wx_X6_init rfl (Nat.le_of_ble_eq_true rfl) ⟨Nat.le_of_ble_eq_true rfl, Nat.le_of_ble_eq_true rfl⟩ ⟨Nat.le_of_ble_eq_true rfl, Nat.le_of_ble_eq_true rfl⟩ rfl ?_
  refine c_X6_init (k := 12) rfl rfl ?_
  refine go_putR (a := 12) dX8_init_31 fl_X8_23 rfl rfl rfl rfl in_X8 on_X8 ?_
  generalize eh4 : sk_wi (sk_wi (sk_wi (sk_zi (sk_zi (sk_zi (sk_zi hi1 12) (12 + 1)) (12 + 2)) (12 + 3)) 12 3 0) 12 4 (-1)) 12 5 (-1) = hi4
  generalize er4 : sk_wr (sk_wr (sk_wr (sk_wr (sk_zr hr3 12) 12 0 (some (12 + 1))) 12 1 (some (12 + 2))) 12 2 (some (12 + 3))) 0 2 (some 12) = hr4
  show sk_Go Γ (sk_M Γ m_X8_init Q) _ _ _ _ (hi4, hr4, [(0, 7), (0, 2), (0, 0), (1, 384), (1, 4), (0, 4), (1, 744), (0, 3), (1, 4), (1, 4), (1, 4), (3, 3), (0, 5), (1, 768), (1, 768), (1, 24)])
  refine go_aload_n dX8_init_34 rfl ?_
  refine go_newL (ci := 6) (T := TX7) (N := 2) (m := 16) rfl dX8_init_35 rfl wf_X7 tyX7_ok df_X7 cl_X8_27 ia_X7 iz_X7 (Nat.le_of_ble_eq_true rfl) (Nat.le_of_ble_eq_true rfl) ?_
  refine go_dup dX8_init_38 rfl ?_
  refine go_callN (μ := m_X7_init) (n := 42) dX8_init_39 ok_X7_init rfl rfl nw_X8_29 wx_X7_init rfl (Nat.le_of_ble_eq_true rfl) ⟨Nat.le_of_ble_eq_true rfl, Nat.le_of_ble_eq_true rfl⟩ ⟨Nat.le_of_ble_eq_true rfl, Nat.le_of_ble_eq_true rfl⟩ rfl ?_
  refine c_X7_init (k := 16) rfl rfl ?_
  refine go_putR (a := 16) dX8_init_42 fl_X8_30 rfl rfl rfl rfl in_X8 on_X8 ?_
  generalize eh5 : sk_wi (sk_zi (sk_zi hi4 16) (16 + 1)) 16 1 0 = hi5
  generalize er5 : sk_wr (sk_wr (sk_zr hr4 16) 16 0 (some (16 + 1))) 0 3 (some 16) = hr5
  show sk_Go Γ (sk_M Γ m_X8_init Q) _ _ _ _ (hi5, hr5, [(0, 7), (0, 2), (0, 0), (1, 384), (1, 4), (0, 4), (1, 744), (0, 3), (1, 4), (1, 4), (1, 4), (3, 3), (0, 5), (1, 768), (1, 768), (1, 24), (0, 6), (1, 24)])
  refine go_aload_n dX8_init_45 rfl ?_
  refine go_newL (ci := 1) (T := TX2) (N := 1) (m := 18) rfl dX8_init_46 rfl wf_X2 tyX2_ok df_X2 cl_X8_34 ia_X2 iz_X2 (Nat.le_of_ble_eq_true rfl) (Nat.le_of_ble_eq_true rfl) ?_
  refine go_dup dX8_init_49 rfl ?_
  refine go_callN (μ := m_X2_init) (n := 53) dX8_init_50 ok_X2_init rfl rfl nw_X8_36 wx_X2_init rfl (Nat.le_of_ble_eq_true rfl) ⟨Nat.le_of_ble_eq_true rfl, Nat.le_of_ble_eq_true rfl⟩ ⟨Nat.le_of_ble_eq_true rfl, Nat.le_of_ble_eq_true rfl⟩ rfl ?_
  refine c_X2_init (k := 18) rfl rfl ?_
  refine go_putR (a := 18) dX8_init_53 fl_X8_37 rfl rfl rfl rfl in_X8 on_X8 ?_
  generalize eh6 : sk_zi (sk_zi hi5 18) (18 + 1) = hi6
  generalize er6 : sk_wr (sk_wr (sk_zr hr5 18) 18 0 (some (18 + 1))) 0 4 (some 18) = hr6
  show sk_Go Γ (sk_M Γ m_X8_init Q) _ _ _ _ (hi6, hr6, sk_k20)
  refine go_aload_n dX8_init_56 rfl ?_
  refine go_iconst dX8_init_57 (v := -1) (by decide) ?_
  refine go_putI dX8_init_58 fl_X8_41 rfl rfl ?_
  show sk_Go Γ (sk_M Γ m_X8_init Q) _ _ _ _ (sk_wi hi6 0 5 (-1), hr6, sk_k20)
  refine go_vret (μ := m_X8_init) dX8_init_61 rfl (Nat.le_of_ble_eq_true rfl) (Nat.le_of_ble_eq_true rfl) ?_
  have A : ∀ a, 1 ≤ a → a < 12 → sk_wi hi6 0 5 (-1) a = hi1 a := fun a h1 h2 => by
    rw [sk_wi_o _ _ _ (by omega), ← eh6, sk_zi_o _ (by omega), sk_zi_o _ (by omega), ← eh5, sk_wi_o _ _ _ (by omega), sk_zi_o _ (by omega), sk_zi_o _ (by omega), ← eh4, sk_wi_o _ _ _ (by omega), sk_wi_o _ _ _ (by omega), sk_wi_o _ _ _ (by omega), sk_zi_o _ (by omega), sk_zi_o _ (by omega), sk_zi_o _ (by omega), sk_zi_o _ (by omega)]
  have B : ∀ a, 1 ≤ a → a < 12 → a ≠ 11 → hr6 a = hr1 a := fun a h1 h2 h3 => by
    rw [← er6, sk_wr_o _ _ _ (by omega), sk_wr_o _ _ _ (by omega), sk_zr_o _ (by omega), ← er5, sk_wr_o _ _ _ (by omega), sk_wr_o _ _ _ (by omega), sk_zr_o _ (by omega), ← er4, sk_wr_o _ _ _ (by omega), sk_wr_o _ _ _ (by omega), sk_wr_o _ _ _ (by omega), sk_wr_o _ _ _ (by omega), sk_zr_o _ (by omega), ← er3, sk_wr_o _ _ _ (by omega), sk_zr_o _ h3, ← er2, sk_wr_o _ _ _ (by omega)]
  refine q _ _ (sk_Cs_o (s := 1) cs1 (fun a h1 h2 => A a (by omega) (by omega))) (sk_wi_self _ _ _ _) ⟨⟨?_, ?_, ?_, ?_, ?_⟩, ?_, ⟨?_, ?_, ?_⟩, ?_, ?_, fun j => ?_⟩
  · rw [← er6, sk_wr_ne _ _ (by decide), sk_wr_o _ _ _ (by decide), sk_zr_o _ (by decide), ← er5, sk_wr_ne _ _ (by decide), sk_wr_o _ _ _ (by decide), sk_zr_o _ (by decide), ← er4, sk_wr_ne _ _ (by decide), sk_wr_o _ _ _ (by decide), sk_wr_o _ _ _ (by decide), sk_wr_o _ _ _ (by decide), sk_zr_o _ (by decide), ← er3, sk_wr_ne _ _ (by decide), sk_zr_o _ (by decide), ← er2, sk_wr_self]
  · rw [← er6, sk_wr_ne _ _ (by decide), sk_wr_o _ _ _ (by decide), sk_zr_o _ (by decide), ← er5, sk_wr_ne _ _ (by decide), sk_wr_o _ _ _ (by decide), sk_zr_o _ (by decide), ← er4, sk_wr_ne _ _ (by decide), sk_wr_o _ _ _ (by decide), sk_wr_o _ _ _ (by decide), sk_wr_o _ _ _ (by decide), sk_zr_o _ (by decide), ← er3, sk_wr_self]
  · rw [← er6, sk_wr_ne _ _ (by decide), sk_wr_o _ _ _ (by decide), sk_zr_o _ (by decide), ← er5, sk_wr_ne _ _ (by decide), sk_wr_o _ _ _ (by decide), sk_zr_o _ (by decide), ← er4, sk_wr_self]
  · rw [← er6, sk_wr_ne _ _ (by decide), sk_wr_o _ _ _ (by decide), sk_zr_o _ (by decide), ← er5, sk_wr_self]
  · rw [← er6, sk_wr_self]
  · unfold sk_Sr at sr1 ⊢
    rw [B 1 (by decide) (by decide) (by decide), B (1 + 1) (by decide) (by decide) (by decide), B (1 + 4) (by decide) (by decide) (by decide), B (1 + 6) (by decide) (by decide) (by decide)]
    exact sr1
  · rw [← er6, sk_wr_o _ _ _ (by decide), sk_wr_o _ _ _ (by decide), sk_zr_o _ (by decide), ← er5, sk_wr_o _ _ _ (by decide), sk_wr_o _ _ _ (by decide), sk_zr_o _ (by decide), ← er4, sk_wr_o _ _ _ (by decide), sk_wr_ne _ _ (by decide), sk_wr_ne _ _ (by decide), sk_wr_self]
  · rw [← er6, sk_wr_o _ _ _ (by decide), sk_wr_o _ _ _ (by decide), sk_zr_o _ (by decide), ← er5, sk_wr_o _ _ _ (by decide), sk_wr_o _ _ _ (by decide), sk_zr_o _ (by decide), ← er4, sk_wr_o _ _ _ (by decide), sk_wr_ne _ _ (by decide), sk_wr_self]
  · rw [← er6, sk_wr_o _ _ _ (by decide), sk_wr_o _ _ _ (by decide), sk_zr_o _ (by decide), ← er5, sk_wr_o _ _ _ (by decide), sk_wr_o _ _ _ (by decide), sk_zr_o _ (by decide), ← er4, sk_wr_o _ _ _ (by decide), sk_wr_self]
  · rw [← er6, sk_wr_o _ _ _ (by decide), sk_wr_o _ _ _ (by decide), sk_zr_o _ (by decide), ← er5, sk_wr_o _ _ _ (by decide), sk_wr_self]
  · rw [← er6, sk_wr_o _ _ _ (by decide), sk_wr_self]
  · rw [← er6, sk_wr_o _ _ _ (by decide), sk_wr_o _ _ _ (by decide), sk_zr_o _ (by decide), ← er5, sk_wr_o _ _ _ (by decide), sk_wr_o _ _ _ (by decide), sk_zr_o _ (by decide), ← er4, sk_wr_o _ _ _ (by decide), sk_wr_o _ _ _ (by decide), sk_wr_o _ _ _ (by decide), sk_wr_o _ _ _ (by decide), sk_zr_o _ (by decide), ← er3, sk_wr_o _ _ _ (by decide), sk_zr_self]
end NEW8
