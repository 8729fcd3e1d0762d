theorem sk_R0_t {hi : Nat → Nat → Int32} {S : sk_S} (hR : sk_R0 hi S) {k : Nat} (hk : k < 744) : hi 21 (20 + 2 * k) = sk_tv (S.2.2.1 k) ∧ hi 21 (20 + 2 * k + 1) = sk_tl (S.2.2.1 k) := by
  have h := hR.2.2.1 k hk
  rw [Nat.zero_add] at h
  exact h
theorem sk_R_t {f f' : Nat → Int32} {S : sk_S} {k : Nat} {v : Option (Nat × Nat)} (hn : S.2.2.2.1 ≤ 4) (hk : k < 744) (hR : sk_R f 0 S) (h1 : f' (20 + 2 * k) = sk_tv v) (h2 : f' (20 + 2 * k + 1) = sk_tl v) (ho : ∀ j, j ≠ 20 + 2 * k → j ≠ 20 + 2 * k + 1 → f' j = f j) : sk_R f' 0 (S.1, S.2.1, sk_ut S.2.2.1 k v, S.2.2.2) := by
  obtain ⟨r1, r2, r3, r4, r5⟩ := hR
  refine ⟨fun b hb t ht h hh => by rw [ho _ (by omega) (by omega)]; exact r1 b hb t ht h hh, ⟨by rw [ho _ (by omega) (by omega)]; exact r2.1, by rw [ho _ (by omega) (by omega)]; exact r2.2.1, by rw [ho _ (by omega) (by omega)]; exact r2.2.2⟩, fun k' hk' => ?_, by rw [ho _ (by omega) (by omega)]; exact r4, fun i hi => ?_⟩
  · show _ = sk_tv (sk_ut S.2.2.1 k v k') ∧ _ = sk_tl (sk_ut S.2.2.1 k v k')
    unfold sk_ut
    by_cases hc : k' = k
    · subst hc
      rw [if_pos rfl, Nat.zero_add]
      exact ⟨h1, h2⟩
    · rw [if_neg hc, ho _ (by omega) (by omega), ho _ (by omega) (by omega)]
      exact r3 k' hk'
  · have hi4 : i < 4 := Nat.lt_of_lt_of_le hi hn
    exact ⟨by rw [ho _ (by omega) (by omega)]; exact (r5 i hi).1, by rw [ho _ (by omega) (by omega)]; exact (r5 i hi).2.1, by rw [ho _ (by omega) (by omega)]; exact (r5 i hi).2.2⟩
section TABLE2
variable {Γ : sk_Cx} {Q : Option Value → sk_Hp → Prop} {rr : Nat → Nat → Option Nat} {ex : List (Nat × Nat)} {hi : Nat → Nat → Int32} {S : sk_S}
theorem c_sets {h d : Nat} {v l : Int32} {o : Option (Nat × Nat)} (hG : sk_G S) (hR : sk_R0 hi S) (hh : h < 24) (hd : d < 31) (hv : v = sk_tv o) (hl : l = sk_tl o) (q : ∀ hi', sk_R0 hi' (S.1, S.2.1, sk_ut S.2.2.1 (h * 31 + d) o, S.2.2.2) → sk_FR hi hi' → (∀ a, a ≠ 21 → hi' a = hi a) → Q none (sk_h hi' rr ex)) : sk_Ct Γ m_X9_sets [.ref 20, .int (nI h), .int (nI d), .int v, .int l] (sk_h hi rr ex) Q := by
  refine sk_Ct.of ok_X9_sets.2.2.2 (Nat.le_of_ble_eq_true rfl) (k_X9_sets_0 (c_cell (k_X9_sets_9 (vp_in_nI (by omega) (by decide)) (c_cell (k_X9_sets_20 (by rw [nI_1]; exact vp_in_nI (by omega) (by decide)) ?_)))))
  rw [nI_clamp (by omega), nI_1, nI_clamp (by omega)]
  exact q _ (sk_R_t hG.2.2.2.2.2.1 (by omega) hR (by rw [sk_wi_ne _ _ (by omega), sk_wi_self]; exact hv) ((sk_wi_self _ _ _ _).trans hl) (fun j h1 h2 => by rw [sk_wi_ne _ _ h2, sk_wi_ne _ _ h1])) (sk_FR_21 (fun a ha => by rw [sk_wi_o _ _ _ ha, sk_wi_o _ _ _ ha]) (fun j hj => by rw [sk_wi_ne _ _ (by omega), sk_wi_ne _ _ (by omega)])) (fun a ha => by rw [sk_wi_o _ _ _ ha, sk_wi_o _ _ _ ha])
theorem cm_value {x1 x2 x3 x4 : Int32} (hG : sk_G S) (hR : sk_R0 hi S) (q1 : sk_Pvalue x1 x2 x3 x4 → ∀ hi', sk_R0 hi' (S.1, S.2.1, sk_ut S.2.2.1 (sk_n x1 * 31 + sk_n x2) (some (sk_n x3, sk_n x4)), S.2.2.2) → sk_FR hi hi' → Q (some (.int 1)) (sk_h hi' rr ex)) (q0 : ¬ sk_Pvalue x1 x2 x3 x4 → Q (some (.int 0)) (sk_h hi rr ex)) : sk_Ct Γ m_X9_value [.ref 20, .int x1, .int x2, .int x3, .int x4] (sk_h hi rr ex) Q := by
  refine sk_Ct.of ok_X9_value.2.2.2 (Nat.le_of_ble_eq_true rfl) (k_X9_value_0 (c_X9_isHour (fun z1 z2 => k_X9_value_5 (fun c => absurd c sk_n10) (fun _ => c_X9_isIn (l := 0) (u := 999) (by decide) (by decide) (by decide) (by decide) (fun z3 => k_X9_value_16 (fun c => absurd c sk_n10) (fun _ => c_X9_isIn (l := 0) (u := 2) (by decide) (by decide) (by decide) (by decide) (fun z4 => k_X9_value_26 (fun _ => ?_) (fun c => absurd c sk_n10)) (fun z4 => k_X9_value_26 (fun c => absurd rfl c) (fun _ => q0 (fun w => z4 w.2.2))))) (fun z3 => k_X9_value_16 (fun _ => q0 (fun w => z3 w.2.1)) (fun c => absurd rfl c)))) (fun z => k_X9_value_5 (fun _ => q0 (fun w => z w.1)) (fun c => absurd rfl c))))
  obtain ⟨e1, a1, b1⟩ := sk_rg_n z1 (by decide)
  obtain ⟨e2, a2, b2⟩ := sk_rg_n z2 (by decide)
  obtain ⟨e3, a3, b3⟩ := sk_rg_n z3 (by decide)
  obtain ⟨e4, a4, b4⟩ := sk_rg_n z4 (by decide)
  rw [show ([.ref 20, .int x1, .int x2, .int x3, .int x4] : List Value) = [.ref 20, .int (nI (sk_n x1)), .int (nI (sk_n x2)), .int x3, .int x4] by rw [← e1, ← e2]]
  exact c_sets hG hR (by omega) (by omega) (o := some (sk_n x3, sk_n x4)) e3 e4 (fun hi' c1 c2 _ => k_X9_value_40 (q1 ⟨⟨z1, z2⟩, z3, z4⟩ hi' c1 c2))
theorem cm_miss {x1 x2 : Int32} (hG : sk_G S) (hR : sk_R0 hi S) (q1 : sk_Pday x1 x2 → ∀ hi', sk_R0 hi' (S.1, S.2.1, sk_ut S.2.2.1 (sk_n x1 * 31 + sk_n x2) none, S.2.2.2) → sk_FR hi hi' → Q (some (.int 1)) (sk_h hi' rr ex)) (q0 : ¬ sk_Pday x1 x2 → Q (some (.int 0)) (sk_h hi rr ex)) : sk_Ct Γ m_X9_miss [.ref 20, .int x1, .int x2] (sk_h hi rr ex) Q := by
  refine sk_Ct.of ok_X9_miss.2.2.2 (Nat.le_of_ble_eq_true rfl) (k_X9_miss_0 (c_X9_isHour (fun z1 z2 => k_X9_miss_5 (fun _ => ?_) (fun c => absurd c sk_n10)) (fun z => k_X9_miss_5 (fun c => absurd rfl c) (fun _ => q0 z))))
  obtain ⟨e1, a1, b1⟩ := sk_rg_n z1 (by decide)
  obtain ⟨e2, a2, b2⟩ := sk_rg_n z2 (by decide)
  rw [show ([.ref 20, .int x1, .int x2, .int (-1), .int 0] : List Value) = [.ref 20, .int (nI (sk_n x1)), .int (nI (sk_n x2)), .int (-1), .int 0] by rw [← e1, ← e2]]
  exact c_sets hG hR (by omega) (by omega) (o := none) rfl rfl (fun hi' c1 c2 _ => k_X9_miss_18 (q1 ⟨z1, z2⟩ hi' c1 c2))
theorem cm_table {x1 x2 x3 : Int32} (hG : sk_G S) (hR : sk_R0 hi S) (q : Q (some (.int (vl_table S x1 x2 x3))) (sk_h hi rr ex)) : sk_Ct Γ m_X9_table [.ref 20, .int x1, .int x2, .int x3] (sk_h hi rr ex) Q := by
  unfold vl_table at q
  refine sk_Ct.of ok_X9_table.2.2.2 (Nat.le_of_ble_eq_true rfl) (k_X9_table_0 (c_X9_isHour (fun z1 z2 => k_X9_table_5 (fun c => absurd c sk_n10) (fun _ => ?_)) (fun z => k_X9_table_5 (fun _ => by rw [sk_if_f (P := sk_Pday x1 x2) z] at q; exact q) (fun c => absurd rfl c))))
  rw [sk_if_t (P := sk_Pday x1 x2) ⟨z1, z2⟩] at q
  obtain ⟨e1, a1, b1⟩ := sk_rg_n z1 (by decide)
  obtain ⟨e2, a2, b2⟩ := sk_rg_n z2 (by decide)
  generalize sk_n x1 = h at e1 a1 b1 q
  generalize sk_n x2 = d at e2 a2 b2 q
  subst e1; subst e2
  obtain ⟨t1, t2⟩ := sk_R0_t hR (k := h * 31 + d) (by omega)
  have tn := sk_tv_neg (hG.2.2.2.2.1 (h * 31 + d))
  refine c_X9_isIn (l := 0) (u := 1) (by decide) (by decide) (by decide) (by decide) (fun z3 => k_X9_table_14 (fun c => absurd c sk_n10) (fun _ => c_cell (k_X9_table_26 (vp_in_nI (by omega) (by decide)) (fun c => ?_) (fun c => c_cell (k_X9_table_39 ?_ ?_))))) (fun z3 => k_X9_table_14 (fun _ => ?_) (fun c => absurd rfl c))
  · rw [nI_clamp (by omega), t1, tn] at c
    rw [c] at q
    exact q
  · obtain ⟨j, j1, j2, rfl⟩ := z3
    rw [nI_add]
    exact vp_in_nI (by omega) (by decide)
  · rw [nI_clamp (by omega), t1, tn] at c
    obtain ⟨j, j1, j2, rfl⟩ := z3
    rw [nI_add, nI_clamp (by omega)]
    cases ho : S.2.2.1 (h * 31 + d) with
    | none => exact absurd ho c
    | some p =>
      rw [ho] at q t1 t2
      rcases (show j = 0 ∨ j = 1 by omega) with rfl | rfl
      · rw [Nat.add_zero, t1]
        exact q
      · rw [t2]
        exact q
  · have n0 : ¬ x3 = 0 := fun w => z3 ⟨0, by omega, by omega, w⟩
    have n1 : ¬ x3 = 1 := fun w => z3 ⟨1, by omega, by omega, w⟩
    cases ho : S.2.2.1 (h * 31 + d) with
    | none => rw [ho] at q; exact q
    | some p => rw [ho] at q; simp only [if_neg n0, if_neg n1] at q; exact q
theorem c_rpresent {h : Nat} (hG : sk_G S) (hR : sk_R0 hi S) (hh : h < 24) (q : Q (some (.int (nI (sk_ct (sk_pr S.2.2.1 h) 31)))) (sk_h hi rr ex)) : sk_Ct Γ m_X9_present [.ref 20, .int (nI h)] (sk_h hi rr ex) Q := by
  refine sk_Ct.of ok_X9_present.2.2.2 (Nat.le_of_ble_eq_true rfl) (k_X9_present_0 ?_)
  have loop : ∀ n d, d + n = 31 → sk_Go Γ (sk_M Γ m_X9_present Q) (0, 0) 4 [some (.ref 20), some (.int (nI h)), some (.int (nI (sk_ct (sk_pr S.2.2.1 h) d))), some (.int (nI d))] [] (sk_h hi rr ex) := by
    intro n
    induction n with
    | zero =>
      intro d hd
      have e : d = 31 := by omega
      subst e
      exact k_X9_present_4 (fun _ => q) (fun c => absurd (nI_le (Nat.le_refl 31) (by decide)) c)
    | succ n ih =>
      intro d hd
      have hn : ¬ (31 : Int32) ≤ nI d := nI_ge (b := 31) (by omega) (by decide)
      have := ih (d + 1) (by omega)
      obtain ⟨t1, t2⟩ := sk_R0_t hR (k := h * 31 + d) (by omega)
      have tn := sk_tv_neg (hG.2.2.2.2.1 (h * 31 + d))
      refine k_X9_present_4 (fun c => absurd c hn) (fun _ => c_cell (k_X9_present_20 (vp_in_nI (by omega) (by decide)) (fun c => ?_) (fun c => ?_)))
      · rw [nI_clamp (by omega), t1, tn] at c
        rw [sk_ct, if_neg (by simp [sk_pr, c]), Nat.add_zero] at this
        rw [show (0 : Int32) = nI 0 from rfl, nI_add, Nat.add_zero, nI_1]
        exact this
      · rw [nI_clamp (by omega), t1, tn] at c
        rw [sk_ct, if_pos (by unfold sk_pr; cases ho : S.2.2.1 (h * 31 + d) with | none => exact absurd ho c | some p => rfl)] at this
        rw [nI_1, nI_1]
        exact this
  exact loop 31 0 (by omega)
end TABLE2
