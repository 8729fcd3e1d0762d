/-- how many of the first n -/
def sk_ct (p : Nat → Bool) : Nat → Nat
  | 0 => 0
  | n + 1 => sk_ct p n + if p n = true then 1 else 0
theorem sk_ct_le (p : Nat → Bool) : ∀ n, sk_ct p n ≤ n
  | 0 => Nat.le_refl 0
  | n + 1 => by
    have ih := sk_ct_le p n
    unfold sk_ct
    split <;> omega
theorem sk_ct_cong {p p' : Nat → Bool} : ∀ {n : Nat}, (∀ i, i < n → p i = p' i) → sk_ct p n = sk_ct p' n
  | 0, _ => rfl
  | n + 1, h => by unfold sk_ct; rw [sk_ct_cong (fun i hi => h i (by omega)), h n (by omega)]
def sk_sm (f : Nat → Nat) : Nat → Nat
  | 0 => 0
  | n + 1 => sk_sm f n + f n
theorem sk_sm_le {f : Nat → Nat} {c : Nat} (h : ∀ i, f i ≤ c) : ∀ n, sk_sm f n ≤ n * c
  | 0 => by simp [sk_sm]
  | n + 1 => by
    have ih := sk_sm_le h n
    have := h n
    unfold sk_sm
    rw [Nat.succ_mul]
    omega
def sk_ut (tab : Nat → Option (Nat × Nat)) (k : Nat) (v : Option (Nat × Nat)) : Nat → Option (Nat × Nat) := fun k' => if k' = k then v else tab k'
/-- present days of an hour; those with a letter -/
def sk_pr (tab : Nat → Option (Nat × Nat)) (h : Nat) : Nat → Bool := fun d => (tab (h * 31 + d)).isSome
def sk_lt (tab : Nat → Option (Nat × Nat)) (h : Nat) : Nat → Bool := fun d => match tab (h * 31 + d) with
  | none => false
  | some q => !(q.2 == 0)
theorem sk_tc_none {o : Option (Nat × Nat)} (h : ∀ q, o = some q → q.1 ≤ 999 ∧ q.2 ≤ 2) : sk_tc o = -1 ↔ o = none := by
  cases o with
  | none => simp [sk_tc]
  | some q =>
    have := h q rfl
    simp only [sk_tc, reduceCtorEq, iff_false]
    intro c
    have c2 := congrArg Int32.toInt c
    rw [nI_toInt (by omega)] at c2
    have : ((-1 : Int32)).toInt = -1 := by decide
    omega
theorem sk_tv_neg {o : Option (Nat × Nat)} (h : ∀ q, o = some q → q.1 ≤ 999 ∧ q.2 ≤ 2) : sk_tv o < 0 ↔ o = none := by
  cases o with
  | none => simp [sk_tv]
  | some q =>
    have := h q rfl
    simp only [sk_tv, reduceCtorEq, iff_false]
    exact nI_pos (by omega)
theorem sk_Cn_t {S : sk_S} {hi hi' : Nat → Nat → Int32} {tab' : Nat → Option (Nat × Nat)} (hC : sk_Cn hi S) (h6 : sk_CT (hi' 6) tab') (ho : ∀ a, a ≠ 6 → hi' a = hi a) : sk_Cn hi' (S.1, S.2.1, tab', S.2.2.2) := by
  obtain ⟨c1, c2, c3, c4, c5⟩ := hC
  refine ⟨by rw [ho 3 (by decide)]; exact c1, by rw [ho 2 (by decide)]; exact c2, by rw [ho 4 (by decide)]; exact c3, h6, by rw [ho 7 (by decide), ho 8 (by decide), ho 9 (by decide), ho 10 (by decide)]; exact c5⟩
theorem sk_cellx (h d : Nat) : nI h * 31 + nI d = nI (h * 31 + d) := by
  rw [show (31 : Int32) = nI 31 from rfl, pk_mul, nI_add]
theorem sk_cellr (h d : Nat) : 20 + 2 * (31 * nI h + nI d) = nI (20 + 2 * (h * 31 + d)) := by
  rw [show (31 : Int32) = nI 31 from rfl, show (2 : Int32) = nI 2 from rfl, show (20 : Int32) = nI 20 from rfl, pk_mul, nI_add, pk_mul, nI_add, Nat.mul_comm 31 h]
def sk_Pvalue (x1 x2 x3 x4 : Int32) : Prop := (sk_rg x1 0 23 ∧ sk_rg x2 0 30) ∧ sk_rg x3 0 999 ∧ sk_rg x4 0 2
def sk_Pday (x1 x2 : Int32) : Prop := sk_rg x1 0 23 ∧ sk_rg x2 0 30
noncomputable def vl_table (S : sk_S) (x1 x2 x3 : Int32) : Int32 := sk_if (sk_Pday x1 x2) (match S.2.2.1 (sk_n x1 * 31 + sk_n x2) with
  | none => -1
  | some q => if x3 = 0 then nI q.1 else if x3 = 1 then nI q.2 else -1) (-1)
section TABLE
variable {Γ : sk_Cx} {Q : Option Value → sk_Hp → Prop} {rr : Nat → Nat → Option Nat} {ex : List (Nat × Nat)} {hi : Nat → Nat → Int32} {S : sk_S}
theorem c_cellOf {h d : Nat} (q : Q (some (.int (nI (h * 31 + d)))) (sk_h hi rr ex)) : sk_Ct Γ m_X5_cellOf [.int (nI h), .int (nI d)] (sk_h hi rr ex) Q :=
  sk_Ct.of ok_X5_cellOf.2.2.2 (Nat.le_of_ble_eq_true rfl) (k_X5_cellOf_0 (by rw [sk_cellx]; exact q))
theorem c_cell {h d : Nat} (q : Q (some (.int (nI (20 + 2 * (h * 31 + d))))) (sk_h hi rr ex)) : sk_Ct Γ m_X9_cell [.int (nI h), .int (nI d)] (sk_h hi rr ex) Q :=
  sk_Ct.of ok_X9_cell.2.2.2 (Nat.le_of_ble_eq_true rfl) (k_X9_cell_0 (by rw [sk_cellr]; exact q))
theorem c_put {h d v l : Nat} (hh : h < 24) (hd : d < 31) (q : Q none (sk_h (sk_wi hi 6 (h * 31 + d) (nI (v * 3 + l))) rr ex)) : sk_Ct Γ m_X5_put [.ref 5, .int (nI h), .int (nI d), .int (nI v), .int (nI l)] (sk_h hi rr ex) Q := by
  refine sk_Ct.of ok_X5_put.2.2.2 (Nat.le_of_ble_eq_true rfl) (k_X5_put_0 (c_cellOf (k_X5_put_9 (vp_in_nI (by omega) (by decide)) ?_)))
  rw [nI_clamp (by omega), show (3 : Int32) = nI 3 from rfl, pk_mul, nI_add]
  exact q
theorem c_drop {h d : Nat} (hh : h < 24) (hd : d < 31) (q : Q none (sk_h (sk_wi hi 6 (h * 31 + d) (-1)) rr ex)) : sk_Ct Γ m_X5_drop [.ref 5, .int (nI h), .int (nI d)] (sk_h hi rr ex) Q := by
  refine sk_Ct.of ok_X5_drop.2.2.2 (Nat.le_of_ble_eq_true rfl) (k_X5_drop_0 (c_cellOf (k_X5_drop_9 (vp_in_nI (by omega) (by decide)) ?_)))
  rw [nI_clamp (by omega)]
  exact q
theorem c_isMissing {h d : Nat} (hG : sk_G S) (hC : sk_Cn hi S) (hh : h < 24) (hd : d < 31) (q1 : S.2.2.1 (h * 31 + d) = none → Q (some (.int 1)) (sk_h hi rr ex)) (q0 : ∀ p, S.2.2.1 (h * 31 + d) = some p → Q (some (.int 0)) (sk_h hi rr ex)) : sk_Ct Γ m_X5_isMissing [.ref 5, .int (nI h), .int (nI d)] (sk_h hi rr ex) Q := by
  have e := hC.2.2.2.1 (h * 31 + d) (by omega)
  have en := sk_tc_none (hG.2.2.2.2.1 (h * 31 + d))
  refine sk_Ct.of ok_X5_isMissing.2.2.2 (Nat.le_of_ble_eq_true rfl) (k_X5_isMissing_0 (c_cellOf (k_X5_isMissing_9 (vp_in_nI (by omega) (by decide)) (fun c => ?_) (fun c => ?_))))
  · rw [nI_clamp (by omega), e, en] at c
    cases ho : S.2.2.1 (h * 31 + d) with
    | none => exact absurd ho c
    | some p => exact q0 p ho
  · rw [nI_clamp (by omega), e, en] at c
    exact q1 c
theorem c_valueAt {h d : Nat} {p : Nat × Nat} (hG : sk_G S) (hC : sk_Cn hi S) (hh : h < 24) (hd : d < 31) (hp : S.2.2.1 (h * 31 + d) = some p) (q : Q (some (.int (nI p.1))) (sk_h hi rr ex)) : sk_Ct Γ m_X5_valueAt [.ref 5, .int (nI h), .int (nI d)] (sk_h hi rr ex) Q := by
  have e := hC.2.2.2.1 (h * 31 + d) (by omega)
  have g := hG.2.2.2.2.1 _ p hp
  rw [hp] at e
  refine sk_Ct.of ok_X5_valueAt.2.2.2 (Nat.le_of_ble_eq_true rfl) (k_X5_valueAt_0 (c_cellOf (k_X5_valueAt_9 (vp_in_nI (by omega) (by decide)) ?_)))
  rw [nI_clamp (by omega), e]
  show Q (some (.int (nI (p.1 * 3 + p.2) / 3))) _
  rw [show (3 : Int32) = nI 3 from rfl, pk_div (by omega) (by decide) (by decide), show (p.1 * 3 + p.2) / 3 = p.1 by omega]
  exact q
theorem c_letterAt {h d : Nat} {p : Nat × Nat} (hG : sk_G S) (hC : sk_Cn hi S) (hh : h < 24) (hd : d < 31) (hp : S.2.2.1 (h * 31 + d) = some p) (q : Q (some (.int (nI p.2))) (sk_h hi rr ex)) : sk_Ct Γ m_X5_letterAt [.ref 5, .int (nI h), .int (nI d)] (sk_h hi rr ex) Q := by
  have e := hC.2.2.2.1 (h * 31 + d) (by omega)
  have g := hG.2.2.2.2.1 _ p hp
  rw [hp] at e
  refine sk_Ct.of ok_X5_letterAt.2.2.2 (Nat.le_of_ble_eq_true rfl) (k_X5_letterAt_0 (c_cellOf (k_X5_letterAt_9 (vp_in_nI (by omega) (by decide)) ?_)))
  rw [nI_clamp (by omega), e]
  show Q (some (.int (nI (p.1 * 3 + p.2) - nI (p.1 * 3 + p.2) / 3 * 3))) _
  rw [show (3 : Int32) = nI 3 from rfl, pk_rem (by omega) (by decide) (by decide), show (p.1 * 3 + p.2) % 3 = p.2 by omega]
  exact q
theorem c_presentIn {h : Nat} (hG : sk_G S) (hC : sk_Cn hi S) (hh : h < 24) (q : Q (some (.int (nI (sk_ct (sk_pr S.2.2.1 h) 31)))) (sk_h hi rr ex)) : sk_Ct Γ m_X5_presentIn [.ref 5, .int (nI h)] (sk_h hi rr ex) Q := by
  refine sk_Ct.of ok_X5_presentIn.2.2.2 (Nat.le_of_ble_eq_true rfl) (k_X5_presentIn_0 ?_)
  have loop : ∀ n d, d + n = 31 → sk_Go Γ (sk_M Γ m_X5_presentIn Q) (0, 0) 4 [some (.ref 5), some (.int (nI h)), some (.int (nI (sk_ct (sk_pr S.2.2.1 h) d))), some (.int (nI d))] [] (sk_h hi rr ex) := by
    intro n
    induction n with
    | zero =>
      intro d hd
      have e : d = 31 := by omega
      subst e
      exact k_X5_presentIn_4 (fun _ => q) (fun c => absurd (nI_le (Nat.le_refl 31) (by decide)) c)
    | succ n ih =>
      intro d hd
      have hn : ¬ (31 : Int32) ≤ nI d := nI_ge (b := 31) (by omega) (by decide)
      have := ih (d + 1) (by omega)
      refine k_X5_presentIn_4 (fun c => absurd c hn) (fun _ => c_isMissing hG hC hh (by omega) (fun z => k_X5_presentIn_16 (fun _ => ?_) (fun c => absurd c sk_n10)) (fun p z => k_X5_presentIn_16 (fun c => absurd rfl c) (fun _ => ?_)))
      · rw [sk_ct, if_neg (by simp [sk_pr, z]), Nat.add_zero] at this
        rw [nI_1]
        exact this
      · rw [sk_ct, if_pos (by simp [sk_pr, z])] at this
        rw [nI_1, nI_1]
        exact this
  exact loop 31 0 (by omega)
theorem c_present {q0 : sk_G S} (hC : sk_Cn hi S) (q : Q (some (.int (nI (sk_sm (fun h => sk_ct (sk_pr S.2.2.1 h) 31) 24)))) (sk_h hi rr ex)) : sk_Ct Γ m_X5_present [.ref 5] (sk_h hi rr ex) Q := by
  refine sk_Ct.of ok_X5_present.2.2.2 (Nat.le_of_ble_eq_true rfl) (k_X5_present_0 ?_)
  have loop : ∀ n h, h + n = 24 → sk_Go Γ (sk_M Γ m_X5_present Q) (0, 0) 4 [some (.ref 5), some (.int (nI (sk_sm (fun h => sk_ct (sk_pr S.2.2.1 h) 31) h))), some (.int (nI h))] [] (sk_h hi rr ex) := by
    intro n
    induction n with
    | zero =>
      intro h hd
      have e : h = 24 := by omega
      subst e
      exact k_X5_present_4 (fun _ => q) (fun c => absurd (nI_le (Nat.le_refl 24) (by decide)) c)
    | succ n ih =>
      intro h hd
      have hn : ¬ (24 : Int32) ≤ nI h := nI_ge (b := 24) (by omega) (by decide)
      have := ih (h + 1) (by omega)
      refine k_X5_present_4 (fun c => absurd c hn) (fun _ => c_presentIn q0 hC (by omega) (k_X5_present_16 ?_))
      rw [nI_add, nI_1]
      exact this
  exact loop 24 0 (by omega)
theorem c_lettered {q0 : sk_G S} (hC : sk_Cn hi S) (q : Q (some (.int (nI (sk_sm (fun h => sk_ct (sk_lt S.2.2.1 h) 31) 24)))) (sk_h hi rr ex)) : sk_Ct Γ m_X5_lettered [.ref 5] (sk_h hi rr ex) Q := by
  refine sk_Ct.of ok_X5_lettered.2.2.2 (Nat.le_of_ble_eq_true rfl) (k_X5_lettered_0 ?_)
  have outer : ∀ n h, h + n = 24 → sk_Go Γ (sk_M Γ m_X5_lettered Q) (0, 0) 4 [some (.ref 5), some (.int (nI (sk_sm (fun h => sk_ct (sk_lt S.2.2.1 h) 31) h))), some (.int (nI h)), none] [] (sk_h hi rr ex) := by
    intro n
    induction n with
    | zero =>
      intro h hd
      have e : h = 24 := by omega
      subst e
      exact k_X5_lettered_4 (fun _ => q) (fun c => absurd (nI_le (Nat.le_refl 24) (by decide)) c)
    | succ n ih =>
      intro h hd
      have hn : ¬ (24 : Int32) ≤ nI h := nI_ge (b := 24) (by omega) (by decide)
      refine k_X5_lettered_4 (fun c => absurd c hn) (fun _ => ?_)
      have inner : ∀ k d, d + k = 31 → sk_Go Γ (sk_M Γ m_X5_lettered Q) (0, 0) 12 [some (.ref 5), some (.int (nI (sk_sm (fun h => sk_ct (sk_lt S.2.2.1 h) 31) h + sk_ct (sk_lt S.2.2.1 h) d))), some (.int (nI h)), some (.int (nI d))] [] (sk_h hi rr ex) := by
        intro k
        induction k with
        | zero =>
          intro d hd2
          have e : d = 31 := by omega
          subst e
          refine k_X5_lettered_12 (fun _ => ?_) (fun c => absurd (nI_le (Nat.le_refl 31) (by decide)) c)
          rw [nI_1]
          exact ih (h + 1) (by omega)
        | succ k ihk =>
          intro d hd2
          have hn2 : ¬ (31 : Int32) ≤ nI d := nI_ge (b := 31) (by omega) (by decide)
          have := ihk (d + 1) (by omega)
          refine k_X5_lettered_12 (fun c => absurd c hn2) (fun _ => c_isMissing q0 hC (by omega) (by omega) (fun z => k_X5_lettered_24 (fun _ => ?_) (fun c => absurd c sk_n10)) (fun p z => k_X5_lettered_24 (fun c => absurd rfl c) (fun _ => c_letterAt q0 hC (by omega) (by omega) z (k_X5_lettered_33 (fun c => ?_) (fun c => ?_)))))
          · rw [sk_ct, if_neg (by simp [sk_lt, z]), Nat.add_zero] at this
            rw [nI_1]
            exact this
          · have g := q0.2.2.2.2.1 _ p z
            have c2 : p.2 = 0 := (nI_eq (b := 0) (by omega) (by decide)).mp c
            rw [sk_ct, if_neg (by simp [sk_lt, z, c2]), Nat.add_zero] at this
            rw [nI_1]
            exact this
          · have g := q0.2.2.2.2.1 _ p z
            have c2 : ¬ p.2 = 0 := fun w => c (by rw [w]; rfl)
            rw [sk_ct, if_pos (by simp [sk_lt, z, c2])] at this
            rw [nI_1, nI_1]
            exact this
      exact inner 31 0 (by omega)
  exact outer 24 0 (by omega)
theorem cx_value {x1 x2 x3 x4 : Int32} (hC : sk_Cn hi S) (q1 : sk_Pvalue x1 x2 x3 x4 → ∀ hi', sk_Cn hi' (S.1, S.2.1, sk_ut S.2.2.1 (sk_n x1 * 31 + sk_n x2) (some (sk_n x3, sk_n x4)), S.2.2.2) → (∀ a, a ≠ 6 → hi' a = hi a) → Q (some (.int 1)) (sk_h hi' rr ex)) (q0 : ¬ sk_Pvalue x1 x2 x3 x4 → Q (some (.int 0)) (sk_h hi rr ex)) : sk_Ct Γ m_X8_value [.ref 0, .int x1, .int x2, .int x3, .int x4] (sk_h hi rr ex) Q := by
  refine sk_Ct.of ok_X8_value.2.2.2 (Nat.le_of_ble_eq_true rfl) (k_X8_value_0 (c_X8_isDay (fun z1 z2 => k_X8_value_5 (fun c => absurd c sk_n10) (fun _ => c_X8_isValue (fun z3 => k_X8_value_12 (fun c => absurd c sk_n10) (fun _ => c_X8_within (l := 0) (u := 2) (by decide) (by decide) (by decide) (by decide) (fun z4 => k_X8_value_22 (fun _ => ?_) (fun c => absurd c sk_n10)) (fun z4 => k_X8_value_22 (fun c => absurd rfl c) (fun _ => q0 (fun w => z4 w.2.2))))) (fun z3 => k_X8_value_12 (fun _ => q0 (fun w => z3 w.2.1)) (fun c => absurd rfl c)))) (fun z => k_X8_value_5 (fun _ => q0 (fun w => z w.1)) (fun c => absurd rfl c))))
  obtain ⟨e1, a1, b1⟩ := sk_rg_n z1 (by decide)
  obtain ⟨e2, a2, b2⟩ := sk_rg_n z2 (by decide)
  obtain ⟨e3, a3, b3⟩ := sk_rg_n z3 (by decide)
  obtain ⟨e4, a4, b4⟩ := sk_rg_n z4 (by decide)
  rw [show ([.ref 5, .int x1, .int x2, .int x3, .int x4] : List Value) = [.ref 5, .int (nI (sk_n x1)), .int (nI (sk_n x2)), .int (nI (sk_n x3)), .int (nI (sk_n x4))] by rw [← e1, ← e2, ← e3, ← e4]]
  refine c_put (by omega) (by omega) (k_X8_value_42 (q1 ⟨⟨z1, z2⟩, z3, z4⟩ _ (sk_Cn_t hC (fun k hk => ?_) (fun a ha => sk_wi_o _ _ _ ha)) (fun a ha => sk_wi_o _ _ _ ha)))
  rw [sk_wi_if]
  unfold sk_ut
  by_cases hc : k = sk_n x1 * 31 + sk_n x2
  · rw [if_pos hc, if_pos hc]; rfl
  · rw [if_neg hc, if_neg hc]; exact hC.2.2.2.1 k hk
theorem cx_miss {x1 x2 : Int32} (hC : sk_Cn hi S) (q1 : sk_Pday x1 x2 → ∀ hi', sk_Cn hi' (S.1, S.2.1, sk_ut S.2.2.1 (sk_n x1 * 31 + sk_n x2) none, S.2.2.2) → (∀ a, a ≠ 6 → hi' a = hi a) → Q (some (.int 1)) (sk_h hi' rr ex)) (q0 : ¬ sk_Pday x1 x2 → Q (some (.int 0)) (sk_h hi rr ex)) : sk_Ct Γ m_X8_miss [.ref 0, .int x1, .int x2] (sk_h hi rr ex) Q := by
  refine sk_Ct.of ok_X8_miss.2.2.2 (Nat.le_of_ble_eq_true rfl) (k_X8_miss_0 (c_X8_isDay (fun z1 z2 => k_X8_miss_5 (fun _ => ?_) (fun c => absurd c sk_n10)) (fun z => k_X8_miss_5 (fun c => absurd rfl c) (fun _ => q0 z))))
  obtain ⟨e1, a1, b1⟩ := sk_rg_n z1 (by decide)
  obtain ⟨e2, a2, b2⟩ := sk_rg_n z2 (by decide)
  rw [show ([.ref 5, .int x1, .int x2] : List Value) = [.ref 5, .int (nI (sk_n x1)), .int (nI (sk_n x2))] by rw [← e1, ← e2]]
  refine c_drop (by omega) (by omega) (k_X8_miss_22 (q1 ⟨z1, z2⟩ _ (sk_Cn_t hC (fun k hk => ?_) (fun a ha => sk_wi_o _ _ _ ha)) (fun a ha => sk_wi_o _ _ _ ha)))
  rw [sk_wi_if]
  unfold sk_ut
  by_cases hc : k = sk_n x1 * 31 + sk_n x2
  · rw [if_pos hc, if_pos hc]; rfl
  · rw [if_neg hc, if_neg hc]; exact hC.2.2.2.1 k hk
theorem cx_table {x1 x2 x3 : Int32} (hG : sk_G S) (hC : sk_Cn hi S) (q : Q (some (.int (vl_table S x1 x2 x3))) (sk_h hi rr ex)) : sk_Ct Γ m_X8_table [.ref 0, .int x1, .int x2, .int x3] (sk_h hi rr ex) Q := by
  unfold vl_table at q
  refine sk_Ct.of ok_X8_table.2.2.2 (Nat.le_of_ble_eq_true rfl) (k_X8_table_0 (c_X8_isDay (fun z1 z2 => k_X8_table_5 (fun c => absurd c sk_n10) (fun _ => ?_)) (fun z => k_X8_table_5 (fun _ => by rw [sk_if_f (P := sk_Pday x1 x2) z] at q; exact q) (fun c => absurd rfl c))))
  rw [sk_if_t (P := sk_Pday x1 x2) ⟨z1, z2⟩] at q
  obtain ⟨e1, a1, b1⟩ := sk_rg_n z1 (by decide)
  obtain ⟨e2, a2, b2⟩ := sk_rg_n z2 (by decide)
  generalize sk_n x1 = h at e1 a1 b1 q
  generalize sk_n x2 = d at e2 a2 b2 q
  subst e1; subst e2
  refine c_isMissing hG hC (by omega) (by omega) (fun z => k_X8_table_20 (fun c => absurd c sk_n10) (fun c => absurd c sk_n10) (fun c => absurd c sk_n10) (fun _ => by rw [z] at q; exact q)) (fun p z => k_X8_table_20 (fun _ c => ?_) (fun _ c1 c => ?_) (fun _ c1 c => ?_) (fun c => absurd rfl c))
  · rw [z] at q
    simp only [if_pos c] at q
    exact c_valueAt hG hC (by omega) (by omega) z (k_X8_table_64 q)
  · rw [z] at q
    simp only [if_neg c1, if_pos c] at q
    exact c_letterAt hG hC (by omega) (by omega) z (k_X8_table_77 q)
  · rw [z] at q
    simp only [if_neg c1, if_neg c] at q
    exact q
end TABLE
