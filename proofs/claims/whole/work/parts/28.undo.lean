/-- how place i weighs step j -/
def sk_we (j i : Nat) : Int32 := 100 + 100 * nI j / (nI i + 1)
def sk_ws (st : Nat → Int32) (i : Nat) : Nat → Int32
  | 0 => 0
  | n + 1 => sk_ws st i n + sk_we n i * st n
def sk_sum (st : Nat → Int32) : Nat → Int32
  | 0 => 0
  | n + 1 => sk_sum st n + st n
def sk_sp (ht st : Nat → Int32) (i : Nat) : Int32 := (100000 * (ht i + 1) - sk_ws st i i) / sk_we i i
/-- the first n steps are undone, and no more can be -/
def sk_Un (ht : Nat → Int32) (len : Nat) (st : Nat → Int32) (n : Nat) : Prop := n ≤ len ∧ (∀ i, i < n → st i = sk_sp ht st i ∧ 0 < st i) ∧ (n = len ∨ ¬ 0 < sk_sp ht st n)
theorem sk_ws_c {st st' : Nat → Int32} (i : Nat) : ∀ n, (∀ j, j < n → st' j = st j) → sk_ws st' i n = sk_ws st i n
  | 0, _ => rfl
  | n + 1, h => by
    show sk_ws st' i n + _ = sk_ws st i n + _
    rw [sk_ws_c i n (fun j hj => h j (by omega)), h n (by omega)]
theorem sk_sum_c {st st' : Nat → Int32} : ∀ n, (∀ j, j < n → st' j = st j) → sk_sum st' n = sk_sum st n
  | 0, _ => rfl
  | n + 1, h => by
    show sk_sum st' n + _ = sk_sum st n + _
    rw [sk_sum_c n (fun j hj => h j (by omega)), h n (by omega)]
theorem sk_sp_c {ht st st' : Nat → Int32} {i : Nat} (h : ∀ j, j < i → st' j = st j) : sk_sp ht st' i = sk_sp ht st i := by
  unfold sk_sp
  rw [sk_ws_c i i h]
theorem sk_Un_le {ht st st' : Nat → Int32} {len n n' : Nat} (h : sk_Un ht len st n) (h' : sk_Un ht len st' n') : ∀ k i, i < k → i < n → i < n' → st' i = st i := by
  intro k
  induction k with
  | zero => intro i hi; omega
  | succ k ih =>
    intro i _ h1 h2
    rw [(h.2.1 i h1).1, (h'.2.1 i h2).1]
    exact sk_sp_c (fun j hj => ih j (by omega) (by omega) (by omega))
theorem sk_Un_n {ht st st' : Nat → Int32} {len n n' : Nat} (h : sk_Un ht len st n) (h' : sk_Un ht len st' n') : ¬ n < n' := by
  intro hl
  have e : sk_sp ht st' n = sk_sp ht st n := sk_sp_c (fun j hj => sk_Un_le h h' (j + 1) j (by omega) hj (by omega))
  obtain ⟨a, b⟩ := h'.2.1 n hl
  rw [a, e] at b
  rcases h.2.2 with z | z
  · have := h'.1
    omega
  · exact z b
/-- there is but one way to undo -/
theorem sk_Un_one {ht st st' : Nat → Int32} {len n n' : Nat} (h : sk_Un ht len st n) (h' : sk_Un ht len st' n') : n' = n ∧ ∀ i, i < n → st' i = st i := by
  have e : n' = n := by
    have := sk_Un_n h h'
    have := sk_Un_n h' h
    omega
  exact ⟨e, fun i hi => sk_Un_le h h' (i + 1) i (by omega) hi (by omega)⟩
theorem sk_we0 {i : Nat} (h : i < 24) : ¬ sk_we i i = 0 := by
  have key : ∀ i, i < 24 → ¬ sk_we i i = 0 := by decide +kernel
  exact key i h
theorem sk_i10 {i : Nat} (h : i < 24) : ¬ nI i + 1 = 0 := by
  have key : ∀ i, i < 24 → ¬ nI i + 1 = 0 := by decide +kernel
  exact key i h
theorem sk_ss (a b c : Int32) : a - b - c = a - (b + c) := by
  rw [Int32.sub_eq_add_neg, Int32.sub_eq_add_neg, Int32.sub_eq_add_neg, Int32.neg_add, Int32.sub_eq_add_neg, Int32.add_assoc]
section UNDO
variable {Γ : sk_Cx} {Q : Option Value → sk_Hp → Prop} {rr : Nat → Nat → Option Nat} {ex : List (Nat × Nat)} {hi : Nat → Nat → Int32} {S : sk_S}
/-- the heights of a found trace -/
def sk_ht (S : sk_S) (b : Nat) (c : Nat × Nat × Nat) : Nat → Int32 := fun i => nI (sk_pa S b c.1 c.2.1 c.2.2 i)
theorem c_weight {j i : Nat} (h : i < 24) (q : Q (some (.int (sk_we j i))) (sk_h hi rr ex)) : sk_Ct Γ m_X7_weight [.int (nI j), .int (nI i)] (sk_h hi rr ex) Q :=
  sk_Ct.of ok_X7_weight.2.2.2 (Nat.le_of_ble_eq_true rfl) (k_X7_weight_0 (sk_i10 h) q)
theorem c_by {j i : Nat} (h : i < 24) (q : Q (some (.int (sk_we j i))) (sk_h hi rr ex)) : sk_Ct Γ m_X9_by [.int (nI j), .int (nI i)] (sk_h hi rr ex) Q :=
  sk_Ct.of ok_X9_by.2.2.2 (Nat.le_of_ble_eq_true rfl) (k_X9_by_0 (sk_i10 h) q)
theorem c_weighed {m i : Nat} (hm : m ≤ 24) (h : i < 24) (q : Q (some (.int (sk_ws (hi 17) i m))) (sk_h hi rr ex)) : sk_Ct Γ m_X7_weighed [.ref 16, .int (nI m), .int (nI i)] (sk_h hi rr ex) Q := by
  refine sk_Ct.of ok_X7_weighed.2.2.2 (Nat.le_of_ble_eq_true rfl) (k_X7_weighed_0 ?_)
  have loop : ∀ n j, j + n = m → sk_Go Γ (sk_M Γ m_X7_weighed Q) (0, 0) 5 [some (.ref 16), some (.int (nI m)), some (.int (nI i)), some (.int (sk_ws (hi 17) i j)), some (.int (nI j))] [] (sk_h hi rr ex) := by
    intro n
    induction n with
    | zero =>
      intro j hj
      have : j = m := by omega
      subst this
      exact k_X7_weighed_5 (fun _ => q) (fun c => absurd (nI_le (Nat.le_refl _) (by omega)) c)
    | succ n ih =>
      intro j hj
      refine k_X7_weighed_5 (fun c => absurd c (nI_ge (by omega) (by omega))) (fun _ => c_weight h (k_X7_weighed_18 (vp_in_nI (by omega) (by decide)) ?_))
      rw [nI_clamp (by omega), nI_1]
      exact ih (j + 1) (by omega)
  exact loop m 0 (by omega)
theorem c_stepAt {i : Nat} (h : i < 24) (q : Q (some (.int (hi 17 i))) (sk_h hi rr ex)) : sk_Ct Γ m_X7_stepAt [.ref 16, .int (nI i)] (sk_h hi rr ex) Q :=
  sk_Ct.of ok_X7_stepAt.2.2.2 (Nat.le_of_ble_eq_true rfl) (k_X7_stepAt_0 (vp_in_nI h (by decide)) (by rw [nI_clamp (by omega)]; exact q))
theorem c_trueHeightAt {i : Nat} (h : i < 24) (q : Q (some (.int (sk_sum (hi 17) (i + 1)))) (sk_h hi rr ex)) : sk_Ct Γ m_X7_trueHeightAt [.ref 16, .int (nI i)] (sk_h hi rr ex) Q := by
  refine sk_Ct.of ok_X7_trueHeightAt.2.2.2 (Nat.le_of_ble_eq_true rfl) (k_X7_trueHeightAt_0 ?_)
  have loop : ∀ n j, j + n = i + 1 → sk_Go Γ (sk_M Γ m_X7_trueHeightAt Q) (0, 0) 4 [some (.ref 16), some (.int (nI i)), some (.int (sk_sum (hi 17) j)), some (.int (nI j))] [] (sk_h hi rr ex) := by
    intro n
    induction n with
    | zero =>
      intro j hj
      have : j = i + 1 := by omega
      subst this
      have hl : nI i < nI (i + 1) := (nI_ltI (by omega) (by omega)).mpr (by omega)
      exact k_X7_trueHeightAt_4 (fun _ => q) (fun c => absurd hl c) (fun c => absurd hl c)
    | succ n ih =>
      intro j hj
      refine k_X7_trueHeightAt_4 (fun c => absurd c (nI_nlt (by omega) (by omega))) (fun _ => vp_in_nI (by omega) (by decide)) (fun _ => ?_)
      rw [nI_clamp (by omega), nI_1]
      exact ih (j + 1) (by omega)
  exact loop (i + 1) 0 (by omega)
theorem c_madeAgain {i : Nat} (h : i < 24) (q : Q (some (.int (sk_ws (hi 17) i (i + 1) / 100000 - 1))) (sk_h hi rr ex)) : sk_Ct Γ m_X7_madeAgain [.ref 16, .int (nI i)] (sk_h hi rr ex) Q := by
  refine sk_Ct.of ok_X7_madeAgain.2.2.2 (Nat.le_of_ble_eq_true rfl) (k_X7_madeAgain_0 ?_)
  rw [nI_1]
  exact c_weighed (by omega) h (k_X7_madeAgain_8 q)
/-- the class's undone steps -/
def sk_CU (hi : Nat → Nat → Int32) (S : sk_S) (b : Nat) : Prop := ∀ c, (sk_T S b).2 = some c → ∃ n, sk_Un (sk_ht S b c) (c.2.1 - c.1 + 1) (hi 17) n ∧ hi 16 1 = nI n
theorem sk_CF_o {hi' : Nat → Nat → Int32} {b : Nat} (hF : sk_CF hi S b) (h12 : hi' 12 = hi 12) (h15 : hi' 15 = hi 15) : sk_CF hi' S b := by
  unfold sk_CF sk_CSe at *
  rw [h12, h15]
  exact hF
theorem c_undo {b : Nat} (hG : sk_G S) (hF : sk_CF hi S b) (q : ∀ hi', sk_CU hi' S b → (∀ p, p ≠ 16 → p ≠ 17 → hi' p = hi p) → Q none (sk_h hi' rr ex)) : sk_Ct Γ m_X7_undo [.ref 16, .ref 12] (sk_h hi rr ex) Q := by
  refine sk_Ct.of ok_X7_undo.2.2.2 (Nat.le_of_ble_eq_true rfl) (k_X7_undo_0 ?_)
  cases hc : (sk_T S b).2 with
  | none =>
    have h4 : hi 12 4 = -1 := by have := hF.1.2; rw [hc] at this; exact this.1
    refine c_isFound (fun _ => k_X7_undo_9 (fun _ => k_X7_undo_30 (fun _ => ?_) (fun c => absurd (by decide) c)) (fun c => absurd rfl c)) (fun z => absurd (by rw [sk_wi_o _ _ _ (by decide)]; exact h4) z)
    exact q _ (fun c z => by rw [hc] at z; cases z) (fun p p1 p2 => sk_wi_o _ _ _ p1)
  | some c =>
    have hs := hF.1.2
    rw [hc] at hs
    obtain ⟨f1, f2, f3⟩ := hs
    obtain ⟨t1, t2, t3, t4, t5, t6, t7⟩ := sk_T_ok hG hc
    have loop : ∀ n i (hi1 : Nat → Nat → Int32), i + n = c.2.1 - c.1 + 1 → (∀ p, p ≠ 16 → p ≠ 17 → hi1 p = hi p) → hi1 16 1 = nI i → (∀ j, j < i → hi1 17 j = sk_sp (sk_ht S b c) (hi1 17) j ∧ 0 < hi1 17 j) → sk_Go Γ (sk_M Γ m_X7_undo Q) (0, 0) 30 [some (.ref 16), some (.ref 12), some (.int (nI (c.2.1 - c.1 + 1))), some (.int (nI i)), none, none] [] (sk_h hi1 rr ex) := by
      intro n
      induction n with
      | zero =>
        intro i hi1 hi0 ho h1 hs
        refine k_X7_undo_30 (fun _ => q hi1 (fun c' z => ?_) ho) (fun z => absurd (nI_le (by omega) (by omega)) z)
        rw [hc] at z; cases z
        exact ⟨i, ⟨by omega, hs, Or.inl (by omega)⟩, h1⟩
      | succ n ih =>
        intro i hi1 hi0 ho h1 hs
        have F1 : sk_CF hi1 S b := sk_CF_o hF (ho 12 (by decide) (by decide)) (ho 15 (by decide) (by decide))
        refine k_X7_undo_30 (fun z => absurd z (nI_ge (by omega) (by omega))) (fun _ => ?_)
        rw [ho 12 (by decide) (by decide), f1, nI_add]
        refine c_heightAt (b := b) hG F1 ?_
        have eh : sk_ha S b (nI (c.1 + i)) = sk_ht S b c i := by
          unfold sk_ha sk_ht
          rw [hc]
          simp only
          rw [if_neg, nI_clamp (by omega), show c.1 + i - c.1 = i by omega]
          rw [nI_ltI (by omega) (by omega), nI_ltI (by omega) (by omega)]
          omega
        rw [eh]
        refine k_X7_undo_47 (c_weighed (by omega) (by omega) (k_X7_undo_56 (c_weight (by omega) (k_X7_undo_66 (sk_we0 (by omega)) (fun _ => vp_in_nI (by omega) (by decide)) (fun z => ?_) (fun z => ?_)))))
        · rw [nI_clamp (by omega), nI_1]
          refine ih (i + 1) _ (by omega) (fun p p1 p2 => by rw [sk_wi_o _ _ _ p1, sk_wi_o _ _ _ p2, ho p p1 p2]) (sk_wi_self _ _ _ _) ?_
          rw [sk_wi_o _ _ _ (by decide)]
          intro j hj
          have cg : ∀ k, k ≤ i → ∀ j', j' < k → sk_wi hi1 17 i ((100000 * (sk_ht S b c i + 1) - sk_ws (hi1 17) i i) / sk_we i i) 17 j' = hi1 17 j' := fun k hk j' hj' => sk_wi_ne _ _ (by omega)
          by_cases hj2 : j = i
          · subst hj2
            rw [sk_sp_c (cg j (Nat.le_refl j)), sk_wi_self]
            exact ⟨rfl, z⟩
          · rw [sk_sp_c (cg j (by omega)), sk_wi_ne _ _ hj2]
            exact hs j (by omega)
        · refine q hi1 (fun c' z' => ?_) ho
          rw [hc] at z'; cases z'
          exact ⟨i, ⟨by omega, hs, Or.inr z⟩, h1⟩
    have e12 : sk_wi hi 16 1 0 12 = hi 12 := sk_wi_o _ _ _ (by decide)
    refine c_isFound (fun z => absurd z (by rw [e12, f1]; exact sk_nm1 (by omega))) (fun _ => k_X7_undo_9 (fun c => absurd c sk_n10) (fun _ => ?_))
    rw [e12, f1, f2, pk_sub t6, nI_1]
    exact loop (c.2.1 - c.1 + 1) 0 _ (by omega) (fun p p1 _ => sk_wi_o _ _ _ p1) (sk_wi_self _ _ _ _) (fun j hj => by omega)
theorem c_undoes {b : Nat} {c : Nat × Nat × Nat} (hG : sk_G S) (hc : (sk_T S b).2 = some c) (hF : sk_RF hi S b c) (q : ∀ n hi', sk_Un (sk_ht S b c) (c.2.1 - c.1 + 1) (hi' 27) n → (∀ p, p ≠ 27 → hi' p = hi p) → Q (some (.int (nI n))) (sk_h hi' rr ex)) : sk_Ct Γ m_X9_undoes [.ref 20] (sk_h hi rr ex) Q := by
  refine sk_Ct.of ok_X9_undoes.2.2.2 (Nat.le_of_ble_eq_true rfl) (k_X9_undoes_0 ?_)
  obtain ⟨t1, t2, t3, t4, t5, t6, t7⟩ := sk_T_ok hG hc
  obtain ⟨f0, f1, f2, f3⟩ := hF
  have loop : ∀ n i (hi1 : Nat → Nat → Int32), i + n = c.2.1 - c.1 + 1 → (∀ p, p ≠ 27 → hi1 p = hi p) → (∀ j, j < i → hi1 27 j = sk_sp (sk_ht S b c) (hi1 27) j ∧ 0 < hi1 27 j) → sk_Go Γ (sk_M Γ m_X9_undoes Q) (0, 0) 2 [some (.ref 20), some (.int (nI i)), none, none] [] (sk_h hi1 rr ex) := by
    intro n
    induction n with
    | zero =>
      intro i hi1 hi0 ho hs
      have e7 : hi1 20 7 - hi1 20 6 = nI (c.2.1 - c.1) := by rw [ho 20 (by decide), f1, f2, pk_sub t6]
      have hl : hi1 20 7 - hi1 20 6 < nI i := by rw [e7, nI_ltI (by omega) (by omega)]; omega
      refine k_X9_undoes_2 (fun _ => ?_) (fun z => absurd hl z) (fun z => absurd hl z)
      rw [e7, nI_1]
      exact q _ hi1 ⟨Nat.le_refl _, fun j hj => hs j (by omega), Or.inl rfl⟩ ho
    | succ n ih =>
      intro i hi1 hi0 ho hs
      have e7 : hi1 20 7 - hi1 20 6 = nI (c.2.1 - c.1) := by rw [ho 20 (by decide), f1, f2, pk_sub t6]
      have hl : ¬ hi1 20 7 - hi1 20 6 < nI i := by rw [e7, nI_ltI (by omega) (by omega)]; omega
      have e6 : hi1 20 6 + nI i = nI (c.1 + i) := by rw [ho 20 (by decide), f1, nI_add]
      have inner : ∀ m j, j + m = i → sk_Go Γ (sk_M Γ m_X9_undoes Q) (0, 0) 34 [some (.ref 20), some (.int (nI i)), some (.int (100000 * (sk_ht S b c i + 1) - sk_ws (hi1 27) i j)), some (.int (nI j))] [] (sk_h hi1 rr ex) := by
        intro m
        induction m with
        | zero =>
          intro j hj
          have : j = i := by omega
          subst this
          have vj : vp_in (nI j) 24 := vp_in_nI (by omega) (by decide)
          have cg : ∀ k, k ≤ j → ∀ j', j' < k → sk_wi hi1 27 j ((100000 * (sk_ht S b c j + 1) - sk_ws (hi1 27) j j) / sk_we j j) 27 j' = hi1 27 j' := fun k hk j' hj' => sk_wi_ne _ _ (by omega)
          refine k_X9_undoes_34 (fun _ => c_by (by omega) (k_X9_undoes_71 (sk_we0 (by omega)) vj vj (fun z => ?_) (fun z => ?_))) (fun z => absurd (nI_le (Nat.le_refl _) (by omega)) z)
          · rw [nI_clamp (by omega), sk_wi_self] at z
            rw [nI_clamp (by omega), nI_1]
            refine ih (j + 1) _ (by omega) (fun p p1 => by rw [sk_wi_o _ _ _ p1, ho p p1]) (fun k hk => ?_)
            by_cases hj2 : k = j
            · subst hj2
              rw [sk_sp_c (cg k (Nat.le_refl k)), sk_wi_self]
              exact ⟨rfl, z⟩
            · rw [sk_sp_c (cg k (by omega)), sk_wi_ne _ _ hj2]
              exact hs k (by omega)
          · rw [nI_clamp (by omega), sk_wi_self] at z
            rw [nI_clamp (by omega)]
            refine q j _ ⟨by omega, fun k hk => ?_, Or.inr ?_⟩ (fun p p1 => by rw [sk_wi_o _ _ _ p1, ho p p1])
            · rw [sk_sp_c (cg k (by omega)), sk_wi_ne _ _ (by omega)]
              exact hs k hk
            · rw [sk_sp_c (cg j (Nat.le_refl j))]
              exact z
        | succ m ihm =>
          intro j hj
          refine k_X9_undoes_34 (fun z => absurd z (nI_ge (by omega) (by omega))) (fun _ => c_by (by omega) (k_X9_undoes_45 (vp_in_nI (by omega) (by decide)) ?_))
          rw [nI_clamp (by omega), nI_1, sk_ss]
          exact ihm (j + 1) (by omega)
      refine k_X9_undoes_2 (fun z => absurd z hl) (fun _ => by rw [e6]; exact vp_in_nI (by omega) (by decide)) (fun _ => ?_)
      have := inner i 0 (by omega)
      rw [show sk_ws (hi1 27) i 0 = 0 from rfl, Int32.sub_zero] at this
      rw [e6, nI_clamp (by omega), ho 26 (by decide), f3 i (by omega)]
      exact this
  exact loop (c.2.1 - c.1 + 1) 0 hi (by omega) (fun _ _ => rfl) (fun j hj => by omega)
end UNDO
