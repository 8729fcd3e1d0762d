theorem sk_ct_ge {p : Nat → Bool} {k : Nat} (h : ∀ i, i < k → p i = true) : ∀ {n : Nat}, k ≤ n → k ≤ sk_ct p n := by
  intro n
  induction n generalizing k with
  | zero => intro hk; omega
  | succ n ih =>
    intro hk
    unfold sk_ct
    by_cases hkn : k ≤ n
    · have := ih h hkn
      split <;> omega
    · have e : k = n + 1 := by omega
      have := ih (k := n) (fun i hi => h i (by omega)) (Nat.le_refl n)
      rw [if_pos (h n (by omega))]
      omega
theorem sk_ct_lim {p : Nat → Bool} {k : Nat} : ∀ {n : Nat}, (∀ i, k ≤ i → i < n → p i = false) → sk_ct p n ≤ k
  | 0, _ => Nat.zero_le _
  | n + 1, h => by
    unfold sk_ct
    by_cases hkn : k ≤ n
    · rw [if_neg (by rw [h n hkn (by omega)]; decide), Nat.add_zero]
      exact sk_ct_lim (fun i h1 h2 => h i h1 (by omega))
    · have := sk_ct_le p n
      split <;> omega
theorem sk_ct_mono {p p' : Nat → Bool} : ∀ {n : Nat}, (∀ i, i < n → p i = true → p' i = true) → sk_ct p n ≤ sk_ct p' n
  | 0, _ => Nat.le_refl _
  | n + 1, h => by
    have ih := sk_ct_mono (p := p) (p' := p') (n := n) (fun i hi => h i (by omega))
    unfold sk_ct
    by_cases hp : p n = true
    · rw [if_pos hp, if_pos (h n (by omega) hp)]
      omega
    · rw [if_neg hp]
      split <;> omega
/-- a number put into a row -/
def sk_ins (o : Nat → Int32) (at' : Nat) (x : Int32) : Nat → Int32 := fun i => if i < at' then o i else if i = at' then x else o (i - 1)
theorem sk_ct_ins (o : Nat → Int32) (k : Nat) (x v : Int32) : ∀ m, k ≤ m → sk_ct (fun i => decide (sk_ins o k x i ≤ v)) (m + 1) = sk_ct (fun i => decide (o i ≤ v)) m + if x ≤ v then 1 else 0 := by
  intro m
  induction m with
  | zero =>
    intro hk
    have e : k = 0 := by omega
    subst e
    simp [sk_ct, sk_ins]
  | succ m ih =>
    intro hk
    by_cases hkm : k ≤ m
    · have h := ih hkm
      rw [sk_ct, h, sk_ct]
      have e : sk_ins o k x (m + 1) = o m := by unfold sk_ins; rw [if_neg (by omega), if_neg (by omega)]; rfl
      rw [e]
      omega
    · have e : k = m + 1 := by omega
      subst e
      rw [sk_ct]
      have e1 : sk_ins o (m + 1) x (m + 1) = x := by unfold sk_ins; rw [if_neg (by omega), if_pos rfl]
      rw [e1, sk_ct_cong (p' := fun i => decide (o i ≤ v)) (fun i hi => by unfold sk_ins; rw [if_pos hi])]
      simp
def sk_mv (tab : Nat → Option (Nat × Nat)) (h op : Nat) (bd : Int32) (d : Nat) : Option Int32 := match tab (h * 31 + d) with
  | none => none
  | some q => some (if q.2 = op then bd else nI q.1)
def sk_lc (tab : Nat → Option (Nat × Nat)) (h op : Nat) (bd v : Int32) : Nat → Bool := fun d => match sk_mv tab h op bd d with
  | none => false
  | some z => decide (z ≤ v)
/-- the middle value of an hour -/
def sk_Mid (tab : Nat → Option (Nat × Nat)) (h op : Nat) (bd r : Int32) : Prop :=
  (sk_ct (sk_pr tab h) 31 = 0 ∧ r = -2) ∨ (0 < sk_ct (sk_pr tab h) 31 ∧ (sk_ct (sk_pr tab h) 31 - 1) / 2 < sk_ct (sk_lc tab h op bd r) 31 ∧ ∀ v, v < r → sk_ct (sk_lc tab h op bd v) 31 ≤ (sk_ct (sk_pr tab h) 31 - 1) / 2)
theorem sk_Mid_one {tab : Nat → Option (Nat × Nat)} {h op : Nat} {bd r r' : Int32} (a : sk_Mid tab h op bd r) (b : sk_Mid tab h op bd r') : r = r' := by
  rcases a with ⟨a1, a2⟩ | ⟨a1, a2, a3⟩ <;> rcases b with ⟨b1, b2⟩ | ⟨b1, b2, b3⟩
  · rw [a2, b2]
  · omega
  · omega
  · by_cases h1 : r < r'
    · have := b3 r h1; omega
    · by_cases h2 : r' < r
      · have := a3 r' h2; omega
      · rw [Int32.lt_iff_toInt_lt] at h1 h2
        exact Int32.toInt_inj.mp (by omega)
section MID
variable {Γ : sk_Cx} {Q : Option Value → sk_Hp → Prop} {rr : Nat → Nat → Option Nat} {ex : List (Nat × Nat)} {hi : Nat → Nat → Int32} {S : sk_S}
theorem c_insert {n : Nat} {x : Int32} (hn : n < 31) (hs : ∀ i j, i < j → j < n → hi 19 i ≤ hi 19 j) (q : ∀ hi' k, k ≤ n → (∀ i, i < k → hi 19 i ≤ x) → (∀ i, k ≤ i → i < n → x ≤ hi 19 i) → (∀ a, a ≠ 19 → hi' a = hi a) → (∀ i, i ≤ n → hi' 19 i = sk_ins (hi 19) k x i) → Q none (sk_h hi' rr ex)) : sk_Ct Γ m_X2_insert [.ref 18, .int (nI n), .int x] (sk_h hi rr ex) Q := by
  refine sk_Ct.of ok_X2_insert.2.2.2 (Nat.le_of_ble_eq_true rfl) (k_X2_insert_0 ?_)
  have loop : ∀ k (hi1 : Nat → Nat → Int32), k ≤ n → (∀ a, a ≠ 19 → hi1 a = hi a) → (∀ i, i < k → hi1 19 i = hi 19 i) → (∀ i, k < i → i ≤ n → hi1 19 i = hi 19 (i - 1)) → (∀ i, k ≤ i → i < n → x ≤ hi 19 i) → sk_Go Γ (sk_M Γ m_X2_insert Q) (0, 0) 2 [some (.ref 18), some (.int (nI n)), some (.int x), some (.int (nI k))] [] (sk_h hi1 rr ex) := by
    intro k
    induction k with
    | zero =>
      intro hi1 hk ho h1 h2 h3
      have h0 : (nI 0 : Int32) ≤ 0 := by decide
      refine k_X2_insert_2 (fun _ => vp_in_nI (by omega) (by decide)) (fun _ => ?_) (fun c => absurd h0 c) (fun c => absurd h0 c) (fun c => absurd h0 c) (fun c => absurd h0 c) (fun c => absurd h0 c)
      rw [nI_clamp (by decide)]
      refine q _ 0 (by omega) (fun i hi' => by omega) h3 (fun a ha => by rw [sk_wi_o _ _ _ ha, ho a ha]) (fun i hi' => ?_)
      rw [sk_wi_if]
      unfold sk_ins
      by_cases hi0 : i = 0
      · rw [if_pos hi0, if_neg (by omega), if_pos hi0]
      · rw [if_neg hi0, if_neg (by omega), if_neg hi0, h2 i (by omega) hi']
    | succ k ih =>
      intro hi1 hk ho h1 h2 h3
      have h0 : ¬ (nI (k + 1) : Int32) ≤ 0 := nI_nle (by omega) (by omega)
      have e1 : nI (k + 1) - 1 = nI k := nI_pred k
      refine k_X2_insert_2 (fun c => absurd c h0) (fun c => absurd c h0) (fun _ => by rw [e1]; exact vp_in_nI (by omega) (by decide)) (fun _ _ => vp_in_nI (by omega) (by decide)) (fun _ c => ?_) (fun _ _ => vp_in_nI (by omega) (by decide)) (fun _ c => ?_)
      · rw [e1, nI_clamp (by omega), h1 k (by omega)] at c
        rw [nI_clamp (by omega)]
        refine q _ (k + 1) hk (fun i hi' => ?_) h3 (fun a ha => by rw [sk_wi_o _ _ _ ha, ho a ha]) (fun i hi' => ?_)
        · by_cases hik : i = k
          · rw [hik]; exact c
          · exact Int32.le_trans (hs i k (by omega) (by omega)) c
        · rw [sk_wi_if]
          unfold sk_ins
          by_cases hi0 : i = k + 1
          · rw [if_pos hi0, if_neg (by omega), if_pos hi0]
          · rw [if_neg hi0]
            by_cases hi2 : i < k + 1
            · rw [if_pos hi2, h1 i hi2]
            · rw [if_neg hi2, if_neg hi0, h2 i (by omega) hi']
      · rw [e1, nI_clamp (by omega), h1 k (by omega)] at c
        rw [nI_clamp (by omega), e1, nI_clamp (by omega), pk_m1]
        refine ih _ (by omega) (fun a ha => by rw [sk_wi_o _ _ _ ha, ho a ha]) (fun i hi' => by rw [sk_wi_ne _ _ (by omega), h1 i (by omega)]) (fun i h4 h5 => ?_) (fun i h4 h5 => ?_)
        · rw [sk_wi_if]
          by_cases hi0 : i = k + 1
          · rw [if_pos hi0, hi0, h1 k (by omega)]; rfl
          · rw [if_neg hi0, h2 i (by omega) h5]
        · by_cases hik : i = k
          · rw [hik]; exact Int32.le_of_lt (Int32.not_le.mp c)
          · exact h3 i (by omega) h5
  exact loop n hi (Nat.le_refl n) (fun _ _ => rfl) (fun _ _ => rfl) (fun i h1 h2 => by omega) (fun i h1 h2 => by omega)
theorem c_find {h op : Nat} {bd : Int32} (hG : sk_G S) (hC : sk_Cn hi S) (hh : h < 24) (hop : op < 3) (q : ∀ hi' r, (∀ a, a ≠ 19 → hi' a = hi a) → sk_Mid S.2.2.1 h op bd r → Q (some (.int r)) (sk_h hi' rr ex)) : sk_Ct Γ m_X2_find [.ref 18, .ref 5, .int (nI h), .int (nI op), .int bd] (sk_h hi rr ex) Q := by
  refine sk_Ct.of ok_X2_find.2.2.2 (Nat.le_of_ble_eq_true rfl) (k_X2_find_0 ?_)
  have loop : ∀ k d (hi1 : Nat → Nat → Int32), d + k = 31 → (∀ a, a ≠ 19 → hi1 a = hi a) → (∀ i j, i < j → j < sk_ct (sk_pr S.2.2.1 h) d → hi1 19 i ≤ hi1 19 j) → (∀ v, sk_ct (fun i => decide (hi1 19 i ≤ v)) (sk_ct (sk_pr S.2.2.1 h) d) = sk_ct (sk_lc S.2.2.1 h op bd v) d) → sk_Go Γ (sk_M Γ m_X2_find Q) (0, 0) 6 [some (.ref 18), some (.ref 5), some (.int (nI h)), some (.int (nI op)), some (.int bd), some (.int (nI (sk_ct (sk_pr S.2.2.1 h) d))), some (.int (nI d)), none] [] (sk_h hi1 rr ex) := by
    intro k
    induction k with
    | zero =>
      intro d hi1 hd ho hs hc
      have e : d = 31 := by omega
      subst e
      generalize hn : sk_ct (sk_pr S.2.2.1 h) 31 = n at hs hc ⊢
      have hn31 : n ≤ 31 := by rw [← hn]; exact sk_ct_le _ _
      have c31 : (31 : Int32) ≤ nI 31 := nI_le (a := 31) (Nat.le_refl 31) (by decide)
      by_cases h0 : n = 0
      · refine k_X2_find_6 (fun _ c => absurd (by rw [h0]; rfl) c) (fun _ c => absurd (by rw [h0]; rfl) c) (fun _ _ => q hi1 (-2) ho (Or.inl ⟨by rw [hn]; exact h0, rfl⟩)) (fun c => absurd c31 c)
      · have ei : (nI n - 1) / 2 = nI ((n - 1) / 2) := by
          rw [show (1 : Int32) = nI 1 from rfl, pk_sub (by omega), show (2 : Int32) = nI 2 from rfl, pk_div (by omega) (by decide) (by decide)]
        refine k_X2_find_6 (fun _ _ => by rw [ei]; exact vp_in_nI (by omega) (by decide)) (fun _ _ => ?_) (fun _ c => absurd c (nI_ne0 (by omega) (by omega))) (fun c => absurd c31 c)
        rw [ei, nI_clamp (by omega)]
        refine q hi1 _ ho (Or.inr ⟨by omega, ?_, fun v hv => ?_⟩)
        · rw [hn, ← hc]
          exact sk_ct_ge (k := (n - 1) / 2 + 1) (fun i hi' => decide_eq_true (by
            by_cases hik : i = (n - 1) / 2
            · rw [hik]; exact Int32.le_refl _
            · exact hs i _ (by omega) (by omega))) (by omega)
        · rw [hn, ← hc]
          refine sk_ct_lim (fun i h1 h2 => decide_eq_false (fun z => ?_))
          have : hi1 19 ((n - 1) / 2) ≤ hi1 19 i := by
            by_cases hik : i = (n - 1) / 2
            · rw [hik]; exact Int32.le_refl _
            · exact hs _ i (by omega) h2
          exact absurd (Int32.le_trans this z) (Int32.not_le.mpr hv)
    | succ k ih =>
      intro d hi1 hd ho hs hc
      have hn : ¬ (31 : Int32) ≤ nI d := nI_ge (b := 31) (by omega) (by decide)
      have hC1 : sk_Cn hi1 S := sk_Cn_0 hC (fun a _ h2 => ho a (by omega))
      have hct := sk_ct_le (sk_pr S.2.2.1 h) d
      -- a value is put in
      have put : ∀ (p : Nat × Nat) (x7 : Int32), S.2.2.1 (h * 31 + d) = some p → sk_Go Γ (sk_M Γ m_X2_find Q) (0, 0) 61 [some (.ref 18), some (.ref 5), some (.int (nI h)), some (.int (nI op)), some (.int bd), some (.int (nI (sk_ct (sk_pr S.2.2.1 h) d))), some (.int (nI d)), some (.int x7)] [.int (if p.2 = op then bd else nI p.1), .int (nI (sk_ct (sk_pr S.2.2.1 h) d)), .ref 18] (sk_h hi1 rr ex) := by
        intro p x7 hp
        refine k_X2_find_61 (c_insert (by omega) hs (fun hi2 k2 k3 k4 k5 k6 k7 => k_X2_find_64 ?_))
        have e1 : sk_ct (sk_pr S.2.2.1 h) (d + 1) = sk_ct (sk_pr S.2.2.1 h) d + 1 := by
          rw [sk_ct, if_pos (by simp [sk_pr, hp])]
        rw [nI_1, nI_1, ← e1]
        refine ih (d + 1) hi2 (by omega) (fun a ha => by rw [k6 a ha, ho a ha]) (fun i j hij hj => ?_) (fun v => ?_)
        · rw [e1] at hj
          rw [k7 i (by omega), k7 j (by omega)]
          unfold sk_ins
          by_cases g1 : j < k2
          · rw [if_pos (by omega), if_pos g1]
            exact hs i j hij (by omega)
          · by_cases g2 : j = k2
            · rw [if_pos (by omega), if_neg g1, if_pos g2]
              exact k4 i (by omega)
            · rw [if_neg g1, if_neg g2]
              by_cases g3 : i < k2
              · rw [if_pos g3]
                by_cases g4 : i = j - 1
                · omega
                · exact hs i (j - 1) (by omega) (by omega)
              · rw [if_neg g3]
                by_cases g4 : i = k2
                · rw [if_pos g4]
                  exact k5 (j - 1) (by omega) (by omega)
                · rw [if_neg g4]
                  exact hs (i - 1) (j - 1) (by omega) (by omega)
        · rw [e1, sk_ct_cong (p' := fun i => decide (sk_ins (hi1 19) k2 (if p.2 = op then bd else nI p.1) i ≤ v)) (fun i hi' => by rw [k7 i (by omega)]), sk_ct_ins _ _ _ _ _ k3, hc v, sk_ct]
          congr 1
          have e2 : sk_lc S.2.2.1 h op bd v d = decide ((if p.2 = op then bd else nI p.1) ≤ v) := by
            simp [sk_lc, sk_mv, hp]
          rw [e2]
          simp
      refine k_X2_find_6 (fun c => absurd c hn) (fun c => absurd c hn) (fun c => absurd c hn) (fun _ => c_isMissing hG hC1 hh (by omega) (fun z => k_X2_find_20 (fun _ => ?_) (fun c => absurd c sk_n10)) (fun p z => k_X2_find_20 (fun c => absurd rfl c) (fun _ => c_letterAt hG hC1 hh (by omega) z (k_X2_find_30 (fun c => ?_) (fun c => ?_)))))
      · have e1 : sk_ct (sk_pr S.2.2.1 h) (d + 1) = sk_ct (sk_pr S.2.2.1 h) d := by
          rw [sk_ct, if_neg (by simp [sk_pr, z]), Nat.add_zero]
        rw [nI_1, ← e1]
        refine ih (d + 1) hi1 (by omega) ho (by rw [e1]; exact hs) (fun v => ?_)
        rw [e1, hc v, sk_ct, if_neg (by simp [sk_lc, sk_mv, z]), Nat.add_zero]
      · have g := hG.2.2.2.2.1 _ p z
        have c2 : ¬ p.2 = op := fun w => c (by rw [w])
        have := put p 0 z
        rw [if_neg c2] at this
        exact c_valueAt hG hC1 hh (by omega) z this
      · have g := hG.2.2.2.2.1 _ p z
        have c2 : p.2 = op := (nI_eq (by omega) (by omega)).mp c
        have := put p 1 z
        rw [if_pos c2] at this
        exact this
  exact loop 31 0 hi (by omega) (fun _ _ => rfl) (fun i j _ hj => absurd hj (Nat.not_lt_zero _)) (fun v => rfl)
end MID
