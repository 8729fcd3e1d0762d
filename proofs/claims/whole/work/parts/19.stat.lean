/-- the first place of a kind -/
def sk_ff (p : Nat → Bool) : Nat → Option Nat
  | 0 => none
  | n + 1 => match sk_ff p n with
    | some i => some i
    | none => if p n = true then some n else none
theorem sk_ff_up {p : Nat → Bool} {i m : Nat} (h : sk_ff p m = some i) : ∀ {n : Nat}, m ≤ n → sk_ff p n = some i := by
  intro n
  induction n with
  | zero => intro hm; rw [show m = 0 by omega] at h; exact h
  | succ n ih =>
    intro hm
    by_cases he : m = n + 1
    · rw [← he]; exact h
    · unfold sk_ff
      rw [ih (by omega)]
theorem sk_ff_no {p : Nat → Bool} : ∀ {n : Nat}, sk_ff p n = none → ∀ i, i < n → p i = false
  | 0, _, i, hi => by omega
  | n + 1, h, i, hi => by
    unfold sk_ff at h
    cases hn : sk_ff p n with
    | some j => rw [hn] at h; cases h
    | none =>
      rw [hn] at h
      simp only at h
      by_cases hp : p n = true
      · rw [if_pos hp] at h; cases h
      · by_cases hin : i = n
        · rw [hin]; simpa using hp
        · exact sk_ff_no hn i (by omega)
theorem sk_ff_lt {p : Nat → Bool} : ∀ {n i : Nat}, sk_ff p n = some i → i < n
  | 0, i, h => by cases h
  | n + 1, i, h => by
    unfold sk_ff at h
    cases hn : sk_ff p n with
    | some j => rw [hn] at h; have := sk_ff_lt hn; simp only at h; cases h; omega
    | none =>
      rw [hn] at h
      simp only at h
      by_cases hp : p n = true
      · rw [if_pos hp] at h; cases h; omega
      · rw [if_neg hp] at h; cases h
abbrev sk_Zt : Type := Nat × (Nat → Nat) × (Nat → Nat) × (Nat → Nat)
def sk_spt (z : sk_Zt) (x y : Nat) : Nat → Bool := fun i => decide (z.2.1 i = x ∧ z.2.2.1 i = y)
def sk_ad (a b : Nat) : Nat := (a - b) + (b - a)
def sk_ds (z : sk_Zt) (x y j : Nat) : Nat := sk_ad (z.2.1 j) x * sk_ad (z.2.1 j) x + sk_ad (z.2.2.1 j) y * sk_ad (z.2.2.1 j) y
def sk_wp (z : sk_Zt) (x y i : Nat) : Nat → Nat
  | 0 => 1
  | m + 1 => if m = i then sk_wp z x y i m else sk_wp z x y i m * sk_ds z x y m
def sk_sw (z : sk_Zt) (x y n : Nat) : Nat → Nat
  | 0 => 0
  | m + 1 => sk_sw z x y n m + sk_wp z x y m n
def sk_sv (z : sk_Zt) (x y n : Nat) : Nat → Nat
  | 0 => 0
  | m + 1 => sk_sv z x y n m + sk_wp z x y m n * z.2.2.2 m
theorem sk_ad_int (a b : Nat) : ((sk_ad a b * sk_ad a b : Nat) : Int) = ((a : Int) - b) * ((a : Int) - b) := by
  unfold sk_ad
  rcases Nat.le_total a b with h | h
  · rw [show a - b = 0 by omega, Nat.zero_add, Int.natCast_mul, Int.natCast_sub h]
    rw [← Int.neg_mul_neg, Int.neg_sub]
  · rw [show b - a = 0 by omega, Nat.add_zero, Int.natCast_mul, Int.natCast_sub h]
theorem sk_ad_le {a b : Nat} (ha : a ≤ 200) (hb : b ≤ 200) : sk_ad a b * sk_ad a b ≤ 40000 := by
  have h : sk_ad a b ≤ 200 := by unfold sk_ad; omega
  exact Nat.mul_le_mul h h
theorem sk_sq32 {a b : Nat} (ha : a ≤ 200) (hb : b ≤ 200) : (nI a - nI b) * (nI a - nI b) = nI (sk_ad a b * sk_ad a b) := by
  have h1 := pk_sub_toInt (a := a) (b := b) (by omega) (by omega)
  have h2 := sk_ad_le ha hb
  have h3 := sk_ad_int a b
  apply Int32.toInt_inj.mp
  rw [nI_toInt (by omega), Int32.toInt_mul, h1, ← h3, Int.bmod_def]
  split <;> omega
theorem sk_sq64 {a b : Nat} (ha : a ≤ 200) (hb : b ≤ 200) : (nI a - nI b).toInt64 * (nI a - nI b).toInt64 = lN (sk_ad a b * sk_ad a b) := by
  have h1 := pk_sub_toInt (a := a) (b := b) (by omega) (by omega)
  have h2 := sk_ad_le ha hb
  have h3 := sk_ad_int a b
  apply Int64.toInt_inj.mp
  rw [lN_toInt (by omega), Int64.toInt_mul, Int32.toInt_toInt64, h1, ← h3, Int.bmod_def]
  split <;> omega
theorem sk_ds_le {z : sk_Zt} {x y : Nat} (hx : x ≤ 200) (hy : y ≤ 200) {j : Nat} (h1 : z.2.1 j ≤ 200) (h2 : z.2.2.1 j ≤ 200) : sk_ds z x y j ≤ 80000 := by
  have a := sk_ad_le h1 hx
  have b := sk_ad_le h2 hy
  unfold sk_ds
  omega
theorem sk_ds_pos {z : sk_Zt} {x y j : Nat} (h : sk_spt z x y j = false) : 0 < sk_ds z x y j := by
  unfold sk_spt at h
  have h := of_decide_eq_false h
  unfold sk_ds
  rcases Nat.eq_zero_or_pos (sk_ad (z.2.1 j) x) with h1 | h1
  · rcases Nat.eq_zero_or_pos (sk_ad (z.2.2.1 j) y) with h2 | h2
    · unfold sk_ad at h1 h2
      exact absurd ⟨by omega, by omega⟩ h
    · have := Nat.mul_pos h2 h2; omega
  · have := Nat.mul_pos h1 h1; omega
theorem sk_wp_pos {z : sk_Zt} {x y i n : Nat} (h : ∀ j, j < n → 0 < sk_ds z x y j) : ∀ m, m ≤ n → 0 < sk_wp z x y i m
  | 0, _ => by unfold sk_wp; decide
  | m + 1, hm => by
    unfold sk_wp
    have ih := sk_wp_pos (i := i) h m (by omega)
    split
    · exact ih
    · exact Nat.mul_pos ih (h m (by omega))
theorem sk_wp_le {z : sk_Zt} {x y i n : Nat} (h : ∀ j, j < n → sk_ds z x y j ≤ 80000) : ∀ m, m ≤ n → sk_wp z x y i m ≤ 80000 ^ m
  | 0, _ => by unfold sk_wp; decide
  | m + 1, hm => by
    unfold sk_wp
    have ih := sk_wp_le (i := i) h m (by omega)
    have hd := h m (by omega)
    split
    · exact Nat.le_trans ih (by rw [Nat.pow_succ]; exact Nat.le_mul_of_pos_right _ (by decide))
    · rw [Nat.pow_succ]; exact Nat.mul_le_mul ih hd
/-- one factor is left out -/
theorem sk_wp_le3 {z : sk_Zt} {x y i n : Nat} (h : ∀ j, j < n → sk_ds z x y j ≤ 80000) (hn : n ≤ 4) (hi : i < n) : sk_wp z x y i n ≤ 80000 ^ 3 := by
  have key : ∀ m, m ≤ n → i < m → sk_wp z x y i m ≤ 80000 ^ (m - 1) := by
    intro m
    induction m with
    | zero => intro _ hm; omega
    | succ m ih =>
      intro hmn him
      unfold sk_wp
      by_cases he : m = i
      · rw [if_pos he]
        exact sk_wp_le h m (by omega)
      · rw [if_neg he]
        have i2 := ih (by omega) (by omega)
        have hd := h m (by omega)
        rw [show m + 1 - 1 = (m - 1) + 1 by omega, Nat.pow_succ]
        exact Nat.mul_le_mul i2 hd
  exact Nat.le_trans (key n (Nat.le_refl n) hi) (Nat.pow_le_pow_right (by decide) (by omega))
theorem sk_sw_ok {z : sk_Zt} {x y n : Nat} (h : ∀ j, j < n → sk_ds z x y j ≤ 80000) (hp : ∀ j, j < n → 0 < sk_ds z x y j) (hn : n ≤ 4) : ∀ m, m ≤ n → m ≤ sk_sw z x y n m ∧ sk_sw z x y n m ≤ m * 80000 ^ 3
  | 0, _ => ⟨Nat.le_refl _, Nat.zero_le _⟩
  | m + 1, hm => by
    obtain ⟨a, b⟩ := sk_sw_ok h hp hn m (by omega)
    have c := sk_wp_pos (i := m) hp n (Nat.le_refl n)
    have d := sk_wp_le3 (i := m) h hn (by omega)
    unfold sk_sw
    rw [Nat.succ_mul]
    omega
theorem sk_lN0 {w : Nat} (h0 : 0 < w) (h : w < 2 ^ 63) : ¬ lN w = 0 := fun e => by
  have := (pk_lEQ (b := 0) h (by decide)).mp e
  omega
noncomputable def vl_map (S : sk_S) (x1 x2 : Int32) : Int32 := sk_if (sk_rg x1 0 200 ∧ sk_rg x2 0 200) (if S.2.2.2.1 = 0 then -1 else match sk_ff (sk_spt S.2.2.2 (sk_n x1) (sk_n x2)) S.2.2.2.1 with
  | some i => nI (S.2.2.2.2.2.2 i)
  | none => (lN (sk_sv S.2.2.2 (sk_n x1) (sk_n x2) S.2.2.2.1 S.2.2.2.1) / lN (sk_sw S.2.2.2 (sk_n x1) (sk_n x2) S.2.2.2.1 S.2.2.2.1)).toInt32) (-1)
def sk_Pst (S : sk_S) (x1 x2 x3 : Int32) : Prop := (sk_rg x1 0 200 ∧ sk_rg x2 0 200) ∧ sk_rg x3 0 999 ∧ S.2.2.2.1 < 4 ∧ sk_ff (sk_spt S.2.2.2 (sk_n x1) (sk_n x2)) S.2.2.2.1 = none
def sk_Pts (S : sk_S) (x1 x2 : Int32) : Prop := (∃ i, i < S.2.2.2.1 ∧ x1 = nI i) ∧ sk_rg x2 0 999
def sk_un (f : Nat → Nat) (k v : Nat) : Nat → Nat := fun i => if i = k then v else f i
def nx_station (S : sk_S) (x1 x2 x3 : Int32) : sk_S := (S.1, S.2.1, S.2.2.1, (S.2.2.2.1 + 1, sk_un S.2.2.2.2.1 S.2.2.2.1 (sk_n x1), sk_un S.2.2.2.2.2.1 S.2.2.2.1 (sk_n x2), sk_un S.2.2.2.2.2.2 S.2.2.2.1 (sk_n x3)))
def nx_tst (S : sk_S) (x1 x2 : Int32) : sk_S := (S.1, S.2.1, S.2.2.1, (S.2.2.2.1, S.2.2.2.2.1, S.2.2.2.2.2.1, sk_un S.2.2.2.2.2.2 (sk_n x1) (sk_n x2)))
theorem sk_Cn_s {S : sk_S} {hi hi' : Nat → Nat → Int32} {z : sk_Zt} (hC : sk_Cn hi S) (h7 : sk_CS (hi' 7 3) (hi' 8) (hi' 9) (hi' 10) z) (ho : ∀ a, a ≠ 7 → a ≠ 8 → a ≠ 9 → a ≠ 10 → hi' a = hi a) : sk_Cn hi' (S.1, S.2.1, S.2.2.1, z) := by
  obtain ⟨c1, c2, c3, c4, c5⟩ := hC
  refine ⟨by rw [ho 3 (by decide) (by decide) (by decide) (by decide)]; exact c1, by rw [ho 2 (by decide) (by decide) (by decide) (by decide)]; exact c2, by rw [ho 4 (by decide) (by decide) (by decide) (by decide)]; exact c3, by rw [ho 6 (by decide) (by decide) (by decide) (by decide)]; exact c4, h7⟩
section STAT
variable {Γ : sk_Cx} {Q : Option Value → sk_Hp → Prop} {rr : Nat → Nat → Option Nat} {ex : List (Nat × Nat)} {hi : Nat → Nat → Int32} {S : sk_S}
theorem c_standing {x y : Nat} (hG : sk_G S) (hC : sk_Cn hi S) (hx : x ≤ 200) (hy : y ≤ 200) (q1 : ∀ i, sk_ff (sk_spt S.2.2.2 x y) S.2.2.2.1 = some i → i < S.2.2.2.1 → Q (some (.int (nI i))) (sk_h hi rr ex)) (q0 : sk_ff (sk_spt S.2.2.2 x y) S.2.2.2.1 = none → Q (some (.int (-1))) (sk_h hi rr ex)) : sk_Ct Γ m_X4_standingAt [.ref 7, .int (nI x), .int (nI y)] (sk_h hi rr ex) Q := by
  obtain ⟨s1, s2⟩ := hC.2.2.2.2
  have g := hG.2.2.2.2.2
  refine sk_Ct.of ok_X4_standingAt.2.2.2 (Nat.le_of_ble_eq_true rfl) (k_X4_standingAt_0 ?_)
  have loop : ∀ k i, i + k = S.2.2.2.1 → sk_ff (sk_spt S.2.2.2 x y) i = none → sk_Go Γ (sk_M Γ m_X4_standingAt Q) (0, 0) 2 [some (.ref 7), some (.int (nI x)), some (.int (nI y)), some (.int (nI i))] [] (sk_h hi rr ex) := by
    intro k
    induction k with
    | zero =>
      intro i hi' hf
      have e : i = S.2.2.2.1 := by omega
      subst e
      have hc : hi 7 3 ≤ nI S.2.2.2.1 := by rw [s1]; exact Int32.le_refl _
      exact k_X4_standingAt_2 (fun _ => q0 hf) (fun c => absurd hc c) (fun c => absurd hc c) (fun c => absurd hc c) (fun c => absurd hc c)
    | succ k ih =>
      intro i hi' hf
      have hn : ¬ hi 7 3 ≤ nI i := by rw [s1]; exact nI_ge (by omega) (by omega)
      obtain ⟨u1, u2, u3⟩ := s2 i (by omega)
      obtain ⟨g1, g2, g3⟩ := g.2 i (by omega)
      have nx : ¬ (S.2.2.2.2.1 i = x ∧ S.2.2.2.2.2.1 i = y) → sk_Go Γ (sk_M Γ m_X4_standingAt Q) (0, 0) 2 [some (.ref 7), some (.int (nI x)), some (.int (nI y)), some (.int (nI i + 1))] [] (sk_h hi rr ex) := fun w => by
        rw [nI_1]
        refine ih (i + 1) (by omega) ?_
        unfold sk_ff
        rw [hf]
        simp only
        rw [if_neg (by unfold sk_spt; simp only [decide_eq_true_eq]; exact w)]
      refine k_X4_standingAt_2 (fun c => absurd c hn) (fun _ => vp_in_nI (by omega) (by decide)) (fun _ c => ?_) (fun _ c1 c => ?_) (fun _ c1 c => ?_)
      · rw [nI_clamp (by omega), u1, nI_eq (by omega) (by omega)] at c
        exact nx (fun w => c w.1)
      · rw [nI_clamp (by omega), u2, nI_eq (by omega) (by omega)] at c
        exact nx (fun w => c w.2)
      · rw [nI_clamp (by omega), u1, nI_eq (by omega) (by omega)] at c1
        rw [nI_clamp (by omega), u2, nI_eq (by omega) (by omega)] at c
        refine q1 i (sk_ff_up (m := i + 1) ?_ (by omega)) (by omega)
        unfold sk_ff
        rw [hf]
        simp only
        rw [if_pos (by unfold sk_spt; simp only [decide_eq_true_eq]; exact ⟨c1, c⟩)]
  exact loop S.2.2.2.1 0 (by omega) rfl
theorem sk_nm1 {i : Nat} (h : i < 2 ^ 31) : ¬ nI i = -1 := sk_lit_ne (by rw [nI_toInt h, show ((-1 : Int32)).toInt = -1 by decide]; omega)
theorem c_distancesBut {x y i : Nat} (hG : sk_G S) (hC : sk_Cn hi S) (hx : x ≤ 200) (hy : y ≤ 200) (hi4 : i < S.2.2.2.1) (q : Q (some (.long (lN (sk_wp S.2.2.2 x y i S.2.2.2.1)))) (sk_h hi rr ex)) : sk_Ct Γ m_X4_distancesBut [.ref 7, .int (nI i), .int (nI x), .int (nI y)] (sk_h hi rr ex) Q := by
  obtain ⟨s1, s2⟩ := hC.2.2.2.2
  have g := hG.2.2.2.2.2
  refine sk_Ct.of ok_X4_distancesBut.2.2.2 (Nat.le_of_ble_eq_true rfl) (k_X4_distancesBut_0 ?_)
  have loop : ∀ k j, j + k = S.2.2.2.1 → sk_Go Γ (sk_M Γ m_X4_distancesBut Q) (0, 0) 6 [some (.ref 7), some (.int (nI i)), some (.int (nI x)), some (.int (nI y)), some (.long (lN (sk_wp S.2.2.2 x y i j))), none, some (.int (nI j)), none, none] [] (sk_h hi rr ex) := by
    intro k
    induction k with
    | zero =>
      intro j hj
      have e : j = S.2.2.2.1 := by omega
      subst e
      have hc : hi 7 3 ≤ nI S.2.2.2.1 := by rw [s1]; exact Int32.le_refl _
      exact k_X4_distancesBut_6 (fun _ => q) (fun c => absurd hc c) (fun c => absurd hc c) (fun c => absurd hc c)
    | succ k ih =>
      intro j hj
      have hn : ¬ hi 7 3 ≤ nI j := by rw [s1]; exact nI_ge (by omega) (by omega)
      obtain ⟨u1, u2, u3⟩ := s2 j (by omega)
      obtain ⟨g1, g2, g3⟩ := g.2 j (by omega)
      have := ih (j + 1) (by omega)
      refine k_X4_distancesBut_6 (fun c => absurd c hn) (fun _ c => ?_) (fun _ _ => vp_in_nI (by omega) (by decide)) (fun _ c => ?_)
      · rw [nI_eq (by omega) (by omega)] at c
        rw [sk_wp, if_pos c] at this
        rw [nI_1]
        exact this
      · rw [nI_eq (by omega) (by omega)] at c
        rw [sk_wp, if_neg c] at this
        have a1 := sk_ad_le g1 hx
        have a2 := sk_ad_le g2 hy
        rw [nI_clamp (by omega), u1, u2, sk_sq32 g1 hx, sk_sq32 g2 hy, nI_add, nI_l (by omega), lN_mul, nI_1]
        exact this
  exact loop S.2.2.2.1 0 (by omega)
theorem c_weighedAt {x y : Nat} (hG : sk_G S) (hC : sk_Cn hi S) (hx : x ≤ 200) (hy : y ≤ 200) (hf : sk_ff (sk_spt S.2.2.2 x y) S.2.2.2.1 = none) (q1 : S.2.2.2.1 = 0 → Q (some (.int (-1))) (sk_h hi rr ex)) (q2 : ¬ S.2.2.2.1 = 0 → Q (some (.int (lN (sk_sv S.2.2.2 x y S.2.2.2.1 S.2.2.2.1) / lN (sk_sw S.2.2.2 x y S.2.2.2.1 S.2.2.2.1)).toInt32)) (sk_h hi rr ex)) : sk_Ct Γ m_X4_weighedAt [.ref 7, .int (nI x), .int (nI y)] (sk_h hi rr ex) Q := by
  obtain ⟨s1, s2⟩ := hC.2.2.2.2
  have g := hG.2.2.2.2.2
  refine sk_Ct.of ok_X4_weighedAt.2.2.2 (Nat.le_of_ble_eq_true rfl) (k_X4_weighedAt_0 ?_)
  have loop : ∀ k j, j + k = S.2.2.2.1 → sk_Go Γ (sk_M Γ m_X4_weighedAt Q) (0, 0) 8 [some (.ref 7), some (.int (nI x)), some (.int (nI y)), some (.long (lN (sk_sv S.2.2.2 x y S.2.2.2.1 j))), none, some (.long (lN (sk_sw S.2.2.2 x y S.2.2.2.1 j))), none, some (.int (nI j)), none, none] [] (sk_h hi rr ex) := by
    intro k
    induction k with
    | zero =>
      intro j hj
      have e : j = S.2.2.2.1 := by omega
      subst e
      have hc : hi 7 3 ≤ nI S.2.2.2.1 := by rw [s1]; exact Int32.le_refl _
      have ok := sk_sw_ok (z := S.2.2.2) (x := x) (y := y) (n := S.2.2.2.1) (fun j hj => sk_ds_le hx hy (g.2 j hj).1 (g.2 j hj).2.1) (fun j hj => sk_ds_pos (sk_ff_no hf j hj)) g.1 S.2.2.2.1 (Nat.le_refl _)
      have bd : S.2.2.2.1 * 80000 ^ 3 ≤ 4 * 80000 ^ 3 := Nat.mul_le_mul_right _ g.1
      by_cases h0 : S.2.2.2.1 = 0
      · have e0 : sk_sw S.2.2.2 x y S.2.2.2.1 S.2.2.2.1 = 0 := by rw [h0]; rfl
        have z0 : lg_cmp (lN (sk_sw S.2.2.2 x y S.2.2.2.1 S.2.2.2.1)) 0 = 0 := by rw [e0]; decide
        exact k_X4_weighedAt_8 (fun _ c => absurd z0 c) (fun _ c => absurd z0 c) (fun _ _ => q1 h0) (fun c => absurd hc c)
      · have nz := sk_lN0 (w := sk_sw S.2.2.2 x y S.2.2.2.1 S.2.2.2.1) (by omega) (by omega)
        refine k_X4_weighedAt_8 (fun _ _ => nz) (fun _ _ => q2 h0) (fun _ c => ?_) (fun c => absurd hc c)
        unfold lg_cmp at c
        by_cases hgt : lN (sk_sw S.2.2.2 x y S.2.2.2.1 S.2.2.2.1) > 0
        · rw [if_pos hgt] at c
          exact absurd c (by decide)
        · rw [if_neg hgt, if_neg nz] at c
          exact absurd c (by decide)
    | succ k ih =>
      intro j hj
      have hn : ¬ hi 7 3 ≤ nI j := by rw [s1]; exact nI_ge (by omega) (by omega)
      obtain ⟨u1, u2, u3⟩ := s2 j (by omega)
      obtain ⟨g1, g2, g3⟩ := g.2 j (by omega)
      have := ih (j + 1) (by omega)
      refine k_X4_weighedAt_8 (fun c => absurd c hn) (fun c => absurd c hn) (fun c => absurd c hn) (fun _ => c_distancesBut hG hC hx hy (by omega) (k_X4_weighedAt_25 (vp_in_nI (by omega) (by decide)) ?_))
      rw [nI_clamp (by omega), u3, nI_l (by omega), lN_mul, lN_add, lN_add, nI_1]
      exact this
  exact loop S.2.2.2.1 0 (by omega)
theorem cx_map {x1 x2 : Int32} (hG : sk_G S) (hC : sk_Cn hi S) (q : Q (some (.int (vl_map S x1 x2))) (sk_h hi rr ex)) : sk_Ct Γ m_X8_map [.ref 0, .int x1, .int x2] (sk_h hi rr ex) Q := by
  unfold vl_map at q
  refine sk_Ct.of ok_X8_map.2.2.2 (Nat.le_of_ble_eq_true rfl) (k_X8_map_0 (c_X8_isOnMap (fun z1 z2 => k_X8_map_5 (fun _ => ?_) (fun c => absurd c sk_n10)) (fun z => k_X8_map_5 (fun c => absurd rfl c) (fun _ => by rw [sk_if_f z] at q; exact q))))
  rw [sk_if_t ⟨z1, z2⟩] at q
  obtain ⟨e1, a1, b1⟩ := sk_rg_n z1 (by decide)
  obtain ⟨e2, a2, b2⟩ := sk_rg_n z2 (by decide)
  generalize sk_n x1 = x at e1 a1 b1 q
  generalize sk_n x2 = y at e2 a2 b2 q
  subst e1; subst e2
  have g := hG.2.2.2.2.2
  refine sk_Ct.of ok_X4_valueAt.2.2.2 (Nat.le_of_ble_eq_true rfl) (k_X4_valueAt_0 (c_standing hG hC b1 b2 (fun i hf hi' => ?_) (fun hf => ?_)))
  · refine k_X4_valueAt_6 (fun _ => vp_in_nI (by omega) (by decide)) (fun _ => k_X8_map_22 ?_) (fun c => absurd c (sk_nm1 (by omega)))
    rw [if_neg (by omega), hf] at q
    rw [nI_clamp (by omega), (hC.2.2.2.2.2 i hi').2.2]
    exact q
  · refine k_X4_valueAt_6 (fun c => absurd rfl c) (fun c => absurd rfl c) (fun _ => c_weighedAt hG hC b1 b2 hf (fun h0 => k_X4_valueAt_18 (k_X8_map_22 ?_)) (fun h0 => k_X4_valueAt_18 (k_X8_map_22 ?_)))
    · rw [if_pos h0] at q
      exact q
    · rw [if_neg h0, hf] at q
      exact q
theorem cx_station {x1 x2 x3 : Int32} (hG : sk_G S) (hC : sk_Cn hi S) (q1 : sk_Pst S x1 x2 x3 → ∀ hi', sk_Cn hi' (nx_station S x1 x2 x3) → (∀ a, a ≠ 7 → a ≠ 8 → a ≠ 9 → a ≠ 10 → hi' a = hi a) → Q (some (.int (nI S.2.2.2.1))) (sk_h hi' rr ex)) (q0 : ¬ sk_Pst S x1 x2 x3 → Q (some (.int (-1))) (sk_h hi rr ex)) : sk_Ct Γ m_X8_station [.ref 0, .int x1, .int x2, .int x3] (sk_h hi rr ex) Q := by
  have g := hG.2.2.2.2.2
  obtain ⟨s1, s2⟩ := hC.2.2.2.2
  refine sk_Ct.of ok_X8_station.2.2.2 (Nat.le_of_ble_eq_true rfl) (k_X8_station_0 (c_X8_isOnMap (fun z1 z2 => k_X8_station_5 (fun c => absurd c sk_n10) (fun _ => c_X8_isValue (fun z3 => k_X8_station_12 (fun _ => ?_) (fun c => absurd c sk_n10)) (fun z3 => k_X8_station_12 (fun c => absurd rfl c) (fun _ => q0 (fun w => z3 w.2.1))))) (fun z => k_X8_station_5 (fun _ => q0 (fun w => z w.1)) (fun c => absurd rfl c))))
  obtain ⟨e1, a1, b1⟩ := sk_rg_n z1 (by decide)
  obtain ⟨e2, a2, b2⟩ := sk_rg_n z2 (by decide)
  obtain ⟨e3, a3, b3⟩ := sk_rg_n z3 (by decide)
  refine sk_Ct.of ok_X4_add.2.2.2 (Nat.le_of_ble_eq_true rfl) (k_X4_add_0 (fun c => k_X8_station_30 (q0 (fun w => ?_))) (fun c => ?_))
  · rw [s1] at c
    have := (nI_leI (a := 4) (by decide) (by omega)).mp c
    have := w.2.2.1
    omega
  · have hn4 : S.2.2.2.1 < 4 := Nat.lt_of_not_le (fun w => c (by rw [s1]; exact nI_le (a := 4) w (by omega)))
    rw [show ([.ref 7, .int x1, .int x2] : List Value) = [.ref 7, .int (nI (sk_n x1)), .int (nI (sk_n x2))] by rw [← e1, ← e2]]
    refine c_standing hG hC b1 b2 (fun i hf hi' => k_X4_add_14 (fun c => absurd c (sk_nm1 (by omega))) (fun c => absurd c (sk_nm1 (by omega))) (fun _ => k_X8_station_30 (q0 (fun w => by rw [w.2.2.2] at hf; cases hf)))) (fun hf => k_X4_add_14 (fun _ => by rw [s1]; exact vp_in_nI hn4 (by decide)) (fun _ => k_X8_station_30 ?_) (fun c => absurd rfl c))
    rw [s1, nI_clamp (by omega), nI_1, nI_pred]
    refine q1 ⟨⟨z1, z2⟩, z3, hn4, hf⟩ _ (sk_Cn_s hC ⟨sk_wi_self _ _ _ _, fun i hi' => ?_⟩ (fun a h7 h8 h9 h10 => by rw [sk_wi_o _ _ _ h7, sk_wi_o _ _ _ h10, sk_wi_o _ _ _ h9, sk_wi_o _ _ _ h8])) (fun a h7 h8 h9 h10 => by rw [sk_wi_o _ _ _ h7, sk_wi_o _ _ _ h10, sk_wi_o _ _ _ h9, sk_wi_o _ _ _ h8])
    have hi' : i < S.2.2.2.1 + 1 := hi'
    show sk_wi hi 8 S.2.2.2.1 x1 8 i = nI (sk_un S.2.2.2.2.1 S.2.2.2.1 (sk_n x1) i) ∧ sk_wi (sk_wi hi 8 S.2.2.2.1 x1) 9 S.2.2.2.1 x2 9 i = nI (sk_un S.2.2.2.2.2.1 S.2.2.2.1 (sk_n x2) i) ∧ sk_wi (sk_wi (sk_wi hi 8 S.2.2.2.1 x1) 9 S.2.2.2.1 x2) 10 S.2.2.2.1 x3 10 i = nI (sk_un S.2.2.2.2.2.2 S.2.2.2.1 (sk_n x3) i)
    rw [sk_wi_if, sk_wi_if, sk_wi_if]
    unfold sk_un
    by_cases he : i = S.2.2.2.1
    · rw [if_pos he, if_pos he, if_pos he, if_pos he, if_pos he, if_pos he]
      exact ⟨e1, e2, e3⟩
    · rw [if_neg he, if_neg he, if_neg he, if_neg he, if_neg he, if_neg he, sk_wi_o _ _ _ (by decide), sk_wi_o _ _ _ (by decide), sk_wi_o _ _ _ (by decide)]
      exact s2 i (by omega)
/-- within, as it stands -/
theorem c_X8_within' {x a b : Int32} (q1 : ¬ x < a → ¬ b < x → Q (some (.int 1)) (sk_h hi rr ex)) (q0 : ¬ (¬ x < a ∧ ¬ b < x) → Q (some (.int 0)) (sk_h hi rr ex)) : sk_Ct Γ m_X8_within [.int x, .int a, .int b] (sk_h hi rr ex) Q :=
  sk_Ct.of ok_X8_within.2.2.2 (Nat.le_of_ble_eq_true rfl) (k_X8_within_0 (fun c => q0 (fun z => z.1 c)) (fun c d => q0 (fun z => z.2 d)) (fun c d => q1 c d))
theorem c_X9_isIn' {x a b : Int32} (q1 : ¬ x < a → ¬ b < x → Q (some (.int 1)) (sk_h hi rr ex)) (q0 : ¬ (¬ x < a ∧ ¬ b < x) → Q (some (.int 0)) (sk_h hi rr ex)) : sk_Ct Γ m_X9_isIn [.int x, .int a, .int b] (sk_h hi rr ex) Q :=
  sk_Ct.of ok_X9_isIn.2.2.2 (Nat.le_of_ble_eq_true rfl) (k_X9_isIn_0 (fun c => q0 (fun z => z.1 c)) (fun c d => q0 (fun z => z.2 d)) (fun c d => q1 c d))
theorem sk_below {x : Int32} {n : Nat} (hn : n < 2 ^ 30) : (¬ x < 0 ∧ ¬ nI n - 1 < x) ↔ ∃ i, i < n ∧ x = nI i := by
  have h1 : (nI n - 1).toInt = (n : Int) - 1 := by
    have := pk_sub_toInt (a := n) (b := 1) hn (by decide)
    exact this
  rw [Int32.lt_iff_toInt_lt, Int32.lt_iff_toInt_lt, h1, show (0 : Int32).toInt = 0 by decide]
  constructor
  · rintro ⟨a, b⟩
    refine ⟨x.toInt.toNat, by omega, ?_⟩
    apply Int32.toInt_inj.mp
    rw [nI_toInt (by omega)]
    omega
  · rintro ⟨i, a, rfl⟩
    rw [nI_toInt (by omega)]
    omega
theorem cx_tellStation {x1 x2 : Int32} (hG : sk_G S) (hC : sk_Cn hi S) (q1 : sk_Pts S x1 x2 → ∀ hi', sk_Cn hi' (nx_tst S x1 x2) → (∀ a, a ≠ 10 → hi' a = hi a) → Q (some (.int 1)) (sk_h hi' rr ex)) (q0 : ¬ sk_Pts S x1 x2 → Q (some (.int 0)) (sk_h hi rr ex)) : sk_Ct Γ m_X8_tellStation [.ref 0, .int x1, .int x2] (sk_h hi rr ex) Q := by
  have g := hG.2.2.2.2.2
  obtain ⟨s1, s2⟩ := hC.2.2.2.2
  have hb := sk_below (x := x1) (n := S.2.2.2.1) (by omega)
  rw [← s1] at hb
  refine sk_Ct.of ok_X8_tellStation.2.2.2 (Nat.le_of_ble_eq_true rfl) (k_X8_tellStation_0 (c_X8_within' (fun c1 c2 => k_X8_tellStation_17 (fun c => absurd c sk_n10) (fun _ => c_X8_isValue (fun z3 => ?_) (fun z3 => k_X8_tellStation_24 (fun c => absurd rfl c) (fun c => absurd rfl c) (fun _ => q0 (fun w => z3 w.2))))) (fun z => k_X8_tellStation_17 (fun _ => q0 (fun w => z (hb.mpr w.1))) (fun c => absurd rfl c))))
  have hz := hb.mp ⟨c1, c2⟩
  obtain ⟨e3, a3, b3⟩ := sk_rg_n z3 (by decide)
  refine k_X8_tellStation_24 (fun _ => ?_) (fun _ => ?_) (fun c => absurd c sk_n10)
  · obtain ⟨i, h1, rfl⟩ := hz
    exact vp_in_nI (by omega) (by decide)
  · refine q1 ⟨hz, z3⟩ _ (sk_Cn_s hC ⟨by rw [sk_wi_o _ _ _ (by decide)]; exact s1, fun i hi' => ?_⟩ (fun a _ _ _ h10 => sk_wi_o _ _ _ h10)) (fun a h10 => sk_wi_o _ _ _ h10)
    have hi' : i < S.2.2.2.1 := hi'
    obtain ⟨u1, u2, u3⟩ := s2 i hi'
    refine ⟨by rw [sk_wi_o _ _ _ (by decide)]; exact u1, by rw [sk_wi_o _ _ _ (by decide)]; exact u2, ?_⟩
    show sk_wi hi 10 (sk_n x1) x2 10 i = nI (sk_un S.2.2.2.2.2.2 (sk_n x1) (sk_n x2) i)
    rw [sk_wi_if]
    unfold sk_un
    by_cases he : i = sk_n x1
    · rw [if_pos he, if_pos he]; exact e3
    · rw [if_neg he, if_neg he]; exact u3
end STAT
