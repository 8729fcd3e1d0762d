theorem sk_cmp_gt (a b : Nat) (ha : a < 2 ^ 63) (hb : b < 2 ^ 63) : (0 : Int32) < lg_cmp (lN a) (lN b) ↔ b < a := by
  unfold lg_cmp
  have h1 : lN a > lN b ↔ b < a := pk_lLT hb ha
  by_cases h : b < a
  · rw [if_pos (h1.mpr h)]
    exact ⟨fun _ => h, fun _ => by decide⟩
  · rw [if_neg (fun z => h (h1.mp z))]
    split
    · exact ⟨fun z => absurd z (by decide), fun z => absurd z h⟩
    · exact ⟨fun z => absurd z (by decide), fun z => absurd z h⟩
theorem sk_cmp_ge (a b : Nat) (ha : a < 2 ^ 63) (hb : b < 2 ^ 63) : (0 : Int32) ≤ lg_cmp (lN a) (lN b) ↔ b ≤ a := by
  rw [lg_cmp_ge, pk_lLE hb ha]
theorem sk_root_one {w R R' : Nat} (h1 : R * R ≤ w) (h2 : w < (R + 1) * (R + 1)) (h3 : R' * R' ≤ w) (h4 : w < (R' + 1) * (R' + 1)) : R = R' := by
  rcases Nat.lt_trichotomy R R' with h | h | h
  · have := Nat.mul_le_mul (show R + 1 ≤ R' from h) (show R + 1 ≤ R' from h); omega
  · exact h
  · have := Nat.mul_le_mul (show R' + 1 ≤ R from h) (show R' + 1 ≤ R from h); omega
def sk_Phops (x1 x2 x3 x4 : Int32) : Prop := sk_rg x1 1 20000 ∧ sk_rg x2 1 1000 ∧ sk_rg x3 1 1000 ∧ sk_rg x4 1 5
def sk_up (H n : Nat) : Nat := 4 * n * n * H * H
def sk_hw (D H c n : Nat) : Nat := c * c * (D * D + sk_up H n) / sk_up H n
def sk_Pfw (x1 x2 : Int32) : Prop := sk_rg x1 1 20000 ∧ sk_rg x2 1 20000
def sk_fw (d l : Nat) (r : Int32) : Prop := (∃ n, 1 ≤ n ∧ n ≤ 5 ∧ d ≤ n * l ∧ (∀ m, 1 ≤ m → m < n → m * l < d) ∧ r = nI n) ∨ ((∀ m, 1 ≤ m → m ≤ 5 → m * l < d) ∧ r = -1)
theorem sk_fw_one {d l : Nat} {r r' : Int32} (a : sk_fw d l r) (b : sk_fw d l r') : r = r' := by
  rcases a with ⟨n, a1, a2, a3, a4, a5⟩ | ⟨a1, a2⟩ <;> rcases b with ⟨k, b1, b2, b3, b4, b5⟩ | ⟨b1, b2⟩
  · rcases Nat.lt_trichotomy n k with h | h | h
    · have := b4 n a1 h; omega
    · rw [a5, b5, h]
    · have := a4 k b1 h; omega
  · have := b1 n a1 a2; omega
  · have := a1 k b1 b2; omega
  · rw [a2, b2]
theorem sk_up_ok {H n : Nat} (h1 : 1 ≤ H) (h2 : H ≤ 1000) (h3 : 1 ≤ n) (h4 : n ≤ 5) : 4 ≤ sk_up H n ∧ sk_up H n ≤ 100000000 := by
  have a : n * n ≤ 25 := Nat.mul_le_mul h4 h4
  have a1 : 1 ≤ n * n := Nat.mul_le_mul h3 h3
  have b : H * H ≤ 1000000 := Nat.mul_le_mul h2 h2
  have b1 : 1 ≤ H * H := Nat.mul_le_mul h1 h1
  have e : sk_up H n = 4 * ((n * n) * (H * H)) := by unfold sk_up; simp only [Nat.mul_assoc]
  have c : (n * n) * (H * H) ≤ 25 * 1000000 := Nat.mul_le_mul a b
  have c1 : 1 * 1 ≤ (n * n) * (H * H) := Nat.mul_le_mul a1 b1
  rw [e]
  omega
theorem sk_hw_ok {D H c n : Nat} (d2 : D ≤ 20000) (h1 : 1 ≤ H) (h2 : H ≤ 1000) (c2 : c ≤ 1000) (h3 : 1 ≤ n) (h4 : n ≤ 5) : c * c * (D * D + sk_up H n) < 2 ^ 62 ∧ sk_hw D H c n < 2 ^ 48 := by
  obtain ⟨u1, u2⟩ := sk_up_ok h1 h2 h3 h4
  have a : D * D ≤ 400000000 := Nat.mul_le_mul d2 d2
  have b : c * c ≤ 1000000 := Nat.mul_le_mul c2 c2
  have e : c * c * (D * D + sk_up H n) ≤ 1000000 * (500000000) := Nat.mul_le_mul b (by omega)
  refine ⟨by omega, ?_⟩
  have f : c * c * (D * D + sk_up H n) ≤ 1000000 * (100000001 * sk_up H n) := Nat.mul_le_mul b (by omega)
  have g : sk_hw D H c n ≤ 1000000 * 100000001 := by
    unfold sk_hw
    refine Nat.div_le_of_le_mul ?_
    rw [Nat.mul_comm (sk_up H n)]
    omega
  omega
theorem sk_upx (H n : Nat) (h2 : H < 2 ^ 31) (h4 : n < 2 ^ 31) : (4 : Int64) * (nI n).toInt64 * (nI n).toInt64 * (nI H).toInt64 * (nI H).toInt64 = lN (sk_up H n) := by
  rw [nI_l h2, nI_l h4, show (4 : Int64) = lN 4 from rfl, lN_mul, lN_mul, lN_mul, lN_mul]
  rfl
theorem sk_hwx {D H c n : Nat} (d2 : D ≤ 20000) (h1 : 1 ≤ H) (h2 : H ≤ 1000) (c2 : c ≤ 1000) (h3 : 1 ≤ n) (h4 : n ≤ 5) : (nI c).toInt64 * (nI c).toInt64 * ((nI D).toInt64 * (nI D).toInt64 + lN (sk_up H n)) / lN (sk_up H n) = lN (sk_hw D H c n) := by
  obtain ⟨u1, u2⟩ := sk_up_ok h1 h2 h3 h4
  obtain ⟨w1, w2⟩ := sk_hw_ok d2 h1 h2 c2 h3 h4
  rw [nI_l (by omega), nI_l (by omega), lN_mul, lN_mul, lN_add, lN_mul, pk_lDiv (by omega) (by omega) (by omega)]
  rfl
section HOPS
variable {Γ : sk_Cx} {Q : Option Value → sk_Hp → Prop} {rr : Nat → Nat → Option Nat} {ex : List (Nat × Nat)} {hi : Nat → Nat → Int32}
theorem c_rootOf {w : Nat} (hw : w < 2 ^ 48) (q : ∀ R, R * R ≤ w → w < (R + 1) * (R + 1) → Q (some (.int (nI R))) (sk_h hi rr ex)) : sk_Ct Γ m_X1_rootOf [.long (lN w)] (sk_h hi rr ex) Q := by
  refine sk_Ct.of ok_X1_rootOf.2.2.2 (Nat.le_of_ble_eq_true rfl) (k_X1_rootOf_0 ?_)
  have key : ∀ k, k < 24 → (1 : Int64) <<< (Int32.toInt64 (nI k) &&& 63) = lN (2 ^ k) := by decide +kernel
  have loop : ∀ k R, k ≤ 24 → R + 2 ^ k ≤ 2 ^ 24 → R * R ≤ w → w < (R + 2 ^ k) * (R + 2 ^ k) → sk_Go Γ (sk_M Γ m_X1_rootOf Q) (0, 0) 6 [some (.long (lN w)), none, some (.long (lN R)), none, some (.int (nI k + (-1))), none, none] [] (sk_h hi rr ex) := by
    intro k
    induction k with
    | zero =>
      intro R _ h0 h1 h2
      have hm : nI 0 + (-1) < 0 := by decide
      refine k_X1_rootOf_6 (fun _ => ?_) (fun c => absurd hm c) (fun c => absurd hm c)
      rw [lN_i]
      exact q R h1 (by simpa using h2)
    | succ k ih =>
      intro R hk h0 h1 h2
      have hm : ¬ nI (k + 1) + (-1) < 0 := by rw [pk_m1]; exact nI_pos (by omega)
      have hp : 2 ^ (k + 1) = 2 ^ k + 2 ^ k := by rw [Nat.pow_succ]; omega
      have hpk : 0 < 2 ^ k := Nat.two_pow_pos k
      have hR : R + 2 ^ k ≤ 2 ^ 24 := by omega
      have sq : (R + 2 ^ k) * (R + 2 ^ k) ≤ 2 ^ 24 * 2 ^ 24 := Nat.mul_le_mul hR hR
      have hc : ∀ x : Int32, (0 : Int32) < lg_cmp ((lN R + ((1 : Int64) <<< (Int32.toInt64 (nI (k + 1) + (-1)) &&& 63))) * (lN R + ((1 : Int64) <<< (Int32.toInt64 (nI (k + 1) + (-1)) &&& 63)))) (lN w) ↔ w < (R + 2 ^ k) * (R + 2 ^ k) := fun _ => by
        rw [pk_m1, key k (by omega), lN_add, lN_mul, sk_cmp_gt _ _ (by omega) (by omega)]
      refine k_X1_rootOf_6 (fun c => absurd c hm) (fun _ c => ?_) (fun _ c => ?_)
      · rw [hc 0] at c
        have := ih R (by omega) (by omega) h1 c
        rw [pk_m1]
        exact this
      · rw [hc 0] at c
        have := ih (R + 2 ^ k) (by omega) (by omega) (by omega) (by rw [show R + 2 ^ k + 2 ^ k = R + 2 ^ (k + 1) by omega]; exact h2)
        rw [pk_m1, key k (by omega), lN_add]
        exact this
  have := loop 24 0 (by omega) (by omega) (by omega) (by simpa using hw)
  exact this
theorem cx_hops {x1 x2 x3 x4 : Int32} (q1 : sk_Phops x1 x2 x3 x4 → ∀ R, R * R ≤ sk_hw (sk_n x1) (sk_n x2) (sk_n x3) (sk_n x4) → sk_hw (sk_n x1) (sk_n x2) (sk_n x3) (sk_n x4) < (R + 1) * (R + 1) → Q (some (.int (nI R))) (sk_h hi rr ex)) (q0 : ¬ sk_Phops x1 x2 x3 x4 → Q (some (.int (-1))) (sk_h hi rr ex)) : sk_Ct Γ m_X8_hops [.ref 0, .int x1, .int x2, .int x3, .int x4] (sk_h hi rr ex) Q := by
  refine sk_Ct.of ok_X8_hops.2.2.2 (Nat.le_of_ble_eq_true rfl) (k_X8_hops_0 (c_X8_within (l := 1) (u := 20000) (by decide) (by decide) (by decide) (by decide) (fun z1 => k_X8_hops_8 (fun c => absurd c sk_n10) (fun _ => c_X8_within (l := 1) (u := 1000) (by decide) (by decide) (by decide) (by decide) (fun z2 => k_X8_hops_19 (fun c => absurd c sk_n10) (fun _ => c_X8_within (l := 1) (u := 1000) (by decide) (by decide) (by decide) (by decide) (fun z3 => k_X8_hops_30 (fun c => absurd c sk_n10) (fun _ => c_X8_within (l := 1) (u := 5) (by decide) (by decide) (by decide) (by decide) (fun z4 => k_X8_hops_40 (fun _ => ?_) (fun c => absurd c sk_n10)) (fun z4 => k_X8_hops_40 (fun c => absurd rfl c) (fun _ => q0 (fun w => z4 w.2.2.2))))) (fun z3 => k_X8_hops_30 (fun _ => q0 (fun w => z3 w.2.2.1)) (fun c => absurd rfl c)))) (fun z2 => k_X8_hops_19 (fun _ => q0 (fun w => z2 w.2.1)) (fun c => absurd rfl c)))) (fun z1 => k_X8_hops_8 (fun _ => q0 (fun w => z1 w.1)) (fun c => absurd rfl c))))
  have p1 := q1 ⟨z1, z2, z3, z4⟩
  clear q1 q0
  obtain ⟨e1, a1, b1⟩ := sk_rg_n z1 (by decide)
  obtain ⟨e2, a2, b2⟩ := sk_rg_n z2 (by decide)
  obtain ⟨e3, a3, b3⟩ := sk_rg_n z3 (by decide)
  obtain ⟨e4, a4, b4⟩ := sk_rg_n z4 (by decide)
  generalize sk_n x1 = D at e1 a1 b1 p1
  generalize sk_n x2 = H at e2 a2 b2 p1
  generalize sk_n x3 = c at e3 a3 b3 p1
  generalize sk_n x4 = n at e4 a4 b4 p1
  subst e1; subst e2; subst e3; subst e4
  obtain ⟨u1, u2⟩ := sk_up_ok a2 b2 a4 b4
  obtain ⟨w1, w2⟩ := sk_hw_ok b1 a2 b2 b3 a4 b4
  refine sk_Ct.of ok_X1_highestTone.2.2.2 (Nat.le_of_ble_eq_true rfl) (k_X1_highestTone_0 (by rw [sk_upx _ _ (by omega) (by omega)]; exact sk_lN0 (by omega) (by omega)) ?_)
  rw [sk_upx _ _ (by omega) (by omega), sk_hwx b1 a2 b2 b3 a4 b4]
  exact c_rootOf w2 (fun R r1 r2 => k_X1_highestTone_41 (k_X8_hops_53 (p1 R r1 r2)))
theorem c_rroot {w : Nat} (hw : w < 2 ^ 48) (q : ∀ R, R < 2 ^ 31 → R * R ≤ w → w < (R + 1) * (R + 1) → Q (some (.long (lN R))) (sk_h hi rr ex)) : sk_Ct Γ m_X9_root [.long (lN w)] (sk_h hi rr ex) Q := by
  refine sk_Ct.of ok_X9_root.2.2.2 (Nat.le_of_ble_eq_true rfl) (k_X9_root_0 ?_)
  have loop : ∀ f lo hg, hg - lo < f → lo ≤ hg → hg ≤ 40000000 → lo * lo ≤ w → w < (hg + 1) * (hg + 1) → sk_Go Γ (sk_M Γ m_X9_root Q) (0, 0) 7 [some (.long (lN w)), none, some (.long (lN lo)), none, some (.long (lN hg)), none, none, none] [] (sk_h hi rr ex) := by
    intro f
    induction f with
    | zero => intro lo hg h; omega
    | succ f ih =>
      intro lo hg hf hle hb h1 h2
      have hmid : (lN lo + lN hg + 1) / 2 = lN ((lo + hg + 1) / 2) := by
        rw [lN_add, lN_1, show (2 : Int64) = lN 2 from rfl, pk_lDiv (by omega) (by decide) (by decide)]
      have hm1 : (lo + hg + 1) / 2 ≤ 40000000 := by omega
      have sq : (lo + hg + 1) / 2 * ((lo + hg + 1) / 2) ≤ 40000000 * 40000000 := Nat.mul_le_mul hm1 hm1
      refine k_X9_root_7 (fun c => ?_) (fun c0 c => ?_) (fun c0 c => ?_)
      · rw [sk_cmp_ge _ _ (by omega) (by omega)] at c
        have e : lo = hg := by omega
        subst e
        exact q lo (by omega) h1 h2
      · rw [sk_cmp_ge _ _ (by omega) (by omega)] at c0
        rw [hmid, lN_mul, sk_cmp_gt _ _ (by omega) (by omega)] at c
        rw [hmid, show (1 : Int64) = lN 1 from rfl, lN_sub (by omega)]
        refine ih lo _ (by omega) (by omega) (by omega) h1 ?_
        rw [show (lo + hg + 1) / 2 - 1 + 1 = (lo + hg + 1) / 2 by omega]
        exact c
      · rw [sk_cmp_ge _ _ (by omega) (by omega)] at c0
        rw [hmid, lN_mul, sk_cmp_gt _ _ (by omega) (by omega)] at c
        rw [hmid]
        exact ih _ hg (by omega) (by omega) hb (by omega) h2
  exact loop 40000001 0 40000000 (by omega) (by omega) (by omega) (by omega) (by omega)
theorem cm_hops {x1 x2 x3 x4 : Int32} (q1 : sk_Phops x1 x2 x3 x4 → ∀ R, R * R ≤ sk_hw (sk_n x1) (sk_n x2) (sk_n x3) (sk_n x4) → sk_hw (sk_n x1) (sk_n x2) (sk_n x3) (sk_n x4) < (R + 1) * (R + 1) → Q (some (.int (nI R))) (sk_h hi rr ex)) (q0 : ¬ sk_Phops x1 x2 x3 x4 → Q (some (.int (-1))) (sk_h hi rr ex)) : sk_Ct Γ m_X9_hops [.ref 20, .int x1, .int x2, .int x3, .int x4] (sk_h hi rr ex) Q := by
  refine sk_Ct.of ok_X9_hops.2.2.2 (Nat.le_of_ble_eq_true rfl) (k_X9_hops_0 (c_X9_isIn (l := 1) (u := 20000) (by decide) (by decide) (by decide) (by decide) (fun z1 => k_X9_hops_8 (fun c => absurd c sk_n10) (fun _ => c_X9_isIn (l := 1) (u := 1000) (by decide) (by decide) (by decide) (by decide) (fun z2 => k_X9_hops_19 (fun c => absurd c sk_n10) (fun _ => c_X9_isIn (l := 1) (u := 1000) (by decide) (by decide) (by decide) (by decide) (fun z3 => k_X9_hops_30 (fun c => absurd c sk_n10) (fun _ => c_X9_isIn (l := 1) (u := 5) (by decide) (by decide) (by decide) (by decide) (fun z4 => ?_) (fun z4 => k_X9_hops_40 (fun c => absurd rfl c) (fun c => absurd rfl c) (fun _ => q0 (fun w => z4 w.2.2.2))))) (fun z3 => k_X9_hops_30 (fun _ => q0 (fun w => z3 w.2.2.1)) (fun c => absurd rfl c)))) (fun z2 => k_X9_hops_19 (fun _ => q0 (fun w => z2 w.2.1)) (fun c => absurd rfl c)))) (fun z1 => k_X9_hops_8 (fun _ => q0 (fun w => z1 w.1)) (fun c => absurd rfl c))))
  have p1 := q1 ⟨z1, z2, z3, z4⟩
  clear q1 q0
  obtain ⟨e1, a1, b1⟩ := sk_rg_n z1 (by decide)
  obtain ⟨e2, a2, b2⟩ := sk_rg_n z2 (by decide)
  obtain ⟨e3, a3, b3⟩ := sk_rg_n z3 (by decide)
  obtain ⟨e4, a4, b4⟩ := sk_rg_n z4 (by decide)
  generalize sk_n x1 = D at e1 a1 b1 p1
  generalize sk_n x2 = H at e2 a2 b2 p1
  generalize sk_n x3 = c at e3 a3 b3 p1
  generalize sk_n x4 = n at e4 a4 b4 p1
  subst e1; subst e2; subst e3; subst e4
  obtain ⟨u1, u2⟩ := sk_up_ok a2 b2 a4 b4
  obtain ⟨w1, w2⟩ := sk_hw_ok b1 a2 b2 b3 a4 b4
  refine k_X9_hops_40 (fun _ => by rw [sk_upx _ _ (by omega) (by omega)]; exact sk_lN0 (by omega) (by omega)) (fun _ => ?_) (fun c => absurd c sk_n10)
  rw [sk_upx _ _ (by omega) (by omega), sk_hwx b1 a2 b2 b3 a4 b4]
  exact c_rroot w2 (fun R hR r1 r2 => k_X9_hops_88 (by rw [lN_i]; exact p1 R r1 r2))
theorem cx_fewest {x1 x2 : Int32} (q1 : sk_Pfw x1 x2 → ∀ r, sk_fw (sk_n x1) (sk_n x2) r → Q (some (.int r)) (sk_h hi rr ex)) (q0 : ¬ sk_Pfw x1 x2 → Q (some (.int (-1))) (sk_h hi rr ex)) : sk_Ct Γ m_X8_fewest [.ref 0, .int x1, .int x2] (sk_h hi rr ex) Q := by
  refine sk_Ct.of ok_X8_fewest.2.2.2 (Nat.le_of_ble_eq_true rfl) (k_X8_fewest_0 (c_X8_within (l := 1) (u := 20000) (by decide) (by decide) (by decide) (by decide) (fun z1 => k_X8_fewest_8 (fun c => absurd c sk_n10) (fun _ => c_X8_within (l := 1) (u := 20000) (by decide) (by decide) (by decide) (by decide) (fun z2 => k_X8_fewest_19 (fun _ => ?_) (fun c => absurd c sk_n10)) (fun z2 => k_X8_fewest_19 (fun c => absurd rfl c) (fun _ => q0 (fun w => z2 w.2))))) (fun z1 => k_X8_fewest_8 (fun _ => q0 (fun w => z1 w.1)) (fun c => absurd rfl c))))
  have p1 := q1 ⟨z1, z2⟩
  clear q1 q0
  obtain ⟨e1, a1, b1⟩ := sk_rg_n z1 (by decide)
  obtain ⟨e2, a2, b2⟩ := sk_rg_n z2 (by decide)
  generalize sk_n x1 = d at e1 a1 b1 p1
  generalize sk_n x2 = l at e2 a2 b2 p1
  subst e1; subst e2
  refine sk_Ct.of ok_X1_leastHops.2.2.2 (Nat.le_of_ble_eq_true rfl) (k_X1_leastHops_0 ?_)
  have loop : ∀ k n, n + k = 6 → 1 ≤ n → (∀ m, 1 ≤ m → m < n → m * l < d) → sk_Go Γ (sk_M Γ m_X1_leastHops (fun r h' => sk_Go Γ (sk_M Γ m_X8_fewest Q) (0, 0) 29 [some (.ref 0), some (.int (nI d)), some (.int (nI l))] (r.toList ++ []) h')) (0, 0) 2 [some (.int (nI d)), some (.int (nI l)), some (.int (nI n))] [] (sk_h hi rr ex) := by
    intro k
    induction k with
    | zero =>
      intro n hn h1 ha
      have e : n = 6 := by omega
      subst e
      exact k_X1_leastHops_2 (fun _ => k_X8_fewest_29 (p1 _ (Or.inr ⟨fun m m1 m2 => ha m m1 (by omega), rfl⟩))) (fun c => absurd (by decide) c) (fun c => absurd (by decide) c)
    | succ k ih =>
      intro n hn h1 ha
      have h5 : ¬ (5 : Int32) < nI n := nI_nlt (b := n) (a := 5) (by omega) (by decide)
      have hb : n * l ≤ 5 * 20000 := Nat.mul_le_mul (by omega) b2
      refine k_X1_leastHops_2 (fun c => absurd c h5) (fun _ c => ?_) (fun _ c => k_X8_fewest_29 ?_)
      · rw [pk_mul, nI_ltI (by omega) (by omega)] at c
        rw [nI_1]
        exact ih (n + 1) (by omega) (by omega) (fun m m1 m2 => by rcases Nat.lt_or_ge m n with h | h; exact ha m m1 h; rw [show m = n by omega]; exact c)
      · rw [pk_mul, nI_ltI (by omega) (by omega)] at c
        exact p1 _ (Or.inl ⟨n, h1, by omega, by omega, ha, rfl⟩)
  exact loop 5 1 (by omega) (by omega) (fun m m1 m2 => by omega)
theorem cm_fewest {x1 x2 : Int32} (q1 : sk_Pfw x1 x2 → ∀ r, sk_fw (sk_n x1) (sk_n x2) r → Q (some (.int r)) (sk_h hi rr ex)) (q0 : ¬ sk_Pfw x1 x2 → Q (some (.int (-1))) (sk_h hi rr ex)) : sk_Ct Γ m_X9_fewest [.ref 20, .int x1, .int x2] (sk_h hi rr ex) Q := by
  refine sk_Ct.of ok_X9_fewest.2.2.2 (Nat.le_of_ble_eq_true rfl) (k_X9_fewest_0 (c_X9_isIn (l := 1) (u := 20000) (by decide) (by decide) (by decide) (by decide) (fun z1 => k_X9_fewest_8 (fun c => absurd c sk_n10) (fun _ => c_X9_isIn (l := 1) (u := 20000) (by decide) (by decide) (by decide) (by decide) (fun z2 => k_X9_fewest_19 (fun _ => ?_) (fun c => absurd c sk_n10)) (fun z2 => k_X9_fewest_19 (fun c => absurd rfl c) (fun _ => q0 (fun w => z2 w.2))))) (fun z1 => k_X9_fewest_8 (fun _ => q0 (fun w => z1 w.1)) (fun c => absurd rfl c))))
  have p1 := q1 ⟨z1, z2⟩
  clear q1 q0
  obtain ⟨e1, a1, b1⟩ := sk_rg_n z1 (by decide)
  obtain ⟨e2, a2, b2⟩ := sk_rg_n z2 (by decide)
  generalize sk_n x1 = d at e1 a1 b1 p1
  generalize sk_n x2 = l at e2 a2 b2 p1
  subst e1; subst e2
  have loop : ∀ k n, n + k = 6 → 1 ≤ n → (∀ m, 1 ≤ m → m < n → m * l < d) → sk_Go Γ (sk_M Γ m_X9_fewest Q) (0, 0) 26 [some (.ref 20), some (.int (nI d)), some (.int (nI l)), some (.int (nI n))] [] (sk_h hi rr ex) := by
    intro k
    induction k with
    | zero =>
      intro n hn h1 ha
      have e : n = 6 := by omega
      subst e
      exact k_X9_fewest_26 (fun _ => p1 _ (Or.inr ⟨fun m m1 m2 => ha m m1 (by omega), rfl⟩)) (fun c => absurd (by decide) c) (fun c => absurd (by decide) c)
    | succ k ih =>
      intro n hn h1 ha
      have h5 : ¬ (5 : Int32) < nI n := nI_nlt (b := n) (a := 5) (by omega) (by decide)
      have hb : n * l ≤ 5 * 20000 := Nat.mul_le_mul (by omega) b2
      refine k_X9_fewest_26 (fun c => absurd c h5) (fun _ c => ?_) (fun _ c => ?_)
      · rw [pk_mul, nI_ltI (by omega) (by omega)] at c
        rw [nI_1]
        exact ih (n + 1) (by omega) (by omega) (fun m m1 m2 => by rcases Nat.lt_or_ge m n with h | h; exact ha m m1 h; rw [show m = n by omega]; exact c)
      · rw [pk_mul, nI_ltI (by omega) (by omega)] at c
        exact p1 _ (Or.inl ⟨n, h1, by omega, by omega, ha, rfl⟩)
  exact loop 5 1 (by omega) (by omega) (fun m m1 m2 => by omega)
end HOPS
