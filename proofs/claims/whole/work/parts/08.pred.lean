abbrev sk_h (hi : Nat → Nat → Int32) (rr : Nat → Nat → Option Nat) (ex : List (Nat × Nat)) : sk_Hp := (hi, sk_hr rr, sk_ks ++ ex)
/-- an int between two numbers -/
def sk_rg (x : Int32) (lo hi : Nat) : Prop := ∃ j : Nat, lo ≤ j ∧ j ≤ hi ∧ x = nI j
theorem sk_rg_iff {x : Int32} {a b : Int32} {l u : Nat} (ha : a = nI l) (hb : b = nI u) (hl : l < 2 ^ 31) (hu : u < 2 ^ 31) : (¬ x < a ∧ ¬ b < x) ↔ sk_rg x l u := by
  subst ha; subst hb
  rw [Int32.lt_iff_toInt_lt, Int32.lt_iff_toInt_lt, nI_toInt hl, nI_toInt hu]
  constructor
  · rintro ⟨h1, h2⟩
    refine ⟨x.toInt.toNat, by omega, by omega, ?_⟩
    apply Int32.toInt_inj.mp
    rw [nI_toInt (by omega)]
    omega
  · rintro ⟨j, h1, h2, rfl⟩
    rw [nI_toInt (by omega)]
    omega
theorem sk_n10 : ¬ (1 : Int32) = 0 := by decide
section PRED
variable {Γ : sk_Cx} {Q : Option Value → sk_Hp → Prop} {rr : Nat → Nat → Option Nat} {ex : List (Nat × Nat)} {hi : Nat → Nat → Int32}
theorem c_X8_within {x a b : Int32} {l u : Nat} (ha : a = nI l) (hb : b = nI u) (hl : l < 2 ^ 31) (hu : u < 2 ^ 31) (q1 : sk_rg x l u → Q (some (.int 1)) (sk_h hi rr ex)) (q0 : ¬ sk_rg x l u → Q (some (.int 0)) (sk_h hi rr ex)) : sk_Ct Γ m_X8_within [.int x, .int a, .int b] (sk_h hi rr ex) Q := by
  have h := sk_rg_iff (x := x) ha hb hl hu
  exact sk_Ct.of ok_X8_within.2.2.2 (Nat.le_of_ble_eq_true rfl) (k_X8_within_0 (fun c => q0 (fun z => (h.mpr z).1 c)) (fun c d => q0 (fun z => (h.mpr z).2 d)) (fun c d => q1 (h.mp ⟨c, d⟩)))
theorem c_X9_isIn {x a b : Int32} {l u : Nat} (ha : a = nI l) (hb : b = nI u) (hl : l < 2 ^ 31) (hu : u < 2 ^ 31) (q1 : sk_rg x l u → Q (some (.int 1)) (sk_h hi rr ex)) (q0 : ¬ sk_rg x l u → Q (some (.int 0)) (sk_h hi rr ex)) : sk_Ct Γ m_X9_isIn [.int x, .int a, .int b] (sk_h hi rr ex) Q := by
  have h := sk_rg_iff (x := x) ha hb hl hu
  exact sk_Ct.of ok_X9_isIn.2.2.2 (Nat.le_of_ble_eq_true rfl) (k_X9_isIn_0 (fun c => q0 (fun z => (h.mpr z).1 c)) (fun c d => q0 (fun z => (h.mpr z).2 d)) (fun c d => q1 (h.mp ⟨c, d⟩)))
theorem c_X8_isBoard {x : Int32} (q1 : sk_rg x 0 3 → Q (some (.int 1)) (sk_h hi rr ex)) (q0 : ¬ sk_rg x 0 3 → Q (some (.int 0)) (sk_h hi rr ex)) : sk_Ct Γ m_X8_isBoard [.int x] (sk_h hi rr ex) Q :=
  sk_Ct.of ok_X8_isBoard.2.2.2 (Nat.le_of_ble_eq_true rfl) (k_X8_isBoard_0 (c_X8_within (l := 0) (u := 3) (by decide) (by decide) (by decide) (by decide) (fun z => k_X8_isBoard_6 rfl (q1 z)) (fun z => k_X8_isBoard_6 rfl (q0 z))))
theorem c_X9_isBoard {x : Int32} (q1 : sk_rg x 0 3 → Q (some (.int 1)) (sk_h hi rr ex)) (q0 : ¬ sk_rg x 0 3 → Q (some (.int 0)) (sk_h hi rr ex)) : sk_Ct Γ m_X9_isBoard [.int x] (sk_h hi rr ex) Q :=
  sk_Ct.of ok_X9_isBoard.2.2.2 (Nat.le_of_ble_eq_true rfl) (k_X9_isBoard_0 (c_X9_isIn (l := 0) (u := 3) (by decide) (by decide) (by decide) (by decide) (fun z => k_X9_isBoard_6 rfl (q1 z)) (fun z => k_X9_isBoard_6 rfl (q0 z))))
theorem c_X8_isValue {x : Int32} (q1 : sk_rg x 0 999 → Q (some (.int 1)) (sk_h hi rr ex)) (q0 : ¬ sk_rg x 0 999 → Q (some (.int 0)) (sk_h hi rr ex)) : sk_Ct Γ m_X8_isValue [.int x] (sk_h hi rr ex) Q :=
  sk_Ct.of ok_X8_isValue.2.2.2 (Nat.le_of_ble_eq_true rfl) (k_X8_isValue_0 (c_X8_within (l := 0) (u := 999) (by decide) (by decide) (by decide) (by decide) (fun z => k_X8_isValue_8 rfl (q1 z)) (fun z => k_X8_isValue_8 rfl (q0 z))))
theorem c_X8_isTone {x y : Int32} (q1 : sk_rg x 0 3 → sk_rg y 0 23 → Q (some (.int 1)) (sk_h hi rr ex)) (q0 : ¬ (sk_rg x 0 3 ∧ sk_rg y 0 23) → Q (some (.int 0)) (sk_h hi rr ex)) : sk_Ct Γ m_X8_isTone [.int x, .int y] (sk_h hi rr ex) Q :=
  sk_Ct.of ok_X8_isTone.2.2.2 (Nat.le_of_ble_eq_true rfl) (k_X8_isTone_0 (c_X8_isBoard (fun z1 => k_X8_isTone_4 (fun c => absurd c sk_n10) (fun _ => c_X8_within (l := 0) (u := 23) (by decide) (by decide) (by decide) (by decide) (fun z2 => k_X8_isTone_14 (fun c => absurd c sk_n10) (fun _ => q1 z1 z2)) (fun z2 => k_X8_isTone_14 (fun _ => q0 (fun z => z2 z.2)) (fun c => absurd rfl c)))) (fun z1 => k_X8_isTone_4 (fun _ => q0 (fun z => z1 z.1)) (fun c => absurd rfl c))))
theorem c_X8_isDay {x y : Int32} (q1 : sk_rg x 0 23 → sk_rg y 0 30 → Q (some (.int 1)) (sk_h hi rr ex)) (q0 : ¬ (sk_rg x 0 23 ∧ sk_rg y 0 30) → Q (some (.int 0)) (sk_h hi rr ex)) : sk_Ct Γ m_X8_isDay [.int x, .int y] (sk_h hi rr ex) Q :=
  sk_Ct.of ok_X8_isDay.2.2.2 (Nat.le_of_ble_eq_true rfl) (k_X8_isDay_0 (c_X8_within (l := 0) (u := 23) (by decide) (by decide) (by decide) (by decide) (fun z1 => k_X8_isDay_7 (fun c => absurd c sk_n10) (fun _ => c_X8_within (l := 0) (u := 30) (by decide) (by decide) (by decide) (by decide) (fun z2 => k_X8_isDay_17 (fun c => absurd c sk_n10) (fun _ => q1 z1 z2)) (fun z2 => k_X8_isDay_17 (fun _ => q0 (fun z => z2 z.2)) (fun c => absurd rfl c)))) (fun z1 => k_X8_isDay_7 (fun _ => q0 (fun z => z1 z.1)) (fun c => absurd rfl c))))
theorem c_X9_isHour {x y : Int32} (q1 : sk_rg x 0 23 → sk_rg y 0 30 → Q (some (.int 1)) (sk_h hi rr ex)) (q0 : ¬ (sk_rg x 0 23 ∧ sk_rg y 0 30) → Q (some (.int 0)) (sk_h hi rr ex)) : sk_Ct Γ m_X9_isHour [.int x, .int y] (sk_h hi rr ex) Q :=
  sk_Ct.of ok_X9_isHour.2.2.2 (Nat.le_of_ble_eq_true rfl) (k_X9_isHour_0 (c_X9_isIn (l := 0) (u := 23) (by decide) (by decide) (by decide) (by decide) (fun z1 => k_X9_isHour_7 (fun c => absurd c sk_n10) (fun _ => c_X9_isIn (l := 0) (u := 30) (by decide) (by decide) (by decide) (by decide) (fun z2 => k_X9_isHour_17 (fun c => absurd c sk_n10) (fun _ => q1 z1 z2)) (fun z2 => k_X9_isHour_17 (fun _ => q0 (fun z => z2 z.2)) (fun c => absurd rfl c)))) (fun z1 => k_X9_isHour_7 (fun _ => q0 (fun z => z1 z.1)) (fun c => absurd rfl c))))
theorem c_X8_isOnMap {x y : Int32} (q1 : sk_rg x 0 200 → sk_rg y 0 200 → Q (some (.int 1)) (sk_h hi rr ex)) (q0 : ¬ (sk_rg x 0 200 ∧ sk_rg y 0 200) → Q (some (.int 0)) (sk_h hi rr ex)) : sk_Ct Γ m_X8_isOnMap [.int x, .int y] (sk_h hi rr ex) Q :=
  sk_Ct.of ok_X8_isOnMap.2.2.2 (Nat.le_of_ble_eq_true rfl) (k_X8_isOnMap_0 (c_X8_within (l := 0) (u := 200) (by decide) (by decide) (by decide) (by decide) (fun z1 => k_X8_isOnMap_8 (fun c => absurd c sk_n10) (fun _ => c_X8_within (l := 0) (u := 200) (by decide) (by decide) (by decide) (by decide) (fun z2 => k_X8_isOnMap_19 (fun c => absurd c sk_n10) (fun _ => q1 z1 z2)) (fun z2 => k_X8_isOnMap_19 (fun _ => q0 (fun z => z2 z.2)) (fun c => absurd rfl c)))) (fun z1 => k_X8_isOnMap_8 (fun _ => q0 (fun z => z1 z.1)) (fun c => absurd rfl c))))
theorem c_X9_isSpot {x y : Int32} (q1 : sk_rg x 0 200 → sk_rg y 0 200 → Q (some (.int 1)) (sk_h hi rr ex)) (q0 : ¬ (sk_rg x 0 200 ∧ sk_rg y 0 200) → Q (some (.int 0)) (sk_h hi rr ex)) : sk_Ct Γ m_X9_isSpot [.int x, .int y] (sk_h hi rr ex) Q :=
  sk_Ct.of ok_X9_isSpot.2.2.2 (Nat.le_of_ble_eq_true rfl) (k_X9_isSpot_0 (c_X9_isIn (l := 0) (u := 200) (by decide) (by decide) (by decide) (by decide) (fun z1 => k_X9_isSpot_8 (fun c => absurd c sk_n10) (fun _ => c_X9_isIn (l := 0) (u := 200) (by decide) (by decide) (by decide) (by decide) (fun z2 => k_X9_isSpot_19 (fun c => absurd c sk_n10) (fun _ => q1 z1 z2)) (fun z2 => k_X9_isSpot_19 (fun _ => q0 (fun z => z2 z.2)) (fun c => absurd rfl c)))) (fun z1 => k_X9_isSpot_8 (fun _ => q0 (fun z => z1 z.1)) (fun c => absurd rfl c))))
theorem c_X8_isPlace {x y z : Int32} (q1 : sk_rg x 0 3 → sk_rg y 0 23 → sk_rg z 0 31 → Q (some (.int 1)) (sk_h hi rr ex)) (q0 : ¬ (sk_rg x 0 3 ∧ sk_rg y 0 23 ∧ sk_rg z 0 31) → Q (some (.int 0)) (sk_h hi rr ex)) : sk_Ct Γ m_X8_isPlace [.int x, .int y, .int z] (sk_h hi rr ex) Q :=
  sk_Ct.of ok_X8_isPlace.2.2.2 (Nat.le_of_ble_eq_true rfl) (k_X8_isPlace_0 (c_X8_isTone (fun z1 z2 => k_X8_isPlace_5 (fun c => absurd c sk_n10) (fun _ => c_X8_within (l := 0) (u := 31) (by decide) (by decide) (by decide) (by decide) (fun z3 => k_X8_isPlace_15 (fun c => absurd c sk_n10) (fun _ => q1 z1 z2 z3)) (fun z3 => k_X8_isPlace_15 (fun _ => q0 (fun z => z3 z.2.2)) (fun c => absurd rfl c)))) (fun z1 => k_X8_isPlace_5 (fun _ => q0 (fun z => z1 ⟨z.1, z.2.1⟩)) (fun c => absurd rfl c))))
theorem c_X9_isPlace {x y z : Int32} (q1 : sk_rg x 0 3 → sk_rg y 0 23 → sk_rg z 0 31 → Q (some (.int 1)) (sk_h hi rr ex)) (q0 : ¬ (sk_rg x 0 3 ∧ sk_rg y 0 23 ∧ sk_rg z 0 31) → Q (some (.int 0)) (sk_h hi rr ex)) : sk_Ct Γ m_X9_isPlace [.int x, .int y, .int z] (sk_h hi rr ex) Q :=
  sk_Ct.of ok_X9_isPlace.2.2.2 (Nat.le_of_ble_eq_true rfl) (k_X9_isPlace_0 (c_X9_isBoard (fun z1 => k_X9_isPlace_4 (fun c => absurd c sk_n10) (fun _ => c_X9_isIn (l := 0) (u := 23) (by decide) (by decide) (by decide) (by decide) (fun z2 => k_X9_isPlace_14 (fun c => absurd c sk_n10) (fun _ => c_X9_isIn (l := 0) (u := 31) (by decide) (by decide) (by decide) (by decide) (fun z3 => k_X9_isPlace_24 (fun c => absurd c sk_n10) (fun _ => q1 z1 z2 z3)) (fun z3 => k_X9_isPlace_24 (fun _ => q0 (fun z => z3 z.2.2)) (fun c => absurd rfl c)))) (fun z2 => k_X9_isPlace_14 (fun _ => q0 (fun z => z2 z.2.1)) (fun c => absurd rfl c)))) (fun z1 => k_X9_isPlace_4 (fun _ => q0 (fun z => z1 z.1)) (fun c => absurd rfl c))))
end PRED
