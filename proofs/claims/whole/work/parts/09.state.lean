/-- half byte j of an int -/
def sk_nib (x : Int32) (j : Nat) : Nat := x.toBitVec.toNat / 16 ^ j % 16
theorem sk_nib_lt (x : Int32) (j : Nat) : sk_nib x j < 16 := Nat.mod_lt _ (by decide)
theorem sk_16 (j : Nat) : (16 : Nat) ^ j = 2 ^ (4 * j) := by
  rw [show (16 : Nat) = 2 ^ 4 from rfl, ← Nat.pow_mul]
theorem sk_nib_ushr (x : Int32) {j : Nat} (hj : j < 8) : (x.toUInt32 >>> ((nI (4 * j)).toUInt32 &&& Int32.toUInt32 31)).toInt32 &&& 15 = nI (sk_nib x j) := by
  have h : (((nI (4 * j)).toUInt32 &&& Int32.toUInt32 31).toBitVec % 32).toNat = 4 * j := by
    match j, hj with
    | 0, _ => decide
    | 1, _ => decide
    | 2, _ => decide
    | 3, _ => decide
    | 4, _ => decide
    | 5, _ => decide
    | 6, _ => decide
    | 7, _ => decide
    | n + 8, h => omega
  rw [pk_and _ 4 (by decide), pk_ushr x _ (4 * j) h, sk_nib, sk_16]
theorem sk_toInt_mod (x : Int32) : (x.toBitVec.toNat : Int) = x.toInt % 4294967296 := by
  have h : x.toInt = x.toBitVec.toInt := rfl
  rw [h, BitVec.toInt_eq_toNat_bmod]
  have hl := x.toBitVec.isLt
  rw [Int.bmod_def]
  split <;> omega
theorem sk_nib_shr (x : Int32) {j : Nat} (hj : j < 8) : (x >>> (nI (28 - 4 * j) &&& 31)) &&& 15 = nI (sk_nib x (7 - j)) := by
  have h : ((nI (28 - 4 * j) &&& 31).toBitVec.smod 32).toNat = 28 - 4 * j := by
    match j, hj with
    | 0, _ => decide
    | 1, _ => decide
    | 2, _ => decide
    | 3, _ => decide
    | 4, _ => decide
    | 5, _ => decide
    | 6, _ => decide
    | 7, _ => decide
    | n + 8, h => omega
  rw [pk_and _ 4 (by decide)]
  congr 1
  have h1 := pk_shr x (nI (28 - 4 * j) &&& 31) (28 - 4 * j) h
  have h2 := sk_toInt_mod (x >>> (nI (28 - 4 * j) &&& 31))
  have h3 := sk_toInt_mod x
  have hl := x.toBitVec.isLt
  rw [h1, Int.shiftRight_eq_div_pow] at h2
  unfold sk_nib
  generalize (x >>> (nI (28 - 4 * j) &&& 31)).toBitVec.toNat = y at h2 ⊢
  generalize x.toBitVec.toNat = n at h3 hl ⊢
  generalize x.toInt = z at h2 h3
  match j, hj with
  | 0, _ => simp at h2 ⊢; omega
  | 1, _ => simp at h2 ⊢; omega
  | 2, _ => simp at h2 ⊢; omega
  | 3, _ => simp at h2 ⊢; omega
  | 4, _ => simp at h2 ⊢; omega
  | 5, _ => simp at h2 ⊢; omega
  | 6, _ => simp at h2 ⊢; omega
  | 7, _ => simp at h2 ⊢; omega
  | m + 8, h => omega
theorem sk_nib_and (x y : Int32) (j : Nat) : sk_nib (x &&& y) j = sk_nib x j &&& sk_nib y j := by
  unfold sk_nib
  have e : (x &&& y).toBitVec.toNat = x.toBitVec.toNat &&& y.toBitVec.toNat := by
    rw [Int32.toBitVec_and, BitVec.toNat_and]
  rw [e, sk_16, ← Nat.shiftRight_eq_div_pow, ← Nat.shiftRight_eq_div_pow, ← Nat.shiftRight_eq_div_pow, Nat.shiftRight_and_distrib, show (16 : Nat) = 2 ^ 4 from rfl, Nat.and_mod_two_pow]
theorem sk_nib_or (x y : Int32) (j : Nat) : sk_nib (x ||| y) j = sk_nib x j ||| sk_nib y j := by
  unfold sk_nib
  have e : (x ||| y).toBitVec.toNat = x.toBitVec.toNat ||| y.toBitVec.toNat := by
    rw [Int32.toBitVec_or, BitVec.toNat_or]
  rw [e, sk_16, ← Nat.shiftRight_eq_div_pow, ← Nat.shiftRight_eq_div_pow, ← Nat.shiftRight_eq_div_pow, Nat.shiftRight_or_distrib, show (16 : Nat) = 2 ^ 4 from rfl, Nat.or_mod_two_pow]
/-- one half byte put in -/
theorem sk_nib_put (x : Int32) {j v : Nat} (hj : j < 8) (hv : v < 16) {i : Nat} (hi : i < 8) : sk_nib ((x &&& ((15 <<< (nI (4 * j) &&& 31)) ^^^ (-1))) ||| (nI v <<< (nI (4 * j) &&& 31))) i = if i = j then v else sk_nib x i := by
  rw [sk_nib_or, sk_nib_and]
  have hx := sk_nib_lt x i
  generalize sk_nib x i = d at hx ⊢
  have h1 : sk_nib ((15 <<< (nI (4 * j) &&& 31)) ^^^ (-1)) i = if i = j then 0 else 15 := by
    have key : ∀ j, j < 8 → ∀ i, i < 8 → sk_nib ((15 <<< (nI (4 * j) &&& 31)) ^^^ (-1)) i = if i = j then 0 else 15 := by decide +kernel
    exact key j hj i hi
  have h2 : sk_nib (nI v <<< (nI (4 * j) &&& 31)) i = if i = j then v else 0 := by
    have key : ∀ v, v < 16 → ∀ j, j < 8 → ∀ i, i < 8 → sk_nib (nI v <<< (nI (4 * j) &&& 31)) i = if i = j then v else 0 := by decide +kernel
    exact key v hv j hj i hi
  rw [h1, h2]
  split
  · rw [Nat.and_zero, Nat.zero_or]
  · rw [Nat.or_zero, show (15 : Nat) = 2 ^ 4 - 1 from rfl, Nat.and_two_pow_sub_one_eq_mod]
    exact Nat.mod_eq_of_lt hx
/-- the state: echoes; noise, its number, shift; the table; the stations -/
abbrev sk_S : Type := (Nat → Nat → Nat → Nat) × (Nat × Nat × Nat) × (Nat → Option (Nat × Nat)) × (Nat × (Nat → Nat) × (Nat → Nat) × (Nat → Nat))
/-- how many of the first n heights are noisy -/
def sk_cn (f : Nat → Nat) (ns : Nat) : Nat → Nat
  | 0 => 0
  | n + 1 => sk_cn f ns n + if ns ≤ f n then 1 else 0
theorem sk_cn_le (f : Nat → Nat) (ns : Nat) : ∀ n, sk_cn f ns n ≤ n
  | 0 => Nat.le_refl 0
  | n + 1 => by
    have ih := sk_cn_le f ns n
    unfold sk_cn
    split <;> omega
def sk_bar (S : sk_S) (b t : Nat) : Bool := decide (S.2.1.2.1 ≤ sk_cn (S.1 b t) S.2.1.1 32)
def sk_tc (o : Option (Nat × Nat)) : Int32 := match o with
  | none => -1
  | some q => nI (q.1 * 3 + q.2)
def sk_tv (o : Option (Nat × Nat)) : Int32 := match o with
  | none => -1
  | some q => nI q.1
def sk_tl (o : Option (Nat × Nat)) : Int32 := match o with
  | none => 0
  | some q => nI q.2
/-- the numbers are in their ranges -/
def sk_G (S : sk_S) : Prop := (∀ b t h, S.1 b t h ≤ 9) ∧ (1 ≤ S.2.1.1 ∧ S.2.1.1 ≤ 9) ∧ (1 ≤ S.2.1.2.1 ∧ S.2.1.2.1 ≤ 32) ∧ (1 ≤ S.2.1.2.2 ∧ S.2.1.2.2 ≤ 8) ∧ (∀ k q, S.2.2.1 k = some q → q.1 ≤ 999 ∧ q.2 ≤ 2) ∧ S.2.2.2.1 ≤ 4 ∧ ∀ i, i < S.2.2.2.1 → S.2.2.2.2.1 i ≤ 200 ∧ S.2.2.2.2.2.1 i ≤ 200 ∧ S.2.2.2.2.2.2 i ≤ 999
/-- echoes, as the class has them -/
def sk_CE (f : Nat → Int32) (e : Nat → Nat → Nat → Nat) : Prop := ∀ b, b < 4 → ∀ t, t < 24 → ∀ h, h < 32 → sk_nib (f ((b * 24 + t) * 4 + h / 8)) (7 - h % 8) = e b t h
/-- one barred row -/
def sk_bb (x : Int32) (p : Nat → Bool) : Prop := ∃ m : Nat, m < 2 ^ 24 ∧ x = nI m ∧ ∀ t, t < 24 → m.testBit t = p t
def sk_CT (f : Nat → Int32) (tab : Nat → Option (Nat × Nat)) : Prop := ∀ k, k < 744 → f k = sk_tc (tab k)
def sk_CS (size : Int32) (fx fy fv : Nat → Int32) (z : Nat × (Nat → Nat) × (Nat → Nat) × (Nat → Nat)) : Prop := size = nI z.1 ∧ ∀ i, i < z.1 → fx i = nI (z.2.1 i) ∧ fy i = nI (z.2.2.1 i) ∧ fv i = nI (z.2.2.2 i)
/-- the class's sky, by the places of boards, eights, barred, cells, stations, xs, ys, values -/
def sk_C (hi : Nat → Nat → Int32) (bo ei ba ce sa px py pv : Nat) (S : sk_S) : Prop := sk_CE (hi ei) S.1 ∧ (hi bo 2 = nI S.2.1.1 ∧ hi bo 3 = nI S.2.1.2.1 ∧ hi bo 4 = nI S.2.1.2.2) ∧ (∀ b, b < 4 → sk_bb (hi ba b) (sk_bar S b)) ∧ sk_CT (hi ce) S.2.2.1 ∧ sk_CS (hi sa 3) (hi px) (hi py) (hi pv) S.2.2.2
/-- the reference's row, from off on -/
def sk_R (f : Nat → Int32) (off : Nat) (S : sk_S) : Prop := (∀ b, b < 4 → ∀ t, t < 24 → ∀ h, h < 32 → f (off + 1520 + ((b * 24 + t) * 32 + h)) = nI (S.1 b t h)) ∧ (f off = nI S.2.1.1 ∧ f (off + 1) = nI S.2.1.2.1 ∧ f (off + 2) = nI S.2.1.2.2) ∧ (∀ k, k < 744 → f (off + 20 + 2 * k) = sk_tv (S.2.2.1 k) ∧ f (off + 20 + (2 * k + 1)) = sk_tl (S.2.2.1 k)) ∧ f (off + 3) = nI S.2.2.2.1 ∧ ∀ i, i < S.2.2.2.1 → f (off + 4 + 3 * i) = nI (S.2.2.2.2.1 i) ∧ f (off + 4 + (3 * i + 1)) = nI (S.2.2.2.2.2.1 i) ∧ f (off + 4 + (3 * i + 2)) = nI (S.2.2.2.2.2.2 i)
