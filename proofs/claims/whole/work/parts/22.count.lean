theorem sk_and32 (a b : Nat) : nI a &&& nI b = nI (a &&& b) := by
  apply Int32.toBitVec_inj.mp
  rw [Int32.toBitVec_and]
  show BitVec.ofNat 32 a &&& BitVec.ofNat 32 b = BitVec.ofNat 32 (a &&& b)
  exact (BitVec.ofNat_and ..).symm
theorem sk_ush {n : Nat} (hn : n < 2 ^ 32) (s k : Nat) (hs : (((nI s).toUInt32 &&& Int32.toUInt32 31).toBitVec % 32).toNat = k) : ((nI n).toUInt32 >>> ((nI s).toUInt32 &&& Int32.toUInt32 31)).toInt32 = nI (n / 2 ^ k) := pk_ushrN hn (nI s) k hs
/-- and, by bytes -/
theorem sk_and_b (a b r s : Nat) (hr : r < 256) (hs : s < 256) : (256 * a + r) &&& (256 * b + s) = 256 * (a &&& b) + (r &&& s) := by
  have h1 : r &&& s < 2 ^ 8 := Nat.lt_of_le_of_lt Nat.and_le_left hr
  apply Nat.eq_of_testBit_eq
  intro i
  rw [Nat.testBit_and, show (256 : Nat) = 2 ^ 8 from rfl, Nat.testBit_two_pow_mul_add _ hr, Nat.testBit_two_pow_mul_add _ hs, Nat.testBit_two_pow_mul_add _ h1]
  split
  · rw [Nat.testBit_and]
  · rw [Nat.testBit_and]
theorem sk_and_3 (a b c r s t : Nat) (ha : a < 256) (hb : b < 256) (hc : c < 256) (hr : r < 256) (hs : s < 256) (ht : t < 256) (m : Nat) : (a + 256 * b + 65536 * c) &&& (r + 256 * s + 65536 * t + 16777216 * m) = (a &&& r) + 256 * (b &&& s) + 65536 * (c &&& t) := by
  have e1 : a + 256 * b + 65536 * c = 256 * (256 * (256 * 0 + c) + b) + a := by omega
  have e2 : r + 256 * s + 65536 * t + 16777216 * m = 256 * (256 * (256 * m + t) + s) + r := by omega
  rw [e1, e2, sk_and_b _ _ _ _ ha hr, sk_and_b _ _ _ _ hb hs, sk_and_b _ _ _ _ hc ht, Nat.zero_and]
  omega
def sk_b1 (a : Nat) : Nat := a - (a / 2 &&& 85)
def sk_b2 (a : Nat) : Nat := (a &&& 51) + (a / 4 &&& 51)
def sk_b3 (a : Nat) : Nat := (a + a / 16) &&& 15
theorem sk_bytes : ∀ a, a < 256 → (∀ e, e < 2 → ((128 * e + a / 2) &&& 85) = (a / 2 &&& 85)) ∧ (a / 2 &&& 85) ≤ a ∧ (∀ e, e < 4 → (64 * e + sk_b1 a / 4) &&& 51 = (sk_b1 a / 4 &&& 51)) ∧ sk_b1 a < 256 ∧ (sk_b2 (sk_b1 a) < 69 ∧ sk_b2 (sk_b1 a) % 16 ≤ 4) ∧ (∀ e, e < 16 → (sk_b2 (sk_b1 a) + sk_b2 (sk_b1 a) / 16 + 16 * e) &&& 15 = sk_b3 (sk_b2 (sk_b1 a))) ∧ sk_b3 (sk_b2 (sk_b1 a)) = sk_ct (fun i => a.testBit i) 8 := by decide +kernel
def sk_bc (x0 : Int32) : Int32 :=
  let i1 := x0 - ((x0.toUInt32 >>> (Int32.toUInt32 1 &&& Int32.toUInt32 31)).toInt32 &&& 1431655765)
  let i2 := (i1 &&& 858993459) + ((i1.toUInt32 >>> (Int32.toUInt32 2 &&& Int32.toUInt32 31)).toInt32 &&& 858993459)
  let i3 := (i2 + (i2.toUInt32 >>> (Int32.toUInt32 4 &&& Int32.toUInt32 31)).toInt32) &&& 252645135
  let i4 := i3 + (i3.toUInt32 >>> (Int32.toUInt32 8 &&& Int32.toUInt32 31)).toInt32
  let i5 := i4 + (i4.toUInt32 >>> (Int32.toUInt32 16 &&& Int32.toUInt32 31)).toInt32
  i5 &&& 63
theorem sk_ct_split (p : Nat → Bool) (m : Nat) : ∀ n, sk_ct p (m + n) = sk_ct p m + sk_ct (fun k => p (m + k)) n
  | 0 => rfl
  | n + 1 => by
    have h := sk_ct_split p m n
    show sk_ct p (m + n) + (if p (m + n) = true then 1 else 0) = sk_ct p m + (sk_ct (fun k => p (m + k)) n + (if p (m + n) = true then 1 else 0))
    rw [h, Nat.add_assoc]
theorem sk_bc_ok (m : Nat) (hm : m < 2 ^ 24) : sk_bc (nI m) = nI (sk_ct (fun i => m.testBit i) 24) := by
  obtain ⟨a, b, c, ha, hb, hc, rfl⟩ : ∃ a b c, a < 256 ∧ b < 256 ∧ c < 256 ∧ m = a + 256 * b + 65536 * c := ⟨m % 256, m / 256 % 256, m / 65536, by omega, by omega, by omega, by omega⟩
  obtain ⟨A1, A2, A3, A4, A5, A6, A7⟩ := sk_bytes a ha
  obtain ⟨B1, B2, B3, B4, B5, B6, B7⟩ := sk_bytes b hb
  obtain ⟨C1, C2, C3, C4, C5, C6, C7⟩ := sk_bytes c hc
  have s1 : nI (a + 256 * b + 65536 * c) - (((nI (a + 256 * b + 65536 * c)).toUInt32 >>> (Int32.toUInt32 1 &&& Int32.toUInt32 31)).toInt32 &&& 1431655765) = nI (sk_b1 a + 256 * sk_b1 b + 65536 * sk_b1 c) := by
    have h1 := sk_ush (n := a + 256 * b + 65536 * c) (by omega) 1 1 (by decide)
    rw [show (Int32.toUInt32 1) = (nI 1).toUInt32 from rfl, h1, show (1431655765 : Int32) = nI 1431655765 from rfl, sk_and32]
    have e : (a + 256 * b + 65536 * c) / 2 ^ 1 = (128 * (b % 2) + a / 2) + 256 * (128 * (c % 2) + b / 2) + 65536 * (c / 2) := by omega
    rw [e, show (1431655765 : Nat) = 85 + 256 * 85 + 65536 * 85 + 16777216 * 85 from rfl, sk_and_3 _ _ _ _ _ _ (by omega) (by omega) (by omega) (by decide) (by decide) (by decide), A1 _ (by omega), B1 _ (by omega), pk_sub (by omega)]
    congr 1
    unfold sk_b1
    omega
  have s2 : (nI (sk_b1 a + 256 * sk_b1 b + 65536 * sk_b1 c) &&& 858993459) + (((nI (sk_b1 a + 256 * sk_b1 b + 65536 * sk_b1 c)).toUInt32 >>> (Int32.toUInt32 2 &&& Int32.toUInt32 31)).toInt32 &&& 858993459) = nI (sk_b2 (sk_b1 a) + 256 * sk_b2 (sk_b1 b) + 65536 * sk_b2 (sk_b1 c)) := by
    have h1 := sk_ush (n := sk_b1 a + 256 * sk_b1 b + 65536 * sk_b1 c) (by omega) 2 2 (by decide)
    rw [show (Int32.toUInt32 2) = (nI 2).toUInt32 from rfl, h1, show (858993459 : Int32) = nI 858993459 from rfl, sk_and32, sk_and32]
    have e : (sk_b1 a + 256 * sk_b1 b + 65536 * sk_b1 c) / 2 ^ 2 = (64 * (sk_b1 b % 4) + sk_b1 a / 4) + 256 * (64 * (sk_b1 c % 4) + sk_b1 b / 4) + 65536 * (sk_b1 c / 4) := by omega
    rw [e, show (858993459 : Nat) = 51 + 256 * 51 + 65536 * 51 + 16777216 * 51 from rfl, sk_and_3 _ _ _ _ _ _ (by omega) (by omega) (by omega) (by decide) (by decide) (by decide), sk_and_3 _ _ _ _ _ _ (by omega) (by omega) (by omega) (by decide) (by decide) (by decide), A3 _ (by omega), B3 _ (by omega), nI_add]
    congr 1
    unfold sk_b2
    omega
  have s3 : (nI (sk_b2 (sk_b1 a) + 256 * sk_b2 (sk_b1 b) + 65536 * sk_b2 (sk_b1 c)) + ((nI (sk_b2 (sk_b1 a) + 256 * sk_b2 (sk_b1 b) + 65536 * sk_b2 (sk_b1 c))).toUInt32 >>> (Int32.toUInt32 4 &&& Int32.toUInt32 31)).toInt32) &&& 252645135 = nI (sk_b3 (sk_b2 (sk_b1 a)) + 256 * sk_b3 (sk_b2 (sk_b1 b)) + 65536 * sk_b3 (sk_b2 (sk_b1 c))) := by
    have h1 := sk_ush (n := sk_b2 (sk_b1 a) + 256 * sk_b2 (sk_b1 b) + 65536 * sk_b2 (sk_b1 c)) (by omega) 4 4 (by decide)
    rw [show (Int32.toUInt32 4) = (nI 4).toUInt32 from rfl, h1, nI_add, show (252645135 : Int32) = nI 252645135 from rfl, sk_and32]
    have e : sk_b2 (sk_b1 a) + 256 * sk_b2 (sk_b1 b) + 65536 * sk_b2 (sk_b1 c) + (sk_b2 (sk_b1 a) + 256 * sk_b2 (sk_b1 b) + 65536 * sk_b2 (sk_b1 c)) / 2 ^ 4 = (sk_b2 (sk_b1 a) + sk_b2 (sk_b1 a) / 16 + 16 * (sk_b2 (sk_b1 b) % 16)) + 256 * (sk_b2 (sk_b1 b) + sk_b2 (sk_b1 b) / 16 + 16 * (sk_b2 (sk_b1 c) % 16)) + 65536 * (sk_b2 (sk_b1 c) + sk_b2 (sk_b1 c) / 16 + 16 * 0) := by omega
    rw [e, show (252645135 : Nat) = 15 + 256 * 15 + 65536 * 15 + 16777216 * 15 from rfl, sk_and_3 _ _ _ _ _ _ (by omega) (by omega) (by omega) (by decide) (by decide) (by decide), A6 _ (by omega), B6 _ (by omega), C6 _ (by omega)]
  have f8 : ∀ p : Nat → Bool, sk_ct p 8 ≤ 8 := fun p => sk_ct_le p 8
  have g1 := f8 (fun i => a.testBit i)
  have g2 := f8 (fun i => b.testBit i)
  have g3 := f8 (fun i => c.testBit i)
  have tot : sk_ct (fun i => (a + 256 * b + 65536 * c).testBit i) 24 = sk_ct (fun i => a.testBit i) 8 + sk_ct (fun i => b.testBit i) 8 + sk_ct (fun i => c.testBit i) 8 := by
    have e : a + 256 * b + 65536 * c = 2 ^ 8 * (2 ^ 8 * c + b) + a := by omega
    rw [e, show (24 : Nat) = 8 + (8 + 8) from rfl, sk_ct_split, sk_ct_split]
    rw [Nat.add_assoc]
    congr 1
    · exact sk_ct_cong (fun i hi => by rw [Nat.testBit_two_pow_mul_add _ ha, if_pos hi])
    · congr 1
      · exact sk_ct_cong (fun i hi => by rw [Nat.testBit_two_pow_mul_add _ ha, if_neg (by omega), Nat.testBit_two_pow_mul_add _ hb, if_pos (by omega)]; congr 1; omega)
      · exact sk_ct_cong (fun i hi => by rw [Nat.testBit_two_pow_mul_add _ ha, if_neg (by omega), Nat.testBit_two_pow_mul_add _ hb, if_neg (by omega)]; congr 1; omega)
  unfold sk_bc
  simp only []
  rw [s1, s2, s3, A7, B7, C7, tot]
  generalize sk_ct (fun i => a.testBit i) 8 = u at g1 ⊢
  generalize sk_ct (fun i => b.testBit i) 8 = v at g2 ⊢
  generalize sk_ct (fun i => c.testBit i) 8 = w at g3 ⊢
  have h1 := sk_ush (n := u + 256 * v + 65536 * w) (by omega) 8 8 (by decide)
  rw [show (Int32.toUInt32 8) = (nI 8).toUInt32 from rfl, h1, nI_add]
  have h2 := sk_ush (n := u + 256 * v + 65536 * w + (u + 256 * v + 65536 * w) / 2 ^ 8) (by omega) 16 16 (by decide)
  rw [show (Int32.toUInt32 16) = (nI 16).toUInt32 from rfl, h2, nI_add, pk_andN (by omega) 6 (by decide)]
  congr 1
  clear h1 h2 s1 s2 s3 tot f8 A1 A2 A3 A4 A5 A6 A7 B1 B2 B3 B4 B5 B6 B7 C1 C2 C3 C4 C5 C6 C7 hm
  have k1 : (u + 256 * v + 65536 * w) / 2 ^ 8 = v + 256 * w := by omega
  rw [k1]
  have k2 : (u + 256 * v + 65536 * w + (v + 256 * w)) / 2 ^ 16 = w := by omega
  rw [k2]
  omega
noncomputable def vl_count (S : sk_S) (x1 : Int32) : Int32 :=
  if x1 = 0 then nI S.2.2.2.1 else if x1 = 1 then nI S.2.1.1 else if x1 = 2 then nI S.2.1.2.1 else if x1 = 3 then nI S.2.1.2.2
  else if x1 = 4 then nI (sk_sm (fun h => sk_ct (sk_pr S.2.2.1 h) 31) 24) else if x1 = 5 then nI (sk_sm (fun h => sk_ct (sk_lt S.2.2.1 h) 31) 24)
  else if x1 = 10 then nI (sk_ct (sk_bar S 0) 24) else if x1 = 11 then nI (sk_ct (sk_bar S 1) 24) else if x1 = 12 then nI (sk_ct (sk_bar S 2) 24) else if x1 = 13 then nI (sk_ct (sk_bar S 3) 24) else -1
theorem vl_count_out {S : sk_S} {x : Int32} (c : x.toInt < 0 ∨ 13 < x.toInt) : vl_count S x = -1 := by
  unfold vl_count
  rw [if_neg (show ¬ x = 0 from sk_out (u := 13) (by decide) c (j := 0) (by decide)), if_neg (show ¬ x = 1 from sk_out (u := 13) (by decide) c (j := 1) (by decide)), if_neg (show ¬ x = 2 from sk_out (u := 13) (by decide) c (j := 2) (by decide)), if_neg (show ¬ x = 3 from sk_out (u := 13) (by decide) c (j := 3) (by decide)), if_neg (show ¬ x = 4 from sk_out (u := 13) (by decide) c (j := 4) (by decide)), if_neg (show ¬ x = 5 from sk_out (u := 13) (by decide) c (j := 5) (by decide)), if_neg (show ¬ x = 10 from sk_out (u := 13) (by decide) c (j := 10) (by decide)), if_neg (show ¬ x = 11 from sk_out (u := 13) (by decide) c (j := 11) (by decide)), if_neg (show ¬ x = 12 from sk_out (u := 13) (by decide) c (j := 12) (by decide)), if_neg (show ¬ x = 13 from sk_out (u := 13) (by decide) c (j := 13) (by decide))]
section COUNT
variable {Γ : sk_Cx} {Q : Option Value → sk_Hp → Prop} {rr : Nat → Nat → Option Nat} {ex : List (Nat × Nat)} {hi : Nat → Nat → Int32} {S : sk_S}
theorem c_bitCount {x : Int32} (q : Q (some (.int (sk_bc x))) (sk_h hi rr ex)) : sk_Ct Γ m_J6_bitCount_0f7a4 [.int x] (sk_h hi rr ex) Q :=
  sk_Ct.of ok_J6_bitCount_0f7a4.2.2.2 (Nat.le_of_ble_eq_true rfl) (k_J6_bitCount_0f7a4_0 q)
theorem c_barredTones {b : Nat} (hC : sk_Cn hi S) (hb : b < 4) (q : Q (some (.int (nI (sk_ct (sk_bar S b) 24)))) (sk_h hi rr ex)) : sk_Ct Γ m_X0_barredTones [.ref 2, .int (nI b)] (sk_h hi rr ex) Q := by
  obtain ⟨m, a1, a2, a3⟩ := hC.2.2.1 b hb
  refine sk_Ct.of ok_X0_barredTones.2.2.2 (Nat.le_of_ble_eq_true rfl) (k_X0_barredTones_0 (vp_in_nI hb (by decide)) ?_)
  rw [nI_clamp (by omega), a2]
  refine c_bitCount (k_X0_barredTones_9 ?_)
  rw [sk_bc_ok m a1, sk_ct_cong (p' := sk_bar S b) a3]
  exact q
theorem cx_count {x1 : Int32} (hG : sk_G S) (hC : sk_Cn hi S) (q : Q (some (.int (vl_count S x1))) (sk_h hi rr ex)) : sk_Ct Γ m_X8_count [.ref 0, .int x1] (sk_h hi rr ex) Q := by
  refine sk_Ct.of ok_X8_count.2.2.2 (Nat.le_of_ble_eq_true rfl) (k_X8_count_0 (fun c => by rw [vl_count_out c] at q; exact q) (fun c => ?_) (fun c => ?_) (fun c => ?_) (fun c => ?_) (fun c => ?_) (fun c => ?_) (fun c => ?_) (fun c => ?_) (fun c => ?_) (fun c => ?_) (fun c => ?_) (fun c => ?_) (fun c => ?_) (fun c => ?_)) <;> subst c
  · rw [hC.2.2.2.2.1]; exact q
  · rw [hC.2.1.1]; exact q
  · rw [hC.2.1.2.1]; exact q
  · rw [hC.2.1.2.2]; exact q
  · exact c_present (q0 := hG) hC (k_X8_count_126 q)
  · exact c_lettered (q0 := hG) hC (k_X8_count_137 q)
  · exact q
  · exact q
  · exact q
  · exact q
  · exact c_barredTones (b := 0) hC (by decide) (k_X8_count_152 q)
  · exact c_barredTones (b := 1) hC (by decide) (k_X8_count_152 q)
  · exact c_barredTones (b := 2) hC (by decide) (k_X8_count_152 q)
  · exact c_barredTones (b := 3) hC (by decide) (k_X8_count_152 q)
theorem c_rcnt {b : Nat} {x1 x2 x3 : Int32} (hG : sk_G S) (hR : sk_R0 hi S) (hb : b < 4) (hx : x1 - 10 = nI b) (q : Q (some (.int (nI (sk_ct (sk_bar S b) 24)))) (sk_h hi rr ex)) : sk_Go Γ (sk_M Γ m_X9_count Q) (0, 0) 194 [some (.ref 20), some (.int x1), some (.int x2), some (.int x3), some (.int 0), some (.int 0)] [] (sk_h hi rr ex) := by
  have loop : ∀ n t, t + n = 24 → sk_Go Γ (sk_M Γ m_X9_count Q) (0, 0) 194 [some (.ref 20), some (.int x1), some (.int x2), some (.int x3), some (.int (nI (sk_ct (sk_bar S b) t))), some (.int (nI t))] [] (sk_h hi rr ex) := by
    intro n
    induction n with
    | zero =>
      intro t ht
      have e : t = 24 := by omega
      subst e
      exact k_X9_count_194 (fun _ => q) (fun c => absurd (nI_le (a := 24) (Nat.le_refl 24) (by decide)) c)
    | succ n ih =>
      intro t ht
      have hn : ¬ (24 : Int32) ≤ nI t := nI_ge (b := 24) (by omega) (by decide)
      have := ih (t + 1) (by omega)
      rw [sk_ct_s] at this
      refine k_X9_count_194 (fun c => absurd c hn) (fun _ => ?_)
      rw [hx]
      refine c_rBarred hG hR hb (by omega) (fun p => k_X9_count_213 (fun c => absurd c sk_n10) (fun _ => ?_)) (fun p => k_X9_count_213 (fun _ => ?_) (fun c => absurd rfl c))
      · rw [if_pos p] at this
        rw [nI_1, nI_1]
        exact this
      · rw [if_neg (by rw [p]; decide), Nat.add_zero] at this
        rw [show (0 : Int32) = nI 0 from rfl, nI_add, Nat.add_zero, nI_1]
        exact this
  exact loop 24 0 (by omega)
theorem cm_count {x1 : Int32} (hG : sk_G S) (hR : sk_R0 hi S) (q : Q (some (.int (vl_count S x1))) (sk_h hi rr ex)) : sk_Ct Γ m_X9_count [.ref 20, .int x1] (sk_h hi rr ex) Q := by
  refine sk_Ct.of ok_X9_count.2.2.2 (Nat.le_of_ble_eq_true rfl) (k_X9_count_0 ?_)
  obtain ⟨p0, p1, p2⟩ := sk_R0_p hR
  obtain ⟨s1, s2⟩ := sk_R0_s hR
  have fin : sk_Go Γ (sk_M Γ m_X9_count Q) (0, 0) 7 [some (.ref 20), some (.int x1), some (.int (nI (sk_sm (fun h => sk_ct (sk_pr S.2.2.1 h) 31) 24))), some (.int (nI (sk_sm (fun h => sk_ct (sk_lt S.2.2.1 h) 31) 24))), some (.int (nI 24)), none] [] (sk_h hi rr ex) := by
    refine k_X9_count_7 (fun _ c => by rw [vl_count_out c] at q; exact q) (fun _ c => ?_) (fun _ c => ?_) (fun _ c => ?_) (fun _ c => ?_) (fun _ c => ?_) (fun _ c => ?_) (fun _ c => ?_) (fun _ c => ?_) (fun _ c => ?_) (fun _ c => ?_) (fun _ c => ?_) (fun _ c => ?_) (fun _ c => ?_) (fun _ c => ?_) (fun c => absurd (nI_le (a := 24) (Nat.le_refl 24) (by decide)) c) <;> subst c
    · rw [s1]; exact q
    · rw [p0]; exact q
    · rw [p1]; exact q
    · rw [p2]; exact q
    · exact q
    · exact q
    · exact q
    · exact q
    · exact q
    · exact q
    · exact c_rcnt (b := 0) hG hR (by decide) (by decide) q
    · exact c_rcnt (b := 1) hG hR (by decide) (by decide) q
    · exact c_rcnt (b := 2) hG hR (by decide) (by decide) q
    · exact c_rcnt (b := 3) hG hR (by decide) (by decide) q
  have outer : ∀ n h, h + n = 24 → sk_Go Γ (sk_M Γ m_X9_count Q) (0, 0) 7 [some (.ref 20), some (.int x1), some (.int (nI (sk_sm (fun h => sk_ct (sk_pr S.2.2.1 h) 31) h))), some (.int (nI (sk_sm (fun h => sk_ct (sk_lt S.2.2.1 h) 31) h))), some (.int (nI h)), none] [] (sk_h hi rr ex) := by
    intro n
    induction n with
    | zero =>
      intro h hh
      have e : h = 24 := by omega
      subst e
      exact fin
    | succ n ih =>
      intro h hh
      have hn : ¬ (24 : Int32) ≤ nI h := nI_ge (b := 24) (by omega) (by decide)
      refine k_X9_count_7 (fun c => absurd c hn) (fun c => absurd c hn) (fun c => absurd c hn) (fun c => absurd c hn) (fun c => absurd c hn) (fun c => absurd c hn) (fun c => absurd c hn) (fun c => absurd c hn) (fun c => absurd c hn) (fun c => absurd c hn) (fun c => absurd c hn) (fun c => absurd c hn) (fun c => absurd c hn) (fun c => absurd c hn) (fun c => absurd c hn) (fun _ => c_rpresent hG hR (by omega) (k_X9_count_21 ?_))
      rw [nI_add]
      have inner : ∀ k d, d + k = 31 → sk_Go Γ (sk_M Γ m_X9_count Q) (0, 0) 26 [some (.ref 20), some (.int x1), some (.int (nI (sk_sm (fun h => sk_ct (sk_pr S.2.2.1 h) 31) h + sk_ct (sk_pr S.2.2.1 h) 31))), some (.int (nI (sk_sm (fun h => sk_ct (sk_lt S.2.2.1 h) 31) h + sk_ct (sk_lt S.2.2.1 h) d))), some (.int (nI h)), some (.int (nI d))] [] (sk_h hi rr ex) := by
        intro k
        induction k with
        | zero =>
          intro d hd
          have e : d = 31 := by omega
          subst e
          refine k_X9_count_26 (fun _ => ?_) (fun c => absurd (nI_le (a := 31) (Nat.le_refl 31) (by decide)) c)
          rw [nI_1]
          exact ih (h + 1) (by omega)
        | succ k ihk =>
          intro d hd
          have hn2 : ¬ (31 : Int32) ≤ nI d := nI_ge (b := 31) (by omega) (by decide)
          have := ihk (d + 1) (by omega)
          rw [sk_ct_s (sk_lt S.2.2.1 h) d] at this
          obtain ⟨t1, t2⟩ := sk_R0_t hR (k := h * 31 + d) (by omega)
          have tn := sk_tv_neg (hG.2.2.2.2.1 (h * 31 + d))
          refine k_X9_count_26 (fun c => absurd c hn2) (fun _ => c_cell (k_X9_count_45 (vp_in_nI (by omega) (by decide)) (fun c => ?_) (fun c => c_cell (k_X9_count_60 (by rw [nI_1]; exact vp_in_nI (by omega) (by decide)) (fun c2 => ?_) (fun c2 => ?_)))))
          · rw [nI_clamp (by omega), t1, tn] at c
            rw [if_neg (by simp [sk_lt, c]), Nat.add_zero] at this
            rw [show (0 : Int32) = nI 0 from rfl, nI_add, Nat.add_zero, nI_1]
            exact this
          · rw [nI_clamp (by omega), t1, tn] at c
            rw [nI_1, nI_clamp (by omega), t2] at c2
            cases ho : S.2.2.1 (h * 31 + d) with
            | none => exact absurd ho c
            | some p =>
              rw [ho] at c2
              have g := hG.2.2.2.2.1 _ p ho
              have c3 : p.2 = 0 := by
                have := (nI_leI (a := p.2) (b := 0) (by omega) (by decide)).mp c2
                omega
              rw [if_neg (by simp [sk_lt, ho, c3]), Nat.add_zero] at this
              rw [show (0 : Int32) = nI 0 from rfl, nI_add, Nat.add_zero, nI_1]
              exact this
          · rw [nI_clamp (by omega), t1, tn] at c
            rw [nI_1, nI_clamp (by omega), t2] at c2
            cases ho : S.2.2.1 (h * 31 + d) with
            | none => exact absurd ho c
            | some p =>
              rw [ho] at c2
              have g := hG.2.2.2.2.1 _ p ho
              have c3 : ¬ p.2 = 0 := fun w => c2 (by show nI p.2 ≤ 0; rw [w]; decide)
              rw [if_pos (by simp [sk_lt, ho, c3])] at this
              rw [nI_1, nI_1]
              exact this
      exact inner 31 0 (by omega)
  exact outer 24 0 (by omega)
end COUNT
