theorem sk_row (b t p : Nat) : (nI b * 24 + nI t) * 4 + nI p = nI ((b * 24 + t) * 4 + p) := by
  rw [show (24 : Int32) = nI 24 from rfl, show (4 : Int32) = nI 4 from rfl, pk_mul, nI_add, pk_mul, nI_add]
theorem sk_bits {h : Nat} (hh : h < 32) : 4 * (7 - (nI h - nI h / 8 * 8)) = nI (4 * (7 - h % 8)) := by
  rw [show (8 : Int32) = nI 8 from rfl, pk_rem (by omega) (by decide) (by decide), show (7 : Int32) = nI 7 from rfl, pk_sub (by omega), show (4 : Int32) = nI 4 from rfl, pk_mul]
theorem sk_nat (x : Int32) : nI x.toBitVec.toNat = x := by
  apply Int32.toBitVec_inj.mp
  show BitVec.ofNat 32 x.toBitVec.toNat = x.toBitVec
  exact BitVec.ofNat_toNat _ _ |>.trans (BitVec.setWidth_eq _)
theorem sk_lt32 {a b : Nat} (ha : a < 2 ^ 31) (hb : b < 2 ^ 31) : nI a < nI b ↔ a < b := nI_ltI ha hb
theorem sk_wi_self (hi : Nat → Nat → Int32) (k j : Nat) (v : Int32) : sk_wi hi k j v k j = v := by simp [sk_wi, upd]
theorem sk_wi_ne (hi : Nat → Nat → Int32) {k j i : Nat} (v : Int32) (h : i ≠ j) : sk_wi hi k j v k i = hi k i := by simp [sk_wi, upd, h]
theorem sk_wi_o (hi : Nat → Nat → Int32) {k a : Nat} (j : Nat) (v : Int32) (h : a ≠ k) : sk_wi hi k j v a = hi a := by simp [sk_wi, h]
theorem sk_bit_or (m : Nat) (hm : m < 2 ^ 24) {t : Nat} (ht : t < 24) : ∃ m' : Nat, m' < 2 ^ 24 ∧ nI m ||| (1 <<< (nI t &&& 31)) = nI m' ∧ ∀ j, j < 24 → m'.testBit j = (m.testBit j || decide (j = t)) := by
  have key : ∀ t, t < 24 → (1 <<< (nI t &&& 31) : Int32).toBitVec.toNat < 2 ^ 24 ∧ ∀ j, j < 24 → (1 <<< (nI t &&& 31) : Int32).toBitVec.toNat.testBit j = decide (j = t) := by decide +kernel
  obtain ⟨k1, k2⟩ := key t ht
  have e : (nI m ||| (1 <<< (nI t &&& 31))).toBitVec.toNat = m ||| (1 <<< (nI t &&& 31) : Int32).toBitVec.toNat := by
    rw [Int32.toBitVec_or, BitVec.toNat_or, pk_tn (by omega)]
  refine ⟨_, ?_, (sk_nat _).symm, fun j hj => ?_⟩
  · rw [e]; exact Nat.or_lt_two_pow hm k1
  · rw [e, Nat.testBit_or, k2 j hj]
theorem sk_bit_clr (m : Nat) (hm : m < 2 ^ 24) {t : Nat} (ht : t < 24) : ∃ m' : Nat, m' < 2 ^ 24 ∧ nI m &&& ((1 <<< (nI t &&& 31)) ^^^ (-1)) = nI m' ∧ ∀ j, j < 24 → m'.testBit j = (m.testBit j && !decide (j = t)) := by
  have key : ∀ t, t < 24 → ∀ j, j < 24 → ((1 <<< (nI t &&& 31)) ^^^ (-1) : Int32).toBitVec.toNat.testBit j = !decide (j = t) := by decide +kernel
  have e : (nI m &&& ((1 <<< (nI t &&& 31)) ^^^ (-1))).toBitVec.toNat = m &&& ((1 <<< (nI t &&& 31)) ^^^ (-1) : Int32).toBitVec.toNat := by
    rw [Int32.toBitVec_and, BitVec.toNat_and, pk_tn (by omega)]
  refine ⟨_, ?_, (sk_nat _).symm, fun j hj => ?_⟩
  · rw [e]; exact Nat.lt_of_le_of_lt Nat.and_le_left hm
  · rw [e, Nat.testBit_and, key t ht j hj]
theorem sk_bit_get (m : Nat) (hm : m < 2 ^ 24) {t : Nat} (ht : t < 24) : (((Int32.toUInt32 (nI m) >>> (Int32.toUInt32 (nI t) &&& Int32.toUInt32 31)).toInt32) &&& 1) = (1 : Int32) ↔ m.testBit t = true := by
  have key : ∀ t, t < 24 → (((nI t).toUInt32 &&& Int32.toUInt32 31).toBitVec % 32).toNat = t := by decide +kernel
  rw [pk_and _ 1 (by decide), pk_ushr _ _ t (key t ht), pk_tn (by omega), Nat.testBit_eq_decide_div_mod_eq]
  rw [show (1 : Int32) = nI 1 from rfl, nI_eq (by omega) (by decide)]
  simp
section BOARDS
variable {Γ : sk_Cx} {Q : Option Value → sk_Hp → Prop} {rr : Nat → Nat → Option Nat} {ex : List (Nat × Nat)} {hi : Nat → Nat → Int32}
theorem c_rowOf {b t p : Nat} (q : Q (some (.int (nI ((b * 24 + t) * 4 + p)))) (sk_h hi rr ex)) : sk_Ct Γ m_X0_rowOf [.int (nI b), .int (nI t), .int (nI p)] (sk_h hi rr ex) Q :=
  sk_Ct.of ok_X0_rowOf.2.2.2 (Nat.le_of_ble_eq_true rfl) (k_X0_rowOf_0 (by rw [sk_row]; exact q))
theorem c_bits {h : Nat} (hh : h < 32) (q : Q (some (.int (nI (4 * (7 - h % 8))))) (sk_h hi rr ex)) : sk_Ct Γ m_X0_bitsBehind [.int (nI h)] (sk_h hi rr ex) Q :=
  sk_Ct.of ok_X0_bitsBehind.2.2.2 (Nat.le_of_ble_eq_true rfl) (k_X0_bitsBehind_0 (by rw [sk_bits hh]; exact q))
theorem c_echoAt {b t h v : Nat} (hb : b < 4) (ht : t < 24) (hh : h < 32) (he : sk_nib (hi 3 ((b * 24 + t) * 4 + h / 8)) (7 - h % 8) = v) (q : Q (some (.int (nI v))) (sk_h hi rr ex)) : sk_Ct Γ m_X0_echoAt [.ref 2, .int (nI b), .int (nI t), .int (nI h)] (sk_h hi rr ex) Q := by
  refine sk_Ct.of ok_X0_echoAt.2.2.2 (Nat.le_of_ble_eq_true rfl) (k_X0_echoAt_0 ?_)
  rw [show (8 : Int32) = nI 8 from rfl, pk_div (by omega) (by decide) (by decide)]
  refine c_rowOf (k_X0_echoAt_13 (vp_in_nI (by omega) (by decide)) ?_)
  rw [nI_clamp (by omega)]
  refine c_bits hh (k_X0_echoAt_22 ?_)
  rw [sk_nib_ushr _ (by omega), he]
  exact q
theorem c_judge {b t ns nm m : Nat} {f : Nat → Nat} (hb : b < 4) (ht : t < 24) (hf : ∀ h, h < 32 → sk_nib (hi 3 ((b * 24 + t) * 4 + h / 8)) (7 - h % 8) = f h) (hns : hi 2 2 = nI ns) (hnm : hi 2 3 = nI nm) (h1 : ns ≤ 9) (h2 : nm ≤ 32) (hm : m < 2 ^ 24) (h4 : hi 4 b = nI m)
    (q : ∀ m', m' < 2 ^ 24 → (∀ j, j < 24 → m'.testBit j = if j = t then decide (nm ≤ sk_cn f ns 32) else m.testBit j) → Q none (sk_h (sk_wi hi 4 b (nI m')) rr ex)) : sk_Ct Γ m_X0_judge [.ref 2, .int (nI b), .int (nI t)] (sk_h hi rr ex) Q := by
  have hfl : ∀ h, h < 32 → f h < 16 := fun h hh => by rw [← hf h hh]; exact sk_nib_lt _ _
  refine sk_Ct.of ok_X0_judge.2.2.2 (Nat.le_of_ble_eq_true rfl) (k_X0_judge_0 ?_)
  have loop : ∀ n h, h + n = 32 → sk_Go Γ (sk_M Γ m_X0_judge Q) (0, 0) 5 [some (.ref 2), some (.int (nI b)), some (.int (nI t)), some (.int (nI (sk_cn f ns h))), some (.int (nI h))] [] (sk_h hi rr ex) := by
    intro n
    induction n with
    | zero =>
      intro h hh
      have e : h = 32 := by omega
      subst e
      have hc := sk_cn_le f ns 32
      refine k_X0_judge_5 (fun _ _ => vp_in_nI hb (by decide)) (fun _ c => ?_) (fun _ _ => vp_in_nI hb (by decide)) (fun _ c => ?_) (fun c => absurd (nI_le (Nat.le_refl 32) (by decide)) c)
      · rw [hnm, nI_ltI (by omega) (by omega)] at c
        rw [nI_clamp (by omega), h4]
        obtain ⟨m', a1, a2, a3⟩ := sk_bit_clr m hm ht
        rw [a2]
        refine q m' a1 (fun j hj => ?_)
        rw [a3 j hj]
        by_cases hjt : j = t
        · simp [hjt]; omega
        · simp [hjt]
      · rw [hnm, nI_ltI (by omega) (by omega)] at c
        rw [nI_clamp (by omega), h4]
        obtain ⟨m', a1, a2, a3⟩ := sk_bit_or m hm ht
        rw [a2]
        refine q m' a1 (fun j hj => ?_)
        rw [a3 j hj]
        by_cases hjt : j = t
        · simp [hjt]; omega
        · simp [hjt]
    | succ n ih =>
      intro h hh
      have hn : ¬ (32 : Int32) ≤ nI h := nI_ge (b := 32) (by omega) (by decide)
      refine k_X0_judge_5 (fun c => absurd c hn) (fun c => absurd c hn) (fun c => absurd c hn) (fun c => absurd c hn) (fun _ => c_echoAt hb ht (by omega) (hf h (by omega)) ?_)
      have hl := hfl h (by omega)
      refine k_X0_judge_20 (fun c => ?_) (fun c => ?_)
      · rw [hns, nI_ltI (by omega) (by omega)] at c
        have := ih (h + 1) (by omega)
        rw [sk_cn, if_neg (by omega), Nat.add_zero] at this
        rw [nI_1]
        exact this
      · rw [hns, nI_ltI (by omega) (by omega)] at c
        have := ih (h + 1) (by omega)
        rw [sk_cn, if_pos (by omega)] at this
        rw [nI_1, nI_1]
        exact this
  exact loop 32 0 (by omega)
theorem c_isBarred {b t : Nat} {p : Nat → Bool} (hb : b < 4) (ht : t < 24) (h4 : sk_bb (hi 4 b) p) (q1 : p t = true → Q (some (.int 1)) (sk_h hi rr ex)) (q0 : p t = false → Q (some (.int 0)) (sk_h hi rr ex)) : sk_Ct Γ m_X0_isBarred [.ref 2, .int (nI b), .int (nI t)] (sk_h hi rr ex) Q := by
  obtain ⟨m, a1, a2, a3⟩ := h4
  refine sk_Ct.of ok_X0_isBarred.2.2.2 (Nat.le_of_ble_eq_true rfl) (k_X0_isBarred_0 (vp_in_nI hb (by decide)) (fun c => ?_) (fun c => ?_))
  · rw [nI_clamp (by omega), a2, sk_bit_get m a1 ht, a3 t ht] at c
    exact q0 (by simpa using c)
  · rw [nI_clamp (by omega), a2, sk_bit_get m a1 ht, a3 t ht] at c
    exact q1 c
end BOARDS
