section PUB1
variable {Γ : sk_Cx} {Q : Option Value → sk_Hp → Prop} {rr : Nat → Nat → Option Nat} {ex : List (Nat × Nat)} {hi : Nat → Nat → Int32} {S : sk_S}
theorem sk_rg_n {x : Int32} {l u : Nat} (h : sk_rg x l u) (hu : u < 2 ^ 31) : x = nI (sk_n x) ∧ l ≤ sk_n x ∧ sk_n x ≤ u := by
  obtain ⟨j, h1, h2, rfl⟩ := h
  rw [sk_n_nI (by omega)]
  exact ⟨rfl, h1, h2⟩
def sk_Pboard (x1 x2 x3 x4 : Int32) : Prop := sk_rg x1 0 3 ∧ sk_rg x2 0 23 ∧ sk_rg x3 0 3 ∧ ∀ i, i < 8 → sk_nib x4 i ≤ 9
def sk_Pecho (x1 x2 x3 x4 : Int32) : Prop := (sk_rg x1 0 3 ∧ sk_rg x2 0 23 ∧ sk_rg x3 0 31) ∧ sk_rg x4 0 9
def sk_Pnoise (x1 x2 : Int32) : Prop := sk_rg x1 1 9 ∧ sk_rg x2 1 32
/-- a changed heap of the class, behind forgetTrace -/
theorem sk_Cn_f {hi1 : Nat → Nat → Int32} (h : sk_Cn hi1 S) : sk_Cn (sk_wi hi1 0 5 (-1)) S := sk_Cn_0 h (fun a h1 _ => sk_wi_o _ _ _ (by omega))
theorem cx_shift {x1 : Int32} (hG : sk_G S) (hC : sk_Cn hi S) (q1 : sk_rg x1 1 8 → ∀ hi', sk_Cn hi' (S.1, (S.2.1.1, S.2.1.2.1, sk_n x1), S.2.2) → hi' 0 5 = -1 → (∀ a, 20 ≤ a → hi' a = hi a) → Q (some (.int 1)) (sk_h hi' rr ex)) (q0 : ¬ sk_rg x1 1 8 → Q (some (.int 0)) (sk_h hi rr ex)) : sk_Ct Γ m_X8_shift [.ref 0, .int x1] (sk_h hi rr ex) Q := by
  refine sk_Ct.of ok_X8_shift.2.2.2 (Nat.le_of_ble_eq_true rfl) (k_X8_shift_0 (c_X8_within (l := 1) (u := 8) (by decide) (by decide) (by decide) (by decide) (fun z => k_X8_shift_7 (fun _ => c_forget (k_X8_shift_27 ?_)) (fun c => absurd c sk_n10)) (fun z => k_X8_shift_7 (fun c => absurd rfl c) (fun _ => q0 z))))
  obtain ⟨e1, -, -⟩ := sk_rg_n z (by decide)
  refine q1 z _ (sk_Cn_f ?_) (sk_wi_self _ _ _ _) (fun a ha => by rw [sk_wi_o _ _ _ (by omega), sk_wi_o _ _ _ (by omega)])
  obtain ⟨c1, c2, c3, c4, c5⟩ := hC
  exact ⟨c1, ⟨c2.1, c2.2.1, (sk_wi_self _ _ _ _).trans e1⟩, c3, c4, c5⟩
theorem cx_noise {x1 x2 : Int32} (hG : sk_G S) (hC : sk_Cn hi S) (q1 : sk_Pnoise x1 x2 → ∀ hi', sk_Cn hi' (S.1, (sk_n x1, sk_n x2, S.2.1.2.2), S.2.2) → hi' 0 5 = -1 → (∀ a, 20 ≤ a → hi' a = hi a) → Q (some (.int 1)) (sk_h hi' rr ex)) (q0 : ¬ sk_Pnoise x1 x2 → Q (some (.int 0)) (sk_h hi rr ex)) : sk_Ct Γ m_X8_noise [.ref 0, .int x1, .int x2] (sk_h hi rr ex) Q := by
  refine sk_Ct.of ok_X8_noise.2.2.2 (Nat.le_of_ble_eq_true rfl) (k_X8_noise_0 (c_X8_within (l := 1) (u := 9) (by decide) (by decide) (by decide) (by decide) (fun z => k_X8_noise_7 (fun c => absurd c sk_n10) (fun _ => c_X8_within (l := 1) (u := 32) (by decide) (by decide) (by decide) (by decide) (fun z2 => k_X8_noise_17 (fun _ => ?_) (fun c => absurd c sk_n10)) (fun z2 => k_X8_noise_17 (fun c => absurd rfl c) (fun _ => q0 (fun w => z2 w.2))))) (fun z => k_X8_noise_7 (fun _ => q0 (fun w => z w.1)) (fun c => absurd rfl c))))
  obtain ⟨e1, a1, b1⟩ := sk_rg_n z (by decide)
  obtain ⟨e2, a2, b2⟩ := sk_rg_n z2 (by decide)
  rw [show ([.ref 2, .int x1, .int x2] : List Value) = [.ref 2, .int (nI (sk_n x1)), .int (nI (sk_n x2))] by rw [← e1, ← e2]]
  exact c_setNoise ⟨a1, b1⟩ ⟨a2, b2⟩ hC (fun hi' d1 d2 => k_X8_noise_34 (c_forget (k_X8_noise_38 (q1 ⟨z, z2⟩ _ (sk_Cn_f d1) (sk_wi_self _ _ _ _) (fun a ha => by rw [sk_wi_o _ _ _ (by omega), d2 a (by omega) (by omega)])))))
theorem cx_blank {x1 : Int32} (hG : sk_G S) (hC : sk_Cn hi S) (q1 : sk_rg x1 0 3 → ∀ hi', sk_Cn hi' (sk_u0 S.1 (sk_n x1), S.2) → hi' 0 5 = -1 → (∀ a, 20 ≤ a → hi' a = hi a) → Q (some (.int 1)) (sk_h hi' rr ex)) (q0 : ¬ sk_rg x1 0 3 → Q (some (.int 0)) (sk_h hi rr ex)) : sk_Ct Γ m_X8_blank [.ref 0, .int x1] (sk_h hi rr ex) Q := by
  refine sk_Ct.of ok_X8_blank.2.2.2 (Nat.le_of_ble_eq_true rfl) (k_X8_blank_0 (c_X8_isBoard (fun z => k_X8_blank_4 (fun _ => ?_) (fun c => absurd c sk_n10)) (fun z => k_X8_blank_4 (fun c => absurd rfl c) (fun _ => q0 z))))
  obtain ⟨e1, a1, b1⟩ := sk_rg_n z (by decide)
  rw [show ([.ref 2, .int x1] : List Value) = [.ref 2, .int (nI (sk_n x1))] by rw [← e1]]
  exact c_wipe (by omega) hG hC (fun hi' d1 d2 => k_X8_blank_20 (c_forget (k_X8_blank_24 (q1 z _ (sk_Cn_f d1) (sk_wi_self _ _ _ _) (fun a ha => by rw [sk_wi_o _ _ _ (by omega), d2 a (by omega) (by omega)])))))
theorem cx_echo {x1 x2 x3 x4 : Int32} (hG : sk_G S) (hC : sk_Cn hi S) (q1 : sk_Pecho x1 x2 x3 x4 → ∀ hi', sk_Cn hi' (sk_ue S.1 (sk_n x1) (sk_n x2) (sk_n x3) (sk_n x4), S.2) → hi' 0 5 = -1 → (∀ a, 20 ≤ a → hi' a = hi a) → Q (some (.int 1)) (sk_h hi' rr ex)) (q0 : ¬ sk_Pecho x1 x2 x3 x4 → Q (some (.int 0)) (sk_h hi rr ex)) : sk_Ct Γ m_X8_echo [.ref 0, .int x1, .int x2, .int x3, .int x4] (sk_h hi rr ex) Q := by
  refine sk_Ct.of ok_X8_echo.2.2.2 (Nat.le_of_ble_eq_true rfl) (k_X8_echo_0 (c_X8_isPlace (fun z1 z2 z3 => k_X8_echo_6 (fun c => absurd c sk_n10) (fun _ => c_X8_within (l := 0) (u := 9) (by decide) (by decide) (by decide) (by decide) (fun z4 => k_X8_echo_17 (fun _ => ?_) (fun c => absurd c sk_n10)) (fun z4 => k_X8_echo_17 (fun c => absurd rfl c) (fun _ => q0 (fun w => z4 w.2))))) (fun z => k_X8_echo_6 (fun _ => q0 (fun w => z w.1)) (fun c => absurd rfl c))))
  obtain ⟨e1, a1, b1⟩ := sk_rg_n z1 (by decide)
  obtain ⟨e2, a2, b2⟩ := sk_rg_n z2 (by decide)
  obtain ⟨e3, a3, b3⟩ := sk_rg_n z3 (by decide)
  obtain ⟨e4, a4, b4⟩ := sk_rg_n z4 (by decide)
  rw [show ([.ref 2, .int x1, .int x2, .int x3, .int x4] : List Value) = [.ref 2, .int (nI (sk_n x1)), .int (nI (sk_n x2)), .int (nI (sk_n x3)), .int (nI (sk_n x4))] by rw [← e1, ← e2, ← e3, ← e4]]
  exact c_putEcho (by omega) (by omega) (by omega) b4 hG hC (fun hi' d1 d2 => k_X8_echo_37 (c_forget (k_X8_echo_41 (q1 ⟨⟨z1, z2, z3⟩, z4⟩ _ (sk_Cn_f d1) (sk_wi_self _ _ _ _) (fun a ha => by rw [sk_wi_o _ _ _ (by omega), d2 a (by omega) (by omega)])))))
theorem cx_board {x1 x2 x3 x4 : Int32} (hG : sk_G S) (hC : sk_Cn hi S) (q1 : sk_Pboard x1 x2 x3 x4 → ∀ hi', sk_Cn hi' (sk_ub S.1 (sk_n x1) (sk_n x2) (sk_n x3) x4, S.2) → hi' 0 5 = -1 → (∀ a, 20 ≤ a → hi' a = hi a) → Q (some (.int 1)) (sk_h hi' rr ex)) (q0 : ¬ sk_Pboard x1 x2 x3 x4 → Q (some (.int 0)) (sk_h hi rr ex)) : sk_Ct Γ m_X8_board [.ref 0, .int x1, .int x2, .int x3, .int x4] (sk_h hi rr ex) Q := by
  refine sk_Ct.of ok_X8_board.2.2.2 (Nat.le_of_ble_eq_true rfl) (k_X8_board_0 (c_X8_isTone (fun z1 z2 => k_X8_board_5 (fun c => absurd c sk_n10) (fun _ => c_X8_within (l := 0) (u := 3) (by decide) (by decide) (by decide) (by decide) (fun z3 => k_X8_board_14 (fun c => absurd c sk_n10) (fun _ => c_areEchoes (fun z4 => k_X8_board_22 (fun _ => ?_) (fun c => absurd c sk_n10)) (fun z4 => k_X8_board_22 (fun c => absurd rfl c) (fun _ => q0 (fun w => z4 w.2.2.2))))) (fun z3 => k_X8_board_14 (fun _ => q0 (fun w => z3 w.2.2.1)) (fun c => absurd rfl c)))) (fun z => k_X8_board_5 (fun _ => q0 (fun w => z ⟨w.1, w.2.1⟩)) (fun c => absurd rfl c))))
  obtain ⟨e1, a1, b1⟩ := sk_rg_n z1 (by decide)
  obtain ⟨e2, a2, b2⟩ := sk_rg_n z2 (by decide)
  obtain ⟨e3, a3, b3⟩ := sk_rg_n z3 (by decide)
  rw [show ([.ref 2, .int x1, .int x2, .int x3, .int x4] : List Value) = [.ref 2, .int (nI (sk_n x1)), .int (nI (sk_n x2)), .int (nI (sk_n x3)), .int x4] by rw [← e1, ← e2, ← e3]]
  exact c_putEight (by omega) (by omega) (by omega) hG hC (fun hi' d1 d2 => k_X8_board_42 (c_forget (k_X8_board_46 (q1 ⟨z1, z2, z3, z4⟩ _ (sk_Cn_f d1) (sk_wi_self _ _ _ _) (fun a ha => by rw [sk_wi_o _ _ _ (by omega), d2 a (by omega) (by omega)])))))
noncomputable def vl_tell (S : sk_S) (x1 x2 x3 x4 : Int32) : Int32 := sk_if (sk_rg x1 0 3 ∧ sk_rg x2 0 23 ∧ sk_rg x3 0 31) (if x4 = 0 then nI (S.1 (sk_n x1) (sk_n x2) (sk_n x3)) else if x4 = 1 then nI (sk_wo S (sk_n x1) (sk_n x2) (sk_n x3)) else if x4 = 2 then (if sk_bar S (sk_n x1) (sk_n x2) = true then 1 else 0) else -1) (-1)
theorem sk_out {x : Int32} {u : Nat} (hu : u < 2 ^ 31) (c : x.toInt < 0 ∨ (u : Int) < x.toInt) {j : Nat} (hj : j ≤ u) : ¬ x = nI j := by
  rintro rfl
  rw [nI_toInt (by omega)] at c
  omega
theorem cx_tell {x1 x2 x3 x4 : Int32} (hG : sk_G S) (hC : sk_Cn hi S) (q : Q (some (.int (vl_tell S x1 x2 x3 x4))) (sk_h hi rr ex)) : sk_Ct Γ m_X8_tell [.ref 0, .int x1, .int x2, .int x3, .int x4] (sk_h hi rr ex) Q := by
  unfold vl_tell at q
  refine sk_Ct.of ok_X8_tell.2.2.2 (Nat.le_of_ble_eq_true rfl) (k_X8_tell_0 (c_X8_isPlace (fun z1 z2 z3 => ?_) (fun z => k_X8_tell_6 (fun c => absurd rfl c) (fun c => absurd rfl c) (fun c => absurd rfl c) (fun c => absurd rfl c) (fun _ => by rw [sk_if_f z] at q; exact q))))
  rw [sk_if_t ⟨z1, z2, z3⟩] at q
  obtain ⟨e1, a1, b1⟩ := sk_rg_n z1 (by decide)
  obtain ⟨e2, a2, b2⟩ := sk_rg_n z2 (by decide)
  obtain ⟨e3, a3, b3⟩ := sk_rg_n z3 (by decide)
  refine k_X8_tell_6 (fun _ c => ?_) (fun _ c => ?_) (fun _ c => ?_) (fun _ c => ?_) (fun c => absurd c sk_n10)
  · rw [if_neg (show ¬ x4 = 0 from sk_out (u := 2) (by decide) c (j := 0) (by decide)), if_neg (show ¬ x4 = 1 from sk_out (u := 2) (by decide) c (j := 1) (by decide)), if_neg (show ¬ x4 = 2 from sk_out (u := 2) (by decide) c (j := 2) (by decide))] at q
    exact q
  · rw [if_pos c] at q
    rw [show ([.ref 2, .int x1, .int x2, .int x3] : List Value) = [.ref 2, .int (nI (sk_n x1)), .int (nI (sk_n x2)), .int (nI (sk_n x3))] by rw [← e1, ← e2, ← e3]]
    exact c_echoAt (by omega) (by omega) (by omega) (hC.1 _ (by omega) _ (by omega) _ (by omega)) (k_X8_tell_53 q)
  · subst c
    rw [if_neg (by decide), if_pos rfl] at q
    rw [show ([.ref 2, .int x1, .int x2, .int x3] : List Value) = [.ref 2, .int (nI (sk_n x1)), .int (nI (sk_n x2)), .int (nI (sk_n x3))] by rw [← e1, ← e2, ← e3]]
    exact c_worthAt hG hC (by omega) (by omega) (by omega) (k_X8_tell_67 q)
  · subst c
    rw [if_neg (by decide), if_neg (by decide), if_pos rfl] at q
    rw [show ([.ref 2, .int x1, .int x2] : List Value) = [.ref 2, .int (nI (sk_n x1)), .int (nI (sk_n x2))] by rw [← e1, ← e2]]
    exact c_isBarred (by omega) (by omega) (hC.2.2.1 _ (by omega)) (fun p => k_X8_tell_80 (fun c => absurd c sk_n10) (fun _ => by rw [if_pos p] at q; exact q)) (fun p => k_X8_tell_80 (fun _ => by rw [if_neg (by rw [p]; decide)] at q; exact q) (fun c => absurd rfl c))
end PUB1
